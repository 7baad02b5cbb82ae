def f_X12_whyNotRequest (ga : Nat → Int32) (v1 : Int32) (v2 : Int32) : Option (Int32) :=
  (f_X12_whyNotGate ga v1).bind fun o1 =>
  if o1 = 0 then (
    (f_X12_ofTicket v1).bind fun o2 =>
    (rd ga 463 (o2 + 3)).bind fun x3 =>
    (f_X12_ofService v2).bind fun o4 =>
    (rd ga 463 (o4 + 1)).bind fun x5 =>
    if x3 = x5 then (
      (f_X12_whyNotNew ga v1).bind fun o6 =>
      some (o6))
    else (
      some (3)))
  else (
    some (o1))
set_option maxRecDepth 100000 in
set_option maxHeartbeats 4000000 in
theorem c_X12_whyNotRequest (l : Launch) {G : (Nat → Prop) → State → Heap → Prop} (hG : vG G) (D : va_G) (c9 : Nat → ClassId) (a_ga : Nat) (ga : Nat → Int32) (v1 : Int32) (v2 : Int32) {o : Int32} (hf : f_X12_whyNotRequest ga v1 v2 = some o) : mI l yX12_whyNotRequest (wq yX12_whyNotRequest cX12_whyNotRequest 4 (some .int)) { frames := 4, cells := 0, slots := 0, locals := 87 } G D (tyA c9) [.ref a_ga, .int v1, .int v2] ([(a_ga, .inl (c9 0, 463, .inl ga))]) [] 0 0 o ([(a_ga, .inl (c9 0, 463, .inl ga))]) := by
  refine mI_of hG (cc := cX12_whyNotRequest) (maxL := 4) (ty := .int) (by decide) rfl (Nat.le_of_ble_eq_true rfl) ?_
  intro p e s m args below meth c A X
  have X : vX p s m args meth c cX12_whyNotRequest 4 (some .int) RX12 (wq yX12_whyNotRequest cX12_whyNotRequest 4 (some .int)) D (tyA c9) G A := X
  refine v_eq (lv2 := [(0, .ref a_ga), (1, .int v1), (2, .int v2)]) rfl rfl rfl rfl ?_
  rw [f_X12_whyNotRequest] at hf
  refine v_aload_n X dX12_whyNotRequest_0 0 rfl rfl 1 rfl ?_
  refine v_iload_n X dX12_whyNotRequest_1 1 rfl rfl 2 rfl ?_
  obtain ⟨o1, ho1, hf⟩ := bnd hf
  refine v_callSi X (As := [.ref a_ga, .int v1]) (rest := []) (ws' := ([(a_ga, .inl (c9 0, 463, .inl ga))])) (c_X12_whyNotGate l hG D c9 a_ga ga v1 ho1) 2 (gS wm_70 wm_71 wm_37 wm_72) rfl rfl rfl pd_X12_whyNotGate ⟨Nat.le_of_ble_eq_true rfl, Nat.le_of_ble_eq_true rfl⟩ rfl rfl (Nat.le_of_ble_eq_true rfl) ⟨Nat.zero_le _, Nat.zero_le _⟩ [0] [] [0] rfl rfl rfl rfl dX12_whyNotRequest_2 5 rfl ?_
  refine v_istore_n X (lv' := [(3, .int o1), (0, .ref a_ga), (1, .int v1), (2, .int v2)]) dX12_whyNotRequest_5 rfl (by decide) rfl 6 rfl ?_
  refine v_iload_n X dX12_whyNotRequest_6 0 rfl rfl 7 rfl ?_
  refine v_if_eq X (tgt := 12) dX12_whyNotRequest_7 rfl 10 rfl hf (fun hf => ?_) (fun hf => ?_)
  · refine v_aload_n X dX12_whyNotRequest_12 1 rfl rfl 13 rfl ?_
    refine v_iload_n X dX12_whyNotRequest_13 2 rfl rfl 14 rfl ?_
    obtain ⟨o2, ho2, hf⟩ := bnd hf
    refine v_callSi X (As := [.int v1]) (rest := [.ref a_ga]) (ws' := ([(a_ga, .inl (c9 0, 463, .inl ga))])) (c_X12_ofTicket l hG D c9 v1 ho2) 1 (gS wm_55 wm_56 wm_37 wm_57) rfl rfl rfl pd_X12_ofTicket ⟨Nat.le_of_ble_eq_true rfl, Nat.le_of_ble_eq_true rfl⟩ rfl rfl (Nat.le_of_ble_eq_true rfl) ⟨Nat.zero_le _, Nat.zero_le _⟩ [] [0] [0] rfl rfl rfl rfl dX12_whyNotRequest_14 17 rfl ?_
    refine v_iconst X dX12_whyNotRequest_17 ic_3 18 rfl ?_
    refine v_iadd X dX12_whyNotRequest_18 19 rfl ?_
    obtain ⟨x3, hx3, hf⟩ := bnd hf
    refine v_iald X dX12_whyNotRequest_19 0 0 rfl rfl hx3 20 rfl ?_
    refine v_aload_n X dX12_whyNotRequest_20 1 rfl rfl 21 rfl ?_
    refine v_iload_n X dX12_whyNotRequest_21 3 rfl rfl 22 rfl ?_
    obtain ⟨o4, ho4, hf⟩ := bnd hf
    refine v_callSi X (As := [.int v2]) (rest := [.ref a_ga, .int x3]) (ws' := ([(a_ga, .inl (c9 0, 463, .inl ga))])) (c_X12_ofService l hG D c9 v2 ho4) 1 (gS wm_76 wm_77 wm_37 wm_78) rfl rfl rfl pd_X12_ofService ⟨Nat.le_of_ble_eq_true rfl, Nat.le_of_ble_eq_true rfl⟩ rfl rfl (Nat.le_of_ble_eq_true rfl) ⟨Nat.zero_le _, Nat.zero_le _⟩ [] [0] [0] rfl rfl rfl rfl dX12_whyNotRequest_22 25 rfl ?_
    refine v_iconst X dX12_whyNotRequest_25 ic_1 26 rfl ?_
    refine v_iadd X dX12_whyNotRequest_26 27 rfl ?_
    obtain ⟨x5, hx5, hf⟩ := bnd hf
    refine v_iald X dX12_whyNotRequest_27 0 0 rfl rfl hx5 28 rfl ?_
    refine v_icmp_ne X (tgt := 39) dX12_whyNotRequest_28 rfl 31 rfl hf (fun hf => ?_) (fun hf => ?_)
    · refine v_iconst X dX12_whyNotRequest_39 ic_3 40 rfl ?_
      obtain rfl := Option.some.inj hf
      exact v_iret X (Nat.zero_le _) (Nat.zero_le _) dX12_whyNotRequest_40
    · refine v_aload_n X dX12_whyNotRequest_31 1 rfl rfl 32 rfl ?_
      refine v_iload_n X dX12_whyNotRequest_32 2 rfl rfl 33 rfl ?_
      obtain ⟨o6, ho6, hf⟩ := bnd hf
      refine v_callSi X (As := [.ref a_ga, .int v1]) (rest := []) (ws' := ([(a_ga, .inl (c9 0, 463, .inl ga))])) (c_X12_whyNotNew l hG D c9 a_ga ga v1 ho6) 2 (gS wm_73 wm_74 wm_37 wm_75) rfl rfl rfl pd_X12_whyNotNew ⟨Nat.le_of_ble_eq_true rfl, Nat.le_of_ble_eq_true rfl⟩ rfl rfl (Nat.le_of_ble_eq_true rfl) ⟨Nat.zero_le _, Nat.zero_le _⟩ [0] [] [0] rfl rfl rfl rfl dX12_whyNotRequest_33 36 rfl ?_
      refine v_goto X (tgt := 40) dX12_whyNotRequest_36 rfl ?_
      obtain rfl := Option.some.inj hf
      exact v_iret X (Nat.zero_le _) (Nat.zero_le _) dX12_whyNotRequest_40
  · refine v_iload_n X dX12_whyNotRequest_10 0 rfl rfl 11 rfl ?_
    obtain rfl := Option.some.inj hf
    exact v_iret X (Nat.zero_le _) (Nat.zero_le _) dX12_whyNotRequest_11
theorem pd_X12_whyNotRequest : yX12_whyNotRequest.cls ≠ "java/lang/invoke/MethodHandle" ∧ yX12_whyNotRequest.cls ≠ "java/lang/invoke/VarHandle" ∧ (parseMethodDescriptor yX12_whyNotRequest.desc).map (fun d => d.parameters.length) = some 3 := by decide +kernel
def f_X12_newEnd (ga : Nat → Int32) (v1 : Int32) : Option (Int32) :=
  (f_X12_ofTicket v1).bind fun o1 =>
  (rd ga 463 0).bind fun x2 =>
  (rd ga 463 (o1 + 3)).bind fun x3 =>
  (f_X12_ofRealm x3).bind fun o4 =>
  (rd ga 463 (o4 + 1)).bind fun x5 =>
  (rd ga 463 (o1 + 7)).bind fun x6 =>
  (f_X12_lesser (x2 + x5) x6).bind fun o7 =>
  some (o7)
set_option maxRecDepth 100000 in
set_option maxHeartbeats 4000000 in
theorem c_X12_newEnd (l : Launch) {G : (Nat → Prop) → State → Heap → Prop} (hG : vG G) (D : va_G) (c9 : Nat → ClassId) (a_ga : Nat) (ga : Nat → Int32) (v1 : Int32) {o : Int32} (hf : f_X12_newEnd ga v1 = some o) : mI l yX12_newEnd (wq yX12_newEnd cX12_newEnd 3 (some .int)) { frames := 1, cells := 0, slots := 0, locals := 21 } G D (tyA c9) [.ref a_ga, .int v1] ([(a_ga, .inl (c9 0, 463, .inl ga))]) [] 0 0 o ([(a_ga, .inl (c9 0, 463, .inl ga))]) := by
  refine mI_of hG (cc := cX12_newEnd) (maxL := 3) (ty := .int) (by decide) rfl (Nat.le_of_ble_eq_true rfl) ?_
  intro p e s m args below meth c A X
  have X : vX p s m args meth c cX12_newEnd 3 (some .int) RX12 (wq yX12_newEnd cX12_newEnd 3 (some .int)) D (tyA c9) G A := X
  refine v_eq (lv2 := [(0, .ref a_ga), (1, .int v1)]) rfl rfl rfl rfl ?_
  rw [f_X12_newEnd] at hf
  refine v_iload_n X dX12_newEnd_0 1 rfl rfl 1 rfl ?_
  obtain ⟨o1, ho1, hf⟩ := bnd hf
  refine v_callSi X (As := [.int v1]) (rest := []) (ws' := ([(a_ga, .inl (c9 0, 463, .inl ga))])) (c_X12_ofTicket l hG D c9 v1 ho1) 1 (gS wm_55 wm_56 wm_37 wm_57) rfl rfl rfl pd_X12_ofTicket ⟨Nat.le_of_ble_eq_true rfl, Nat.le_of_ble_eq_true rfl⟩ rfl rfl (Nat.le_of_ble_eq_true rfl) ⟨Nat.zero_le _, Nat.zero_le _⟩ [] [0] [0] rfl rfl rfl rfl dX12_newEnd_1 4 rfl ?_
  refine v_istore_n X (lv' := [(2, .int o1), (0, .ref a_ga), (1, .int v1)]) dX12_newEnd_4 rfl (by decide) rfl 5 rfl ?_
  refine v_aload_n X dX12_newEnd_5 1 rfl rfl 6 rfl ?_
  refine v_iconst X dX12_newEnd_6 ic_0 7 rfl ?_
  obtain ⟨x2, hx2, hf⟩ := bnd hf
  refine v_iald X dX12_newEnd_7 0 0 rfl rfl hx2 8 rfl ?_
  refine v_aload_n X dX12_newEnd_8 1 rfl rfl 9 rfl ?_
  refine v_aload_n X dX12_newEnd_9 1 rfl rfl 10 rfl ?_
  refine v_iload_n X dX12_newEnd_10 0 rfl rfl 11 rfl ?_
  refine v_iconst X dX12_newEnd_11 ic_3 12 rfl ?_
  refine v_iadd X dX12_newEnd_12 13 rfl ?_
  obtain ⟨x3, hx3, hf⟩ := bnd hf
  refine v_iald X dX12_newEnd_13 0 0 rfl rfl hx3 14 rfl ?_
  obtain ⟨o4, ho4, hf⟩ := bnd hf
  refine v_callSi X (As := [.int x3]) (rest := [.ref a_ga, .int x2]) (ws' := ([(a_ga, .inl (c9 0, 463, .inl ga))])) (c_X12_ofRealm l hG D c9 x3 ho4) 1 (gS wm_49 wm_50 wm_37 wm_51) rfl rfl rfl pd_X12_ofRealm ⟨Nat.le_of_ble_eq_true rfl, Nat.le_of_ble_eq_true rfl⟩ rfl rfl (Nat.le_of_ble_eq_true rfl) ⟨Nat.zero_le _, Nat.zero_le _⟩ [] [0] [0] rfl rfl rfl rfl dX12_newEnd_14 17 rfl ?_
  refine v_iconst X dX12_newEnd_17 ic_1 18 rfl ?_
  refine v_iadd X dX12_newEnd_18 19 rfl ?_
  obtain ⟨x5, hx5, hf⟩ := bnd hf
  refine v_iald X dX12_newEnd_19 0 0 rfl rfl hx5 20 rfl ?_
  refine v_iadd X dX12_newEnd_20 21 rfl ?_
  refine v_aload_n X dX12_newEnd_21 1 rfl rfl 22 rfl ?_
  refine v_iload_n X dX12_newEnd_22 0 rfl rfl 23 rfl ?_
  refine v_bipush X dX12_newEnd_23 bp_7 25 rfl ?_
  refine v_iadd X dX12_newEnd_25 26 rfl ?_
  obtain ⟨x6, hx6, hf⟩ := bnd hf
  refine v_iald X dX12_newEnd_26 0 0 rfl rfl hx6 27 rfl ?_
  obtain ⟨o7, ho7, hf⟩ := bnd hf
  refine v_callSi X (As := [.int (x2 + x5), .int x6]) (rest := []) (ws' := ([(a_ga, .inl (c9 0, 463, .inl ga))])) (c_X12_lesser l hG D c9 (x2 + x5) x6 ho7) 2 (gS wm_39 wm_40 wm_37 wm_41) rfl rfl rfl pd_X12_lesser ⟨Nat.le_of_ble_eq_true rfl, Nat.le_of_ble_eq_true rfl⟩ rfl rfl (Nat.le_of_ble_eq_true rfl) ⟨Nat.zero_le _, Nat.zero_le _⟩ [] [0] [0] rfl rfl rfl rfl dX12_newEnd_27 30 rfl ?_
  obtain rfl := Option.some.inj hf
  exact v_iret X (Nat.zero_le _) (Nat.zero_le _) dX12_newEnd_30
theorem pd_X12_newEnd : yX12_newEnd.cls ≠ "java/lang/invoke/MethodHandle" ∧ yX12_newEnd.cls ≠ "java/lang/invoke/VarHandle" ∧ (parseMethodDescriptor yX12_newEnd.desc).map (fun d => d.parameters.length) = some 2 := by decide +kernel
def f_X12_whyNotRenew (ga : Nat → Int32) (v1 : Int32) : Option (Int32) :=
  (f_X12_ofTicket v1).bind fun o1 =>
  (rd ga 463 (o1 + 9)).bind fun x2 =>
  if x2 = 1 then (
    (f_X12_lives ga v1).bind fun o3 =>
    if o3 = 0 then (
      some (2))
    else (
      (f_X12_newEnd ga v1).bind fun o4 =>
      (rd ga 463 (o1 + 6)).bind fun x5 =>
      if x5 < o4 then (
        some (0))
      else (
        some (3))))
  else (
    some (1))
set_option maxRecDepth 100000 in
set_option maxHeartbeats 4000000 in
theorem c_X12_whyNotRenew (l : Launch) {G : (Nat → Prop) → State → Heap → Prop} (hG : vG G) (D : va_G) (c9 : Nat → ClassId) (a_ga : Nat) (ga : Nat → Int32) (v1 : Int32) {o : Int32} (hf : f_X12_whyNotRenew ga v1 = some o) : mI l yX12_whyNotRenew (wq yX12_whyNotRenew cX12_whyNotRenew 3 (some .int)) { frames := 2, cells := 0, slots := 0, locals := 43 } G D (tyA c9) [.ref a_ga, .int v1] ([(a_ga, .inl (c9 0, 463, .inl ga))]) [] 0 0 o ([(a_ga, .inl (c9 0, 463, .inl ga))]) := by
  refine mI_of hG (cc := cX12_whyNotRenew) (maxL := 3) (ty := .int) (by decide) rfl (Nat.le_of_ble_eq_true rfl) ?_
  intro p e s m args below meth c A X
  have X : vX p s m args meth c cX12_whyNotRenew 3 (some .int) RX12 (wq yX12_whyNotRenew cX12_whyNotRenew 3 (some .int)) D (tyA c9) G A := X
  refine v_eq (lv2 := [(0, .ref a_ga), (1, .int v1)]) rfl rfl rfl rfl ?_
  rw [f_X12_whyNotRenew] at hf
  refine v_iload_n X dX12_whyNotRenew_0 1 rfl rfl 1 rfl ?_
  obtain ⟨o1, ho1, hf⟩ := bnd hf
  refine v_callSi X (As := [.int v1]) (rest := []) (ws' := ([(a_ga, .inl (c9 0, 463, .inl ga))])) (c_X12_ofTicket l hG D c9 v1 ho1) 1 (gS wm_55 wm_56 wm_37 wm_57) rfl rfl rfl pd_X12_ofTicket ⟨Nat.le_of_ble_eq_true rfl, Nat.le_of_ble_eq_true rfl⟩ rfl rfl (Nat.le_of_ble_eq_true rfl) ⟨Nat.zero_le _, Nat.zero_le _⟩ [] [0] [0] rfl rfl rfl rfl dX12_whyNotRenew_1 4 rfl ?_
  refine v_istore_n X (lv' := [(2, .int o1), (0, .ref a_ga), (1, .int v1)]) dX12_whyNotRenew_4 rfl (by decide) rfl 5 rfl ?_
  refine v_aload_n X dX12_whyNotRenew_5 1 rfl rfl 6 rfl ?_
  refine v_iload_n X dX12_whyNotRenew_6 0 rfl rfl 7 rfl ?_
  refine v_bipush X dX12_whyNotRenew_7 bp_9 9 rfl ?_
  refine v_iadd X dX12_whyNotRenew_9 10 rfl ?_
  obtain ⟨x2, hx2, hf⟩ := bnd hf
  refine v_iald X dX12_whyNotRenew_10 0 0 rfl rfl hx2 11 rfl ?_
  refine v_iconst X dX12_whyNotRenew_11 ic_1 12 rfl ?_
  refine v_icmp_eq X (tgt := 17) dX12_whyNotRenew_12 rfl 15 rfl hf (fun hf => ?_) (fun hf => ?_)
  · refine v_aload_n X dX12_whyNotRenew_17 1 rfl rfl 18 rfl ?_
    refine v_iload_n X dX12_whyNotRenew_18 2 rfl rfl 19 rfl ?_
    obtain ⟨o3, ho3, hf⟩ := bnd hf
    refine v_callSi X (As := [.ref a_ga, .int v1]) (rest := []) (ws' := ([(a_ga, .inl (c9 0, 463, .inl ga))])) (c_X12_lives l hG D c9 a_ga ga v1 ho3) 2 (gS wm_58 wm_59 wm_37 wm_60) rfl rfl rfl pd_X12_lives ⟨Nat.le_of_ble_eq_true rfl, Nat.le_of_ble_eq_true rfl⟩ rfl rfl (Nat.le_of_ble_eq_true rfl) ⟨Nat.zero_le _, Nat.zero_le _⟩ [0] [] [0] rfl rfl rfl rfl dX12_whyNotRenew_19 22 rfl ?_
    refine v_if_ne X (tgt := 27) dX12_whyNotRenew_22 rfl 25 rfl hf (fun hf => ?_) (fun hf => ?_)
    · refine v_aload_n X dX12_whyNotRenew_27 1 rfl rfl 28 rfl ?_
      refine v_iload_n X dX12_whyNotRenew_28 2 rfl rfl 29 rfl ?_
      obtain ⟨o4, ho4, hf⟩ := bnd hf
      refine v_callSi X (As := [.ref a_ga, .int v1]) (rest := []) (ws' := ([(a_ga, .inl (c9 0, 463, .inl ga))])) (c_X12_newEnd l hG D c9 a_ga ga v1 ho4) 2 (gS wm_79 wm_80 wm_37 wm_81) rfl rfl rfl pd_X12_newEnd ⟨Nat.le_of_ble_eq_true rfl, Nat.le_of_ble_eq_true rfl⟩ rfl rfl (Nat.le_of_ble_eq_true rfl) ⟨Nat.zero_le _, Nat.zero_le _⟩ [0] [] [0] rfl rfl rfl rfl dX12_whyNotRenew_29 32 rfl ?_
      refine v_aload_n X dX12_whyNotRenew_32 1 rfl rfl 33 rfl ?_
      refine v_iload_n X dX12_whyNotRenew_33 0 rfl rfl 34 rfl ?_
      refine v_bipush X dX12_whyNotRenew_34 bp_6 36 rfl ?_
      refine v_iadd X dX12_whyNotRenew_36 37 rfl ?_
      obtain ⟨x5, hx5, hf⟩ := bnd hf
      refine v_iald X dX12_whyNotRenew_37 0 0 rfl rfl hx5 38 rfl ?_
      refine v_icmp_gt X (tgt := 45) dX12_whyNotRenew_38 rfl 41 rfl hf (fun hf => ?_) (fun hf => ?_)
      · refine v_iconst X dX12_whyNotRenew_45 ic_0 46 rfl ?_
        obtain rfl := Option.some.inj hf
        exact v_iret X (Nat.zero_le _) (Nat.zero_le _) dX12_whyNotRenew_46
      · refine v_iconst X dX12_whyNotRenew_41 ic_3 42 rfl ?_
        refine v_goto X (tgt := 46) dX12_whyNotRenew_42 rfl ?_
        obtain rfl := Option.some.inj hf
        exact v_iret X (Nat.zero_le _) (Nat.zero_le _) dX12_whyNotRenew_46
    · refine v_iconst X dX12_whyNotRenew_25 ic_2 26 rfl ?_
      obtain rfl := Option.some.inj hf
      exact v_iret X (Nat.zero_le _) (Nat.zero_le _) dX12_whyNotRenew_26
  · refine v_iconst X dX12_whyNotRenew_15 ic_1 16 rfl ?_
    obtain rfl := Option.some.inj hf
    exact v_iret X (Nat.zero_le _) (Nat.zero_le _) dX12_whyNotRenew_16
theorem pd_X12_whyNotRenew : yX12_whyNotRenew.cls ≠ "java/lang/invoke/MethodHandle" ∧ yX12_whyNotRenew.cls ≠ "java/lang/invoke/VarHandle" ∧ (parseMethodDescriptor yX12_whyNotRenew.desc).map (fun d => d.parameters.length) = some 2 := by decide +kernel
def f_X12_isUsed_L16 (ga : Nat → Int32) (v1 : Int32) (v2 : Int32) (v3 : Int32) : Nat → Int32 → Option (Int32)
  | 0, _ => none
  | n + 1, v4 =>
    (rd ga 463 8).bind fun x4 =>
    if x4 ≤ v4 then (
      some (0))
    else (
      (f_X12_ofUse v4).bind fun o5 =>
      (rd ga 463 (o5 + 0)).bind fun x6 =>
      if x6 = v1 then (
        (rd ga 463 (o5 + 1)).bind fun x7 =>
        if x7 = v2 then (
          (rd ga 463 (o5 + 2)).bind fun x8 =>
          if x8 = v3 then (
            some (1))
          else (
            f_X12_isUsed_L16 ga v1 v2 v3 n  (v4 + 1)))
        else (
          f_X12_isUsed_L16 ga v1 v2 v3 n  (v4 + 1)))
      else (
        f_X12_isUsed_L16 ga v1 v2 v3 n  (v4 + 1)))
def f_X12_isUsed (ga : Nat → Int32) (v1 : Int32) (v2 : Int32) : Option (Int32) :=
  (rd ga 463 0).bind fun x1 =>
  (f_X12_ofUser v1).bind fun o2 =>
  (rd ga 463 (o2 + 3)).bind fun x3 =>
  f_X12_isUsed_L16 ga v1 v2 (x1 + x3) 5000 0
set_option maxRecDepth 100000 in
set_option maxHeartbeats 4000000 in
theorem l_X12_isUsed_L16 (l : Launch) {G : (Nat → Prop) → State → Heap → Prop} (hG : vG G) (D : va_G) (c9 : Nat → ClassId) (a_ga : Nat) (ga : Nat → Int32) (v1 : Int32) (v2 : Int32) (v3 : Int32) {p : Program} {e : Env} {s : State} {m : MethodId} {args : Array Value} {below : List Frame} {meth : Method} {c : Code} {A : Nat → Prop} {F : va_W} (X : vX p s m args meth c cX12_isUsed 6 (some .boolean) RX12 (wq yX12_isUsed cX12_isUsed 6 (some .boolean)) D (tyA c9) G A) (o : Int32) :
    ∀ (n : Nat) (v4 : Int32), f_X12_isUsed_L16 ga v1 v2 v3 n v4 = some o → vW p l e { frames := 1, cells := 0, slots := 0, locals := 20 } s m args below meth c 6 D A F 0 0 (MQ below (eI D (tyA c9) A o (([(a_ga, .inl (c9 0, 463, .inl ga))]) ++ F)) args s 0 0 A) ([(a_ga, .inl (c9 0, 463, .inl ga))]) 16 [(0, .ref a_ga), (1, .int v1), (2, .int v2), (3, .int v3), (4, .int v4)] [] := by
  intro n
  induction n with
  | zero =>
    intro v4 hf
    rw [f_X12_isUsed_L16] at hf
    cases hf
  | succ n ih =>
    intro v4 hf
    rw [f_X12_isUsed_L16] at hf
    refine v_iload X dX12_isUsed_16 4 rfl 18 rfl ?_
    refine v_aload_n X dX12_isUsed_18 0 rfl rfl 19 rfl ?_
    refine v_bipush X dX12_isUsed_19 bp_8 21 rfl ?_
    obtain ⟨x4, hx4, hf⟩ := bnd hf
    refine v_iald X dX12_isUsed_21 0 0 rfl rfl hx4 22 rfl ?_
    refine v_icmp_ge X (tgt := 70) dX12_isUsed_22 rfl 25 rfl hf (fun hf => ?_) (fun hf => ?_)
    · refine v_iconst X dX12_isUsed_70 ic_0 71 rfl ?_
      obtain rfl := Option.some.inj hf
      exact v_zret X (Nat.zero_le _) (Nat.zero_le _) nz0 dX12_isUsed_71
    · refine v_iload X dX12_isUsed_25 4 rfl 27 rfl ?_
      obtain ⟨o5, ho5, hf⟩ := bnd hf
      refine v_callSi X (As := [.int v4]) (rest := []) (ws' := ([(a_ga, .inl (c9 0, 463, .inl ga))])) (c_X12_ofUse l hG D c9 v4 ho5) 1 (gS wm_82 wm_83 wm_37 wm_84) rfl rfl rfl pd_X12_ofUse ⟨Nat.le_of_ble_eq_true rfl, Nat.le_of_ble_eq_true rfl⟩ rfl rfl (Nat.le_of_ble_eq_true rfl) ⟨Nat.zero_le _, Nat.zero_le _⟩ [] [0] [0] rfl rfl rfl rfl dX12_isUsed_27 30 rfl ?_
      refine v_istore X (lv' := [(5, .int o5), (0, .ref a_ga), (1, .int v1), (2, .int v2), (3, .int v3), (4, .int v4)]) dX12_isUsed_30 (by decide) rfl 32 rfl ?_
      refine v_aload_n X dX12_isUsed_32 1 rfl rfl 33 rfl ?_
      refine v_iload X dX12_isUsed_33 0 rfl 35 rfl ?_
      refine v_iconst X dX12_isUsed_35 ic_0 36 rfl ?_
      refine v_iadd X dX12_isUsed_36 37 rfl ?_
      obtain ⟨x6, hx6, hf⟩ := bnd hf
      refine v_iald X dX12_isUsed_37 0 0 rfl rfl hx6 38 rfl ?_
      refine v_iload_n X dX12_isUsed_38 2 rfl rfl 39 rfl ?_
      refine v_icmp_ne X (tgt := 64) dX12_isUsed_39 rfl 42 rfl hf (fun hf => ?_) (fun hf => ?_)
      · refine v_iinc X (lv' := [(4, .int (v4 + 1)), (5, .int o5), (0, .ref a_ga), (1, .int v1), (2, .int v2), (3, .int v3)]) dX12_isUsed_64 5 rfl ic_1 (by decide) rfl 67 rfl ?_
        refine v_goto X (tgt := 16) dX12_isUsed_67 rfl ?_
        refine v_sub (lv' := [(0, .ref a_ga), (1, .int v1), (2, .int v2), (3, .int v3), (4, .int (v4 + 1))]) [2, 3, 4, 5, 0] rfl ?_
        exact ih (v4 + 1) hf
      · refine v_aload_n X dX12_isUsed_42 1 rfl rfl 43 rfl ?_
        refine v_iload X dX12_isUsed_43 0 rfl 45 rfl ?_
        refine v_iconst X dX12_isUsed_45 ic_1 46 rfl ?_
        refine v_iadd X dX12_isUsed_46 47 rfl ?_
        obtain ⟨x7, hx7, hf⟩ := bnd hf
        refine v_iald X dX12_isUsed_47 0 0 rfl rfl hx7 48 rfl ?_
        refine v_iload_n X dX12_isUsed_48 3 rfl rfl 49 rfl ?_
        refine v_icmp_ne X (tgt := 64) dX12_isUsed_49 rfl 52 rfl hf (fun hf => ?_) (fun hf => ?_)
        · refine v_iinc X (lv' := [(4, .int (v4 + 1)), (5, .int o5), (0, .ref a_ga), (1, .int v1), (2, .int v2), (3, .int v3)]) dX12_isUsed_64 5 rfl ic_1 (by decide) rfl 67 rfl ?_
          refine v_goto X (tgt := 16) dX12_isUsed_67 rfl ?_
          refine v_sub (lv' := [(0, .ref a_ga), (1, .int v1), (2, .int v2), (3, .int v3), (4, .int (v4 + 1))]) [2, 3, 4, 5, 0] rfl ?_
          exact ih (v4 + 1) hf
        · refine v_aload_n X dX12_isUsed_52 1 rfl rfl 53 rfl ?_
          refine v_iload X dX12_isUsed_53 0 rfl 55 rfl ?_
          refine v_iconst X dX12_isUsed_55 ic_2 56 rfl ?_
          refine v_iadd X dX12_isUsed_56 57 rfl ?_
          obtain ⟨x8, hx8, hf⟩ := bnd hf
          refine v_iald X dX12_isUsed_57 0 0 rfl rfl hx8 58 rfl ?_
          refine v_iload_n X dX12_isUsed_58 4 rfl rfl 59 rfl ?_
          refine v_icmp_ne X (tgt := 64) dX12_isUsed_59 rfl 62 rfl hf (fun hf => ?_) (fun hf => ?_)
          · refine v_iinc X (lv' := [(4, .int (v4 + 1)), (5, .int o5), (0, .ref a_ga), (1, .int v1), (2, .int v2), (3, .int v3)]) dX12_isUsed_64 5 rfl ic_1 (by decide) rfl 67 rfl ?_
            refine v_goto X (tgt := 16) dX12_isUsed_67 rfl ?_
            refine v_sub (lv' := [(0, .ref a_ga), (1, .int v1), (2, .int v2), (3, .int v3), (4, .int (v4 + 1))]) [2, 3, 4, 5, 0] rfl ?_
            exact ih (v4 + 1) hf
          · refine v_iconst X dX12_isUsed_62 ic_1 63 rfl ?_
            obtain rfl := Option.some.inj hf
            exact v_zret X (Nat.zero_le _) (Nat.zero_le _) nz1 dX12_isUsed_63
set_option maxRecDepth 100000 in
set_option maxHeartbeats 4000000 in
theorem c_X12_isUsed (l : Launch) {G : (Nat → Prop) → State → Heap → Prop} (hG : vG G) (D : va_G) (c9 : Nat → ClassId) (a_ga : Nat) (ga : Nat → Int32) (v1 : Int32) (v2 : Int32) {o : Int32} (hf : f_X12_isUsed ga v1 v2 = some o) : mI l yX12_isUsed (wq yX12_isUsed cX12_isUsed 6 (some .boolean)) { frames := 1, cells := 0, slots := 0, locals := 20 } G D (tyA c9) [.ref a_ga, .int v1, .int v2] ([(a_ga, .inl (c9 0, 463, .inl ga))]) [] 0 0 o ([(a_ga, .inl (c9 0, 463, .inl ga))]) := by
  refine mI_of hG (cc := cX12_isUsed) (maxL := 6) (ty := .boolean) (by decide) rfl (Nat.le_of_ble_eq_true rfl) ?_
  intro p e s m args below meth c A X
  have X : vX p s m args meth c cX12_isUsed 6 (some .boolean) RX12 (wq yX12_isUsed cX12_isUsed 6 (some .boolean)) D (tyA c9) G A := X
  refine v_eq (lv2 := [(0, .ref a_ga), (1, .int v1), (2, .int v2)]) rfl rfl rfl rfl ?_
  rw [f_X12_isUsed] at hf
  refine v_aload_n X dX12_isUsed_0 0 rfl rfl 1 rfl ?_
  refine v_iconst X dX12_isUsed_1 ic_0 2 rfl ?_
  obtain ⟨x1, hx1, hf⟩ := bnd hf
  refine v_iald X dX12_isUsed_2 0 0 rfl rfl hx1 3 rfl ?_
  refine v_aload_n X dX12_isUsed_3 0 rfl rfl 4 rfl ?_
  refine v_iload_n X dX12_isUsed_4 1 rfl rfl 5 rfl ?_
  obtain ⟨o2, ho2, hf⟩ := bnd hf
  refine v_callSi X (As := [.int v1]) (rest := [.ref a_ga, .int x1]) (ws' := ([(a_ga, .inl (c9 0, 463, .inl ga))])) (c_X12_ofUser l hG D c9 v1 ho2) 1 (gS wm_46 wm_47 wm_37 wm_48) rfl rfl rfl pd_X12_ofUser ⟨Nat.le_of_ble_eq_true rfl, Nat.le_of_ble_eq_true rfl⟩ rfl rfl (Nat.le_of_ble_eq_true rfl) ⟨Nat.zero_le _, Nat.zero_le _⟩ [] [0] [0] rfl rfl rfl rfl dX12_isUsed_5 8 rfl ?_
  refine v_iconst X dX12_isUsed_8 ic_3 9 rfl ?_
  refine v_iadd X dX12_isUsed_9 10 rfl ?_
  obtain ⟨x3, hx3, hf⟩ := bnd hf
  refine v_iald X dX12_isUsed_10 0 0 rfl rfl hx3 11 rfl ?_
  refine v_iadd X dX12_isUsed_11 12 rfl ?_
  refine v_istore_n X (lv' := [(3, .int (x1 + x3)), (0, .ref a_ga), (1, .int v1), (2, .int v2)]) dX12_isUsed_12 rfl (by decide) rfl 13 rfl ?_
  refine v_iconst X dX12_isUsed_13 ic_0 14 rfl ?_
  refine v_istore X (lv' := [(4, .int 0), (3, .int (x1 + x3)), (0, .ref a_ga), (1, .int v1), (2, .int v2)]) dX12_isUsed_14 (by decide) rfl 16 rfl ?_
  refine v_sub (lv' := [(0, .ref a_ga), (1, .int v1), (2, .int v2), (3, .int (x1 + x3)), (4, .int 0)]) [2, 3, 4, 1, 0] rfl ?_
  exact l_X12_isUsed_L16 l hG D c9 a_ga ga v1 v2 (x1 + x3) X _ 5000 0 hf
theorem pd_X12_isUsed : yX12_isUsed.cls ≠ "java/lang/invoke/MethodHandle" ∧ yX12_isUsed.cls ≠ "java/lang/invoke/VarHandle" ∧ (parseMethodDescriptor yX12_isUsed.desc).map (fun d => d.parameters.length) = some 3 := by decide +kernel
def f_X12_whyNotCheese (ga : Nat → Int32) (v1 : Int32) : Option (Int32) :=
  (f_X12_ofTicket v1).bind fun o1 =>
  (rd ga 463 (o1 + 1)).bind fun x2 =>
  if x2 = 1 then (
    (f_X12_lives ga v1).bind fun o3 =>
    if o3 = 0 then (
      some (2))
    else (
      (rd ga 463 (o1 + 2)).bind fun x4 =>
      (rd ga 463 (o1 + 3)).bind fun x5 =>
      (f_X12_isSkewed ga x4 x5).bind fun o6 =>
      if o6 = 0 then (
        (rd ga 463 (o1 + 2)).bind fun x7 =>
        (rd ga 463 (o1 + 4)).bind fun x8 =>
        (f_X12_isUsed ga x7 x8).bind fun o9 =>
        if o9 = 0 then (
          (rd ga 463 (o1 + 4)).bind fun x10 =>
          (f_X12_ofService x10).bind fun o11 =>
          (rd ga 463 (o11 + 2)).bind fun x12 =>
          if x12 = 0 then (
            some (5))
          else (
            some (0)))
        else (
          some (4)))
      else (
        some (3))))
  else (
    some (1))
set_option maxRecDepth 100000 in
set_option maxHeartbeats 4000000 in
theorem c_X12_whyNotCheese (l : Launch) {G : (Nat → Prop) → State → Heap → Prop} (hG : vG G) (D : va_G) (c9 : Nat → ClassId) (a_ga : Nat) (ga : Nat → Int32) (v1 : Int32) {o : Int32} (hf : f_X12_whyNotCheese ga v1 = some o) : mI l yX12_whyNotCheese (wq yX12_whyNotCheese cX12_whyNotCheese 3 (some .int)) { frames := 3, cells := 0, slots := 0, locals := 65 } G D (tyA c9) [.ref a_ga, .int v1] ([(a_ga, .inl (c9 0, 463, .inl ga))]) [] 0 0 o ([(a_ga, .inl (c9 0, 463, .inl ga))]) := by
  refine mI_of hG (cc := cX12_whyNotCheese) (maxL := 3) (ty := .int) (by decide) rfl (Nat.le_of_ble_eq_true rfl) ?_
  intro p e s m args below meth c A X
  have X : vX p s m args meth c cX12_whyNotCheese 3 (some .int) RX12 (wq yX12_whyNotCheese cX12_whyNotCheese 3 (some .int)) D (tyA c9) G A := X
  refine v_eq (lv2 := [(0, .ref a_ga), (1, .int v1)]) rfl rfl rfl rfl ?_
  rw [f_X12_whyNotCheese] at hf
  refine v_iload_n X dX12_whyNotCheese_0 1 rfl rfl 1 rfl ?_
  obtain ⟨o1, ho1, hf⟩ := bnd hf
  refine v_callSi X (As := [.int v1]) (rest := []) (ws' := ([(a_ga, .inl (c9 0, 463, .inl ga))])) (c_X12_ofTicket l hG D c9 v1 ho1) 1 (gS wm_55 wm_56 wm_37 wm_57) rfl rfl rfl pd_X12_ofTicket ⟨Nat.le_of_ble_eq_true rfl, Nat.le_of_ble_eq_true rfl⟩ rfl rfl (Nat.le_of_ble_eq_true rfl) ⟨Nat.zero_le _, Nat.zero_le _⟩ [] [0] [0] rfl rfl rfl rfl dX12_whyNotCheese_1 4 rfl ?_
  refine v_istore_n X (lv' := [(2, .int o1), (0, .ref a_ga), (1, .int v1)]) dX12_whyNotCheese_4 rfl (by decide) rfl 5 rfl ?_
  refine v_aload_n X dX12_whyNotCheese_5 1 rfl rfl 6 rfl ?_
  refine v_iload_n X dX12_whyNotCheese_6 0 rfl rfl 7 rfl ?_
  refine v_iconst X dX12_whyNotCheese_7 ic_1 8 rfl ?_
  refine v_iadd X dX12_whyNotCheese_8 9 rfl ?_
  obtain ⟨x2, hx2, hf⟩ := bnd hf
  refine v_iald X dX12_whyNotCheese_9 0 0 rfl rfl hx2 10 rfl ?_
  refine v_iconst X dX12_whyNotCheese_10 ic_1 11 rfl ?_
  refine v_icmp_eq X (tgt := 16) dX12_whyNotCheese_11 rfl 14 rfl hf (fun hf => ?_) (fun hf => ?_)
  · refine v_aload_n X dX12_whyNotCheese_16 1 rfl rfl 17 rfl ?_
    refine v_iload_n X dX12_whyNotCheese_17 2 rfl rfl 18 rfl ?_
    obtain ⟨o3, ho3, hf⟩ := bnd hf
    refine v_callSi X (As := [.ref a_ga, .int v1]) (rest := []) (ws' := ([(a_ga, .inl (c9 0, 463, .inl ga))])) (c_X12_lives l hG D c9 a_ga ga v1 ho3) 2 (gS wm_58 wm_59 wm_37 wm_60) rfl rfl rfl pd_X12_lives ⟨Nat.le_of_ble_eq_true rfl, Nat.le_of_ble_eq_true rfl⟩ rfl rfl (Nat.le_of_ble_eq_true rfl) ⟨Nat.zero_le _, Nat.zero_le _⟩ [0] [] [0] rfl rfl rfl rfl dX12_whyNotCheese_18 21 rfl ?_
    refine v_if_ne X (tgt := 26) dX12_whyNotCheese_21 rfl 24 rfl hf (fun hf => ?_) (fun hf => ?_)
    · refine v_aload_n X dX12_whyNotCheese_26 1 rfl rfl 27 rfl ?_
      refine v_aload_n X dX12_whyNotCheese_27 1 rfl rfl 28 rfl ?_
      refine v_iload_n X dX12_whyNotCheese_28 0 rfl rfl 29 rfl ?_
      refine v_iconst X dX12_whyNotCheese_29 ic_2 30 rfl ?_
      refine v_iadd X dX12_whyNotCheese_30 31 rfl ?_
      obtain ⟨x4, hx4, hf⟩ := bnd hf
      refine v_iald X dX12_whyNotCheese_31 0 0 rfl rfl hx4 32 rfl ?_
      refine v_aload_n X dX12_whyNotCheese_32 1 rfl rfl 33 rfl ?_
      refine v_iload_n X dX12_whyNotCheese_33 0 rfl rfl 34 rfl ?_
      refine v_iconst X dX12_whyNotCheese_34 ic_3 35 rfl ?_
      refine v_iadd X dX12_whyNotCheese_35 36 rfl ?_
      obtain ⟨x5, hx5, hf⟩ := bnd hf
      refine v_iald X dX12_whyNotCheese_36 0 0 rfl rfl hx5 37 rfl ?_
      obtain ⟨o6, ho6, hf⟩ := bnd hf
      refine v_callSi X (As := [.ref a_ga, .int x4, .int x5]) (rest := []) (ws' := ([(a_ga, .inl (c9 0, 463, .inl ga))])) (c_X12_isSkewed l hG D c9 a_ga ga x4 x5 ho6) 3 (gS wm_67 wm_68 wm_37 wm_69) rfl rfl rfl pd_X12_isSkewed ⟨Nat.le_of_ble_eq_true rfl, Nat.le_of_ble_eq_true rfl⟩ rfl rfl (Nat.le_of_ble_eq_true rfl) ⟨Nat.zero_le _, Nat.zero_le _⟩ [0] [] [0] rfl rfl rfl rfl dX12_whyNotCheese_37 40 rfl ?_
      refine v_if_eq X (tgt := 45) dX12_whyNotCheese_40 rfl 43 rfl hf (fun hf => ?_) (fun hf => ?_)
      · refine v_aload_n X dX12_whyNotCheese_45 1 rfl rfl 46 rfl ?_
        refine v_aload_n X dX12_whyNotCheese_46 1 rfl rfl 47 rfl ?_
        refine v_iload_n X dX12_whyNotCheese_47 0 rfl rfl 48 rfl ?_
        refine v_iconst X dX12_whyNotCheese_48 ic_2 49 rfl ?_
        refine v_iadd X dX12_whyNotCheese_49 50 rfl ?_
        obtain ⟨x7, hx7, hf⟩ := bnd hf
        refine v_iald X dX12_whyNotCheese_50 0 0 rfl rfl hx7 51 rfl ?_
        refine v_aload_n X dX12_whyNotCheese_51 1 rfl rfl 52 rfl ?_
        refine v_iload_n X dX12_whyNotCheese_52 0 rfl rfl 53 rfl ?_
        refine v_iconst X dX12_whyNotCheese_53 ic_4 54 rfl ?_
        refine v_iadd X dX12_whyNotCheese_54 55 rfl ?_
        obtain ⟨x8, hx8, hf⟩ := bnd hf
        refine v_iald X dX12_whyNotCheese_55 0 0 rfl rfl hx8 56 rfl ?_
        obtain ⟨o9, ho9, hf⟩ := bnd hf
        refine v_callSi X (As := [.ref a_ga, .int x7, .int x8]) (rest := []) (ws' := ([(a_ga, .inl (c9 0, 463, .inl ga))])) (c_X12_isUsed l hG D c9 a_ga ga x7 x8 ho9) 3 (gS wm_85 wm_86 wm_37 wm_87) rfl rfl rfl pd_X12_isUsed ⟨Nat.le_of_ble_eq_true rfl, Nat.le_of_ble_eq_true rfl⟩ rfl rfl (Nat.le_of_ble_eq_true rfl) ⟨Nat.zero_le _, Nat.zero_le _⟩ [0] [] [0] rfl rfl rfl rfl dX12_whyNotCheese_56 59 rfl ?_
        refine v_if_eq X (tgt := 64) dX12_whyNotCheese_59 rfl 62 rfl hf (fun hf => ?_) (fun hf => ?_)
        · refine v_aload_n X dX12_whyNotCheese_64 1 rfl rfl 65 rfl ?_
          refine v_aload_n X dX12_whyNotCheese_65 1 rfl rfl 66 rfl ?_
          refine v_iload_n X dX12_whyNotCheese_66 0 rfl rfl 67 rfl ?_
          refine v_iconst X dX12_whyNotCheese_67 ic_4 68 rfl ?_
          refine v_iadd X dX12_whyNotCheese_68 69 rfl ?_
          obtain ⟨x10, hx10, hf⟩ := bnd hf
          refine v_iald X dX12_whyNotCheese_69 0 0 rfl rfl hx10 70 rfl ?_
          obtain ⟨o11, ho11, hf⟩ := bnd hf
          refine v_callSi X (As := [.int x10]) (rest := [.ref a_ga]) (ws' := ([(a_ga, .inl (c9 0, 463, .inl ga))])) (c_X12_ofService l hG D c9 x10 ho11) 1 (gS wm_76 wm_77 wm_37 wm_78) rfl rfl rfl pd_X12_ofService ⟨Nat.le_of_ble_eq_true rfl, Nat.le_of_ble_eq_true rfl⟩ rfl rfl (Nat.le_of_ble_eq_true rfl) ⟨Nat.zero_le _, Nat.zero_le _⟩ [] [0] [0] rfl rfl rfl rfl dX12_whyNotCheese_70 73 rfl ?_
          refine v_iconst X dX12_whyNotCheese_73 ic_2 74 rfl ?_
          refine v_iadd X dX12_whyNotCheese_74 75 rfl ?_
          obtain ⟨x12, hx12, hf⟩ := bnd hf
          refine v_iald X dX12_whyNotCheese_75 0 0 rfl rfl hx12 76 rfl ?_
          refine v_if_ne X (tgt := 83) dX12_whyNotCheese_76 rfl 79 rfl hf (fun hf => ?_) (fun hf => ?_)
          · refine v_iconst X dX12_whyNotCheese_83 ic_0 84 rfl ?_
            obtain rfl := Option.some.inj hf
            exact v_iret X (Nat.zero_le _) (Nat.zero_le _) dX12_whyNotCheese_84
          · refine v_iconst X dX12_whyNotCheese_79 ic_5 80 rfl ?_
            refine v_goto X (tgt := 84) dX12_whyNotCheese_80 rfl ?_
            obtain rfl := Option.some.inj hf
            exact v_iret X (Nat.zero_le _) (Nat.zero_le _) dX12_whyNotCheese_84
        · refine v_iconst X dX12_whyNotCheese_62 ic_4 63 rfl ?_
          obtain rfl := Option.some.inj hf
          exact v_iret X (Nat.zero_le _) (Nat.zero_le _) dX12_whyNotCheese_63
      · refine v_iconst X dX12_whyNotCheese_43 ic_3 44 rfl ?_
        obtain rfl := Option.some.inj hf
        exact v_iret X (Nat.zero_le _) (Nat.zero_le _) dX12_whyNotCheese_44
    · refine v_iconst X dX12_whyNotCheese_24 ic_2 25 rfl ?_
      obtain rfl := Option.some.inj hf
      exact v_iret X (Nat.zero_le _) (Nat.zero_le _) dX12_whyNotCheese_25
  · refine v_iconst X dX12_whyNotCheese_14 ic_1 15 rfl ?_
    obtain rfl := Option.some.inj hf
    exact v_iret X (Nat.zero_le _) (Nat.zero_le _) dX12_whyNotCheese_15
theorem pd_X12_whyNotCheese : yX12_whyNotCheese.cls ≠ "java/lang/invoke/MethodHandle" ∧ yX12_whyNotCheese.cls ≠ "java/lang/invoke/VarHandle" ∧ (parseMethodDescriptor yX12_whyNotCheese.desc).map (fun d => d.parameters.length) = some 2 := by decide +kernel
def f_X12_enters (ga : Nat → Int32) (v1 : Int32) (v2 : Int32) : Option (Int32 × (Nat → Int32)) :=
  (f_X12_ofUser v1).bind fun o1 =>
  (rd ga 463 (o1 + 1)).bind fun x2 =>
  (f_X12_ofRealm x2).bind fun o3 =>
  (f_X12_ofUser v1).bind fun o4 =>
  (rd ga 463 (o4 + 1)).bind fun x5 =>
  (rd ga 463 0).bind fun x6 =>
  (rd ga 463 (o3 + 1)).bind fun x7 =>
  (rd ga 463 0).bind fun x8 =>
  (rd ga 463 (o3 + 2)).bind fun x9 =>
  if v2 = 0 then (
    (f_X12_make ga v1 x5 (-1) (x6 + x7) (x8 + x9) 0).bind fun o10 =>
    some (o10.1, o10.2))
  else (
    (f_X12_make ga v1 x5 (-1) (x6 + x7) (x8 + x9) 1).bind fun o11 =>
    some (o11.1, o11.2))
set_option maxRecDepth 100000 in
set_option maxHeartbeats 4000000 in
theorem c_X12_enters (l : Launch) {G : (Nat → Prop) → State → Heap → Prop} (hG : vG G) (D : va_G) (c9 : Nat → ClassId) (a_ga : Nat) (ga : Nat → Int32) (v1 : Int32) (v2 : Int32) {o : Int32 × (Nat → Int32)} (hf : f_X12_enters ga v1 v2 = some o) : mI l yX12_enters (wq yX12_enters cX12_enters 4 (some .int)) { frames := 2, cells := 0, slots := 0, locals := 48 } G D (tyA c9) [.ref a_ga, .int v1, .int v2] ([(a_ga, .inl (c9 0, 463, .inl ga))]) [] 0 0 o.1 ([(a_ga, .inl (c9 0, 463, .inl o.2))]) := by
  refine mI_of hG (cc := cX12_enters) (maxL := 4) (ty := .int) (by decide) rfl (Nat.le_of_ble_eq_true rfl) ?_
  intro p e s m args below meth c A X
  have X : vX p s m args meth c cX12_enters 4 (some .int) RX12 (wq yX12_enters cX12_enters 4 (some .int)) D (tyA c9) G A := X
  refine v_eq (lv2 := [(0, .ref a_ga), (1, .int v1), (2, .int v2)]) rfl rfl rfl rfl ?_
  rw [f_X12_enters] at hf
  refine v_aload_n X dX12_enters_0 0 rfl rfl 1 rfl ?_
  refine v_iload_n X dX12_enters_1 1 rfl rfl 2 rfl ?_
  obtain ⟨o1, ho1, hf⟩ := bnd hf
  refine v_callSi X (As := [.int v1]) (rest := [.ref a_ga]) (ws' := ([(a_ga, .inl (c9 0, 463, .inl ga))])) (c_X12_ofUser l hG D c9 v1 ho1) 1 (gS wm_46 wm_47 wm_37 wm_48) rfl rfl rfl pd_X12_ofUser ⟨Nat.le_of_ble_eq_true rfl, Nat.le_of_ble_eq_true rfl⟩ rfl rfl (Nat.le_of_ble_eq_true rfl) ⟨Nat.zero_le _, Nat.zero_le _⟩ [] [0] [0] rfl rfl rfl rfl dX12_enters_2 5 rfl ?_
  refine v_iconst X dX12_enters_5 ic_1 6 rfl ?_
  refine v_iadd X dX12_enters_6 7 rfl ?_
  obtain ⟨x2, hx2, hf⟩ := bnd hf
  refine v_iald X dX12_enters_7 0 0 rfl rfl hx2 8 rfl ?_
  obtain ⟨o3, ho3, hf⟩ := bnd hf
  refine v_callSi X (As := [.int x2]) (rest := []) (ws' := ([(a_ga, .inl (c9 0, 463, .inl ga))])) (c_X12_ofRealm l hG D c9 x2 ho3) 1 (gS wm_49 wm_50 wm_37 wm_51) rfl rfl rfl pd_X12_ofRealm ⟨Nat.le_of_ble_eq_true rfl, Nat.le_of_ble_eq_true rfl⟩ rfl rfl (Nat.le_of_ble_eq_true rfl) ⟨Nat.zero_le _, Nat.zero_le _⟩ [] [0] [0] rfl rfl rfl rfl dX12_enters_8 11 rfl ?_
  refine v_istore_n X (lv' := [(3, .int o3), (0, .ref a_ga), (1, .int v1), (2, .int v2)]) dX12_enters_11 rfl (by decide) rfl 12 rfl ?_
  refine v_aload_n X dX12_enters_12 1 rfl rfl 13 rfl ?_
  refine v_iload_n X dX12_enters_13 2 rfl rfl 14 rfl ?_
  refine v_aload_n X dX12_enters_14 1 rfl rfl 15 rfl ?_
  refine v_iload_n X dX12_enters_15 2 rfl rfl 16 rfl ?_
  obtain ⟨o4, ho4, hf⟩ := bnd hf
  refine v_callSi X (As := [.int v1]) (rest := [.ref a_ga, .int v1, .ref a_ga]) (ws' := ([(a_ga, .inl (c9 0, 463, .inl ga))])) (c_X12_ofUser l hG D c9 v1 ho4) 1 (gS wm_46 wm_47 wm_37 wm_48) rfl rfl rfl pd_X12_ofUser ⟨Nat.le_of_ble_eq_true rfl, Nat.le_of_ble_eq_true rfl⟩ rfl rfl (Nat.le_of_ble_eq_true rfl) ⟨Nat.zero_le _, Nat.zero_le _⟩ [] [0] [0] rfl rfl rfl rfl dX12_enters_16 19 rfl ?_
  refine v_iconst X dX12_enters_19 ic_1 20 rfl ?_
  refine v_iadd X dX12_enters_20 21 rfl ?_
  obtain ⟨x5, hx5, hf⟩ := bnd hf
  refine v_iald X dX12_enters_21 0 0 rfl rfl hx5 22 rfl ?_
  refine v_iconst X dX12_enters_22 ic_m1 23 rfl ?_
  refine v_aload_n X dX12_enters_23 1 rfl rfl 24 rfl ?_
  refine v_iconst X dX12_enters_24 ic_0 25 rfl ?_
  obtain ⟨x6, hx6, hf⟩ := bnd hf
  refine v_iald X dX12_enters_25 0 0 rfl rfl hx6 26 rfl ?_
  refine v_aload_n X dX12_enters_26 1 rfl rfl 27 rfl ?_
  refine v_iload_n X dX12_enters_27 0 rfl rfl 28 rfl ?_
  refine v_iconst X dX12_enters_28 ic_1 29 rfl ?_
  refine v_iadd X dX12_enters_29 30 rfl ?_
  obtain ⟨x7, hx7, hf⟩ := bnd hf
  refine v_iald X dX12_enters_30 0 0 rfl rfl hx7 31 rfl ?_
  refine v_iadd X dX12_enters_31 32 rfl ?_
  refine v_aload_n X dX12_enters_32 1 rfl rfl 33 rfl ?_
  refine v_iconst X dX12_enters_33 ic_0 34 rfl ?_
  obtain ⟨x8, hx8, hf⟩ := bnd hf
  refine v_iald X dX12_enters_34 0 0 rfl rfl hx8 35 rfl ?_
  refine v_aload_n X dX12_enters_35 1 rfl rfl 36 rfl ?_
  refine v_iload_n X dX12_enters_36 0 rfl rfl 37 rfl ?_
  refine v_iconst X dX12_enters_37 ic_2 38 rfl ?_
  refine v_iadd X dX12_enters_38 39 rfl ?_
  obtain ⟨x9, hx9, hf⟩ := bnd hf
  refine v_iald X dX12_enters_39 0 0 rfl rfl hx9 40 rfl ?_
  refine v_iadd X dX12_enters_40 41 rfl ?_
  refine v_iload_n X dX12_enters_41 3 rfl rfl 42 rfl ?_
  refine v_if_eq X (tgt := 49) dX12_enters_42 rfl 45 rfl hf (fun hf => ?_) (fun hf => ?_)
  · refine v_iconst X dX12_enters_49 ic_0 50 rfl ?_
    obtain ⟨o10, ho10, hf⟩ := bnd hf
    refine v_callSi X (As := [.ref a_ga, .int v1, .int x5, .int (-1), .int (x6 + x7), .int (x8 + x9), .int 0]) (rest := []) (ws' := ([(a_ga, .inl (c9 0, 463, .inl o10.2))])) (c_X12_make l hG D c9 a_ga ga v1 x5 (-1) (x6 + x7) (x8 + x9) 0 ho10) 7 (gS wm_88 wm_89 wm_37 wm_90) rfl rfl rfl pd_X12_make ⟨Nat.le_of_ble_eq_true rfl, Nat.le_of_ble_eq_true rfl⟩ rfl rfl (Nat.le_of_ble_eq_true rfl) ⟨Nat.zero_le _, Nat.zero_le _⟩ [0] [] [0] rfl rfl rfl rfl dX12_enters_50 53 rfl ?_
    obtain rfl := Option.some.inj hf
    exact v_iret X (Nat.zero_le _) (Nat.zero_le _) dX12_enters_53
  · refine v_iconst X dX12_enters_45 ic_1 46 rfl ?_
    refine v_goto X (tgt := 50) dX12_enters_46 rfl ?_
    obtain ⟨o11, ho11, hf⟩ := bnd hf
    refine v_callSi X (As := [.ref a_ga, .int v1, .int x5, .int (-1), .int (x6 + x7), .int (x8 + x9), .int 1]) (rest := []) (ws' := ([(a_ga, .inl (c9 0, 463, .inl o11.2))])) (c_X12_make l hG D c9 a_ga ga v1 x5 (-1) (x6 + x7) (x8 + x9) 1 ho11) 7 (gS wm_88 wm_89 wm_37 wm_90) rfl rfl rfl pd_X12_make ⟨Nat.le_of_ble_eq_true rfl, Nat.le_of_ble_eq_true rfl⟩ rfl rfl (Nat.le_of_ble_eq_true rfl) ⟨Nat.zero_le _, Nat.zero_le _⟩ [0] [] [0] rfl rfl rfl rfl dX12_enters_50 53 rfl ?_
    obtain rfl := Option.some.inj hf
    exact v_iret X (Nat.zero_le _) (Nat.zero_le _) dX12_enters_53
theorem pd_X12_enters : yX12_enters.cls ≠ "java/lang/invoke/MethodHandle" ∧ yX12_enters.cls ≠ "java/lang/invoke/VarHandle" ∧ (parseMethodDescriptor yX12_enters.desc).map (fun d => d.parameters.length) = some 3 := by decide +kernel
def f_X12_derive (ga : Nat → Int32) (v1 : Int32) (v2 : Int32) (v3 : Int32) : Option (Int32 × (Nat → Int32)) :=
  (f_X12_ofTicket v1).bind fun o1 =>
  (rd ga 463 0).bind fun x2 =>
  (f_X12_ofRealm v2).bind fun o3 =>
  (rd ga 463 (o3 + 1)).bind fun x4 =>
  (rd ga 463 (o1 + 6)).bind fun x5 =>
  (f_X12_lesser (x2 + x4) x5).bind fun o6 =>
  (rd ga 463 0).bind fun x7 =>
  (f_X12_ofRealm v2).bind fun o8 =>
  (rd ga 463 (o8 + 2)).bind fun x9 =>
  (rd ga 463 (o1 + 7)).bind fun x10 =>
  (f_X12_lesser (x7 + x9) x10).bind fun o11 =>
  (rd ga 463 (o1 + 2)).bind fun x12 =>
  (rd ga 463 (o1 + 9)).bind fun x13 =>
  (f_X12_make ga x12 v2 v3 o6 o11 x13).bind fun o14 =>
  some (o14.1, o14.2)
set_option maxRecDepth 100000 in
set_option maxHeartbeats 4000000 in
theorem c_X12_derive (l : Launch) {G : (Nat → Prop) → State → Heap → Prop} (hG : vG G) (D : va_G) (c9 : Nat → ClassId) (a_ga : Nat) (ga : Nat → Int32) (v1 : Int32) (v2 : Int32) (v3 : Int32) {o : Int32 × (Nat → Int32)} (hf : f_X12_derive ga v1 v2 v3 = some o) : mI l yX12_derive (wq yX12_derive cX12_derive 7 (some .int)) { frames := 2, cells := 0, slots := 0, locals := 48 } G D (tyA c9) [.ref a_ga, .int v1, .int v2, .int v3] ([(a_ga, .inl (c9 0, 463, .inl ga))]) [] 0 0 o.1 ([(a_ga, .inl (c9 0, 463, .inl o.2))]) := by
  refine mI_of hG (cc := cX12_derive) (maxL := 7) (ty := .int) (by decide) rfl (Nat.le_of_ble_eq_true rfl) ?_
  intro p e s m args below meth c A X
  have X : vX p s m args meth c cX12_derive 7 (some .int) RX12 (wq yX12_derive cX12_derive 7 (some .int)) D (tyA c9) G A := X
  refine v_eq (lv2 := [(0, .ref a_ga), (1, .int v1), (2, .int v2), (3, .int v3)]) rfl rfl rfl rfl ?_
  rw [f_X12_derive] at hf
  refine v_iload_n X dX12_derive_0 1 rfl rfl 1 rfl ?_
  obtain ⟨o1, ho1, hf⟩ := bnd hf
  refine v_callSi X (As := [.int v1]) (rest := []) (ws' := ([(a_ga, .inl (c9 0, 463, .inl ga))])) (c_X12_ofTicket l hG D c9 v1 ho1) 1 (gS wm_55 wm_56 wm_37 wm_57) rfl rfl rfl pd_X12_ofTicket ⟨Nat.le_of_ble_eq_true rfl, Nat.le_of_ble_eq_true rfl⟩ rfl rfl (Nat.le_of_ble_eq_true rfl) ⟨Nat.zero_le _, Nat.zero_le _⟩ [] [0] [0] rfl rfl rfl rfl dX12_derive_1 4 rfl ?_
  refine v_istore X (lv' := [(4, .int o1), (0, .ref a_ga), (1, .int v1), (2, .int v2), (3, .int v3)]) dX12_derive_4 (by decide) rfl 6 rfl ?_
  refine v_aload_n X dX12_derive_6 1 rfl rfl 7 rfl ?_
  refine v_iconst X dX12_derive_7 ic_0 8 rfl ?_
  obtain ⟨x2, hx2, hf⟩ := bnd hf
  refine v_iald X dX12_derive_8 0 0 rfl rfl hx2 9 rfl ?_
  refine v_aload_n X dX12_derive_9 1 rfl rfl 10 rfl ?_
  refine v_iload_n X dX12_derive_10 3 rfl rfl 11 rfl ?_
  obtain ⟨o3, ho3, hf⟩ := bnd hf
  refine v_callSi X (As := [.int v2]) (rest := [.ref a_ga, .int x2]) (ws' := ([(a_ga, .inl (c9 0, 463, .inl ga))])) (c_X12_ofRealm l hG D c9 v2 ho3) 1 (gS wm_49 wm_50 wm_37 wm_51) rfl rfl rfl pd_X12_ofRealm ⟨Nat.le_of_ble_eq_true rfl, Nat.le_of_ble_eq_true rfl⟩ rfl rfl (Nat.le_of_ble_eq_true rfl) ⟨Nat.zero_le _, Nat.zero_le _⟩ [] [0] [0] rfl rfl rfl rfl dX12_derive_11 14 rfl ?_
  refine v_iconst X dX12_derive_14 ic_1 15 rfl ?_
  refine v_iadd X dX12_derive_15 16 rfl ?_
  obtain ⟨x4, hx4, hf⟩ := bnd hf
  refine v_iald X dX12_derive_16 0 0 rfl rfl hx4 17 rfl ?_
  refine v_iadd X dX12_derive_17 18 rfl ?_
  refine v_aload_n X dX12_derive_18 1 rfl rfl 19 rfl ?_
  refine v_iload X dX12_derive_19 0 rfl 21 rfl ?_
  refine v_bipush X dX12_derive_21 bp_6 23 rfl ?_
  refine v_iadd X dX12_derive_23 24 rfl ?_
  obtain ⟨x5, hx5, hf⟩ := bnd hf
  refine v_iald X dX12_derive_24 0 0 rfl rfl hx5 25 rfl ?_
  obtain ⟨o6, ho6, hf⟩ := bnd hf
  refine v_callSi X (As := [.int (x2 + x4), .int x5]) (rest := []) (ws' := ([(a_ga, .inl (c9 0, 463, .inl ga))])) (c_X12_lesser l hG D c9 (x2 + x4) x5 ho6) 2 (gS wm_39 wm_40 wm_37 wm_41) rfl rfl rfl pd_X12_lesser ⟨Nat.le_of_ble_eq_true rfl, Nat.le_of_ble_eq_true rfl⟩ rfl rfl (Nat.le_of_ble_eq_true rfl) ⟨Nat.zero_le _, Nat.zero_le _⟩ [] [0] [0] rfl rfl rfl rfl dX12_derive_25 28 rfl ?_
  refine v_istore X (lv' := [(5, .int o6), (4, .int o1), (0, .ref a_ga), (1, .int v1), (2, .int v2), (3, .int v3)]) dX12_derive_28 (by decide) rfl 30 rfl ?_
  refine v_aload_n X dX12_derive_30 2 rfl rfl 31 rfl ?_
  refine v_iconst X dX12_derive_31 ic_0 32 rfl ?_
  obtain ⟨x7, hx7, hf⟩ := bnd hf
  refine v_iald X dX12_derive_32 0 0 rfl rfl hx7 33 rfl ?_
  refine v_aload_n X dX12_derive_33 2 rfl rfl 34 rfl ?_
  refine v_iload_n X dX12_derive_34 4 rfl rfl 35 rfl ?_
  obtain ⟨o8, ho8, hf⟩ := bnd hf
  refine v_callSi X (As := [.int v2]) (rest := [.ref a_ga, .int x7]) (ws' := ([(a_ga, .inl (c9 0, 463, .inl ga))])) (c_X12_ofRealm l hG D c9 v2 ho8) 1 (gS wm_49 wm_50 wm_37 wm_51) rfl rfl rfl pd_X12_ofRealm ⟨Nat.le_of_ble_eq_true rfl, Nat.le_of_ble_eq_true rfl⟩ rfl rfl (Nat.le_of_ble_eq_true rfl) ⟨Nat.zero_le _, Nat.zero_le _⟩ [] [0] [0] rfl rfl rfl rfl dX12_derive_35 38 rfl ?_
  refine v_iconst X dX12_derive_38 ic_2 39 rfl ?_
  refine v_iadd X dX12_derive_39 40 rfl ?_
  obtain ⟨x9, hx9, hf⟩ := bnd hf
  refine v_iald X dX12_derive_40 0 0 rfl rfl hx9 41 rfl ?_
  refine v_iadd X dX12_derive_41 42 rfl ?_
  refine v_aload_n X dX12_derive_42 2 rfl rfl 43 rfl ?_
  refine v_iload X dX12_derive_43 1 rfl 45 rfl ?_
  refine v_bipush X dX12_derive_45 bp_7 47 rfl ?_
  refine v_iadd X dX12_derive_47 48 rfl ?_
  obtain ⟨x10, hx10, hf⟩ := bnd hf
  refine v_iald X dX12_derive_48 0 0 rfl rfl hx10 49 rfl ?_
  obtain ⟨o11, ho11, hf⟩ := bnd hf
  refine v_callSi X (As := [.int (x7 + x9), .int x10]) (rest := []) (ws' := ([(a_ga, .inl (c9 0, 463, .inl ga))])) (c_X12_lesser l hG D c9 (x7 + x9) x10 ho11) 2 (gS wm_39 wm_40 wm_37 wm_41) rfl rfl rfl pd_X12_lesser ⟨Nat.le_of_ble_eq_true rfl, Nat.le_of_ble_eq_true rfl⟩ rfl rfl (Nat.le_of_ble_eq_true rfl) ⟨Nat.zero_le _, Nat.zero_le _⟩ [] [0] [0] rfl rfl rfl rfl dX12_derive_49 52 rfl ?_
  refine v_istore X (lv' := [(6, .int o11), (5, .int o6), (4, .int o1), (0, .ref a_ga), (1, .int v1), (2, .int v2), (3, .int v3)]) dX12_derive_52 (by decide) rfl 54 rfl ?_
  refine v_aload_n X dX12_derive_54 3 rfl rfl 55 rfl ?_
  refine v_aload_n X dX12_derive_55 3 rfl rfl 56 rfl ?_
  refine v_iload X dX12_derive_56 2 rfl 58 rfl ?_
  refine v_iconst X dX12_derive_58 ic_2 59 rfl ?_
  refine v_iadd X dX12_derive_59 60 rfl ?_
  obtain ⟨x12, hx12, hf⟩ := bnd hf
  refine v_iald X dX12_derive_60 0 0 rfl rfl hx12 61 rfl ?_
  refine v_iload_n X dX12_derive_61 5 rfl rfl 62 rfl ?_
  refine v_iload_n X dX12_derive_62 6 rfl rfl 63 rfl ?_
  refine v_iload X dX12_derive_63 1 rfl 65 rfl ?_
  refine v_iload X dX12_derive_65 0 rfl 67 rfl ?_
  refine v_aload_n X dX12_derive_67 3 rfl rfl 68 rfl ?_
  refine v_iload X dX12_derive_68 2 rfl 70 rfl ?_
  refine v_bipush X dX12_derive_70 bp_9 72 rfl ?_
  refine v_iadd X dX12_derive_72 73 rfl ?_
  obtain ⟨x13, hx13, hf⟩ := bnd hf
  refine v_iald X dX12_derive_73 0 0 rfl rfl hx13 74 rfl ?_
  obtain ⟨o14, ho14, hf⟩ := bnd hf
  refine v_callSi X (As := [.ref a_ga, .int x12, .int v2, .int v3, .int o6, .int o11, .int x13]) (rest := []) (ws' := ([(a_ga, .inl (c9 0, 463, .inl o14.2))])) (c_X12_make l hG D c9 a_ga ga x12 v2 v3 o6 o11 x13 ho14) 7 (gS wm_88 wm_89 wm_37 wm_90) rfl rfl rfl pd_X12_make ⟨Nat.le_of_ble_eq_true rfl, Nat.le_of_ble_eq_true rfl⟩ rfl rfl (Nat.le_of_ble_eq_true rfl) ⟨Nat.zero_le _, Nat.zero_le _⟩ [0] [] [0] rfl rfl rfl rfl dX12_derive_74 77 rfl ?_
  obtain rfl := Option.some.inj hf
  exact v_iret X (Nat.zero_le _) (Nat.zero_le _) dX12_derive_77
theorem pd_X12_derive : yX12_derive.cls ≠ "java/lang/invoke/MethodHandle" ∧ yX12_derive.cls ≠ "java/lang/invoke/VarHandle" ∧ (parseMethodDescriptor yX12_derive.desc).map (fun d => d.parameters.length) = some 4 := by decide +kernel
def f_X12_renews (ga : Nat → Int32) (v1 : Int32) : Option (Int32 × (Nat → Int32)) :=
  (f_X12_ofTicket v1).bind fun o1 =>
  (f_X12_newEnd ga v1).bind fun o2 =>
  (wr ga 463 (o1 + 6) o2).bind fun g3 =>
  (f_X12_drawKey g3).bind fun o4 =>
  (wr o4.2 463 (o1 + 8) o4.1).bind fun g5 =>
  (rd g5 463 (o1 + 6)).bind fun x6 =>
  some (x6, g5)
set_option maxRecDepth 100000 in
set_option maxHeartbeats 4000000 in
theorem c_X12_renews (l : Launch) {G : (Nat → Prop) → State → Heap → Prop} (hG : vG G) (D : va_G) (c9 : Nat → ClassId) (a_ga : Nat) (ga : Nat → Int32) (v1 : Int32) {o : Int32 × (Nat → Int32)} (hf : f_X12_renews ga v1 = some o) : mI l yX12_renews (wq yX12_renews cX12_renews 3 (some .int)) { frames := 2, cells := 0, slots := 0, locals := 43 } G D (tyA c9) [.ref a_ga, .int v1] ([(a_ga, .inl (c9 0, 463, .inl ga))]) [] 0 0 o.1 ([(a_ga, .inl (c9 0, 463, .inl o.2))]) := by
  refine mI_of hG (cc := cX12_renews) (maxL := 3) (ty := .int) (by decide) rfl (Nat.le_of_ble_eq_true rfl) ?_
  intro p e s m args below meth c A X
  have X : vX p s m args meth c cX12_renews 3 (some .int) RX12 (wq yX12_renews cX12_renews 3 (some .int)) D (tyA c9) G A := X
  refine v_eq (lv2 := [(0, .ref a_ga), (1, .int v1)]) rfl rfl rfl rfl ?_
  rw [f_X12_renews] at hf
  refine v_iload_n X dX12_renews_0 1 rfl rfl 1 rfl ?_
  obtain ⟨o1, ho1, hf⟩ := bnd hf
  refine v_callSi X (As := [.int v1]) (rest := []) (ws' := ([(a_ga, .inl (c9 0, 463, .inl ga))])) (c_X12_ofTicket l hG D c9 v1 ho1) 1 (gS wm_55 wm_56 wm_37 wm_57) rfl rfl rfl pd_X12_ofTicket ⟨Nat.le_of_ble_eq_true rfl, Nat.le_of_ble_eq_true rfl⟩ rfl rfl (Nat.le_of_ble_eq_true rfl) ⟨Nat.zero_le _, Nat.zero_le _⟩ [] [0] [0] rfl rfl rfl rfl dX12_renews_1 4 rfl ?_
  refine v_istore_n X (lv' := [(2, .int o1), (0, .ref a_ga), (1, .int v1)]) dX12_renews_4 rfl (by decide) rfl 5 rfl ?_
  refine v_aload_n X dX12_renews_5 1 rfl rfl 6 rfl ?_
  refine v_iload_n X dX12_renews_6 0 rfl rfl 7 rfl ?_
  refine v_bipush X dX12_renews_7 bp_6 9 rfl ?_
  refine v_iadd X dX12_renews_9 10 rfl ?_
  refine v_aload_n X dX12_renews_10 1 rfl rfl 11 rfl ?_
  refine v_iload_n X dX12_renews_11 2 rfl rfl 12 rfl ?_
  obtain ⟨o2, ho2, hf⟩ := bnd hf
  refine v_callSi X (As := [.ref a_ga, .int v1]) (rest := [.int (o1 + 6), .ref a_ga]) (ws' := ([(a_ga, .inl (c9 0, 463, .inl ga))])) (c_X12_newEnd l hG D c9 a_ga ga v1 ho2) 2 (gS wm_79 wm_80 wm_37 wm_81) rfl rfl rfl pd_X12_newEnd ⟨Nat.le_of_ble_eq_true rfl, Nat.le_of_ble_eq_true rfl⟩ rfl rfl (Nat.le_of_ble_eq_true rfl) ⟨Nat.zero_le _, Nat.zero_le _⟩ [0] [] [0] rfl rfl rfl rfl dX12_renews_12 15 rfl ?_
  obtain ⟨g3, hg3, hf⟩ := bnd hf
  refine v_iast X (ws' := ([(a_ga, .inl (c9 0, 463, .inl g3))])) dX12_renews_15 0 0 rfl rfl hg3 rfl 16 rfl ?_
  refine v_aload_n X dX12_renews_16 1 rfl rfl 17 rfl ?_
  refine v_iload_n X dX12_renews_17 0 rfl rfl 18 rfl ?_
  refine v_bipush X dX12_renews_18 bp_8 20 rfl ?_
  refine v_iadd X dX12_renews_20 21 rfl ?_
  refine v_aload_n X dX12_renews_21 1 rfl rfl 22 rfl ?_
  obtain ⟨o4, ho4, hf⟩ := bnd hf
  refine v_callSi X (As := [.ref a_ga]) (rest := [.int (o1 + 8), .ref a_ga]) (ws' := ([(a_ga, .inl (c9 0, 463, .inl o4.2))])) (c_X12_drawKey l hG D c9 a_ga g3 ho4) 1 (gS wm_64 wm_65 wm_37 wm_66) rfl rfl rfl pd_X12_drawKey ⟨Nat.le_of_ble_eq_true rfl, Nat.le_of_ble_eq_true rfl⟩ rfl rfl (Nat.le_of_ble_eq_true rfl) ⟨Nat.zero_le _, Nat.zero_le _⟩ [0] [] [0] rfl rfl rfl rfl dX12_renews_22 25 rfl ?_
  obtain ⟨g5, hg5, hf⟩ := bnd hf
  refine v_iast X (ws' := ([(a_ga, .inl (c9 0, 463, .inl g5))])) dX12_renews_25 0 0 rfl rfl hg5 rfl 26 rfl ?_
  refine v_aload_n X dX12_renews_26 1 rfl rfl 27 rfl ?_
  refine v_iload_n X dX12_renews_27 0 rfl rfl 28 rfl ?_
  refine v_bipush X dX12_renews_28 bp_6 30 rfl ?_
  refine v_iadd X dX12_renews_30 31 rfl ?_
  obtain ⟨x6, hx6, hf⟩ := bnd hf
  refine v_iald X dX12_renews_31 0 0 rfl rfl hx6 32 rfl ?_
  obtain rfl := Option.some.inj hf
  exact v_iret X (Nat.zero_le _) (Nat.zero_le _) dX12_renews_32
theorem pd_X12_renews : yX12_renews.cls ≠ "java/lang/invoke/MethodHandle" ∧ yX12_renews.cls ≠ "java/lang/invoke/VarHandle" ∧ (parseMethodDescriptor yX12_renews.desc).map (fun d => d.parameters.length) = some 2 := by decide +kernel
def f_X12_remindUse_L21  : Nat → (Nat → Int32) → Int32 → Option ((Nat → Int32))
  | 0, _, _ => none
  | n + 1, ga, v3 =>
    (rd ga 463 8).bind fun x5 =>
    (f_X12_ofUse x5).bind fun o6 =>
    if o6 ≤ v3 then (
      some (ga))
    else (
      (rd ga 463 (v3 + 4)).bind fun x7 =>
      (wr ga 463 v3 x7).bind fun g8 =>
      f_X12_remindUse_L21  n g8 (v3 + 1))
def f_X12_remindUse (ga : Nat → Int32) (v1 : Int32) (v2 : Int32) : Option ((Nat → Int32)) :=
  (rd ga 463 8).bind fun x1 =>
  Option.bind (if x1 = 30 then (
    (rd ga 463 8).bind fun x3 =>
    (wr ga 463 8 (x3 - 1)).bind fun g4 =>
    (f_X12_remindUse_L21 5000 g4 343).bind fun o9 =>
    some (o9))
  else (
    some (ga)) : Option ((Nat → Int32))) fun j2 =>
  (rd j2 463 8).bind fun x10 =>
  (f_X12_ofUse x10).bind fun o11 =>
  (wr j2 463 (o11 + 0) v1).bind fun g12 =>
  (wr g12 463 (o11 + 1) v2).bind fun g13 =>
  (rd g13 463 0).bind fun x14 =>
  (f_X12_ofUser v1).bind fun o15 =>
  (rd g13 463 (o15 + 3)).bind fun x16 =>
  (wr g13 463 (o11 + 2) (x14 + x16)).bind fun g17 =>
  (rd g17 463 0).bind fun x18 =>
  (wr g17 463 (o11 + 3) x18).bind fun g19 =>
  (rd g19 463 8).bind fun x20 =>
  (wr g19 463 8 (x20 + 1)).bind fun g21 =>
  some (g21)
set_option maxRecDepth 100000 in
set_option maxHeartbeats 4000000 in
theorem l_X12_remindUse_L21 (l : Launch) {G : (Nat → Prop) → State → Heap → Prop} (hG : vG G) (D : va_G) (c9 : Nat → ClassId) (a_ga : Nat) (v1 : Int32) (v2 : Int32) {p : Program} {e : Env} {s : State} {m : MethodId} {args : Array Value} {below : List Frame} {meth : Method} {c : Code} {A : Nat → Prop} {F : va_W} (X : vX p s m args meth c cX12_remindUse 4 none RX12 (wq yX12_remindUse cX12_remindUse 4 none) D (tyA c9) G A) {Q : State → Prop} (o : (Nat → Int32)) (K : vW p l e { frames := 1, cells := 0, slots := 0, locals := 20 } s m args below meth c 4 D A F 0 0 Q ([(a_ga, .inl (c9 0, 463, .inl o))]) 46 [(0, .ref a_ga), (1, .int v1), (2, .int v2)] []) :
    ∀ (n : Nat) (ga : Nat → Int32) (v3 : Int32), f_X12_remindUse_L21 n ga v3 = some o → vW p l e { frames := 1, cells := 0, slots := 0, locals := 20 } s m args below meth c 4 D A F 0 0 Q ([(a_ga, .inl (c9 0, 463, .inl ga))]) 21 [(0, .ref a_ga), (1, .int v1), (2, .int v2), (3, .int v3)] [] := by
  intro n
  induction n with
  | zero =>
    intro ga v3 hf
    rw [f_X12_remindUse_L21] at hf
    cases hf
  | succ n ih =>
    intro ga v3 hf
    rw [f_X12_remindUse_L21] at hf
    refine v_iload_n X dX12_remindUse_21 3 rfl rfl 22 rfl ?_
    refine v_aload_n X dX12_remindUse_22 0 rfl rfl 23 rfl ?_
    refine v_bipush X dX12_remindUse_23 bp_8 25 rfl ?_
    obtain ⟨x5, hx5, hf⟩ := bnd hf
    refine v_iald X dX12_remindUse_25 0 0 rfl rfl hx5 26 rfl ?_
    obtain ⟨o6, ho6, hf⟩ := bnd hf
    refine v_callSi X (As := [.int x5]) (rest := [.int v3]) (ws' := ([(a_ga, .inl (c9 0, 463, .inl ga))])) (c_X12_ofUse l hG D c9 x5 ho6) 1 (gS wm_82 wm_83 wm_37 wm_84) rfl rfl rfl pd_X12_ofUse ⟨Nat.le_of_ble_eq_true rfl, Nat.le_of_ble_eq_true rfl⟩ rfl rfl (Nat.le_of_ble_eq_true rfl) ⟨Nat.zero_le _, Nat.zero_le _⟩ [] [0] [0] rfl rfl rfl rfl dX12_remindUse_26 29 rfl ?_
    refine v_icmp_ge X (tgt := 46) dX12_remindUse_29 rfl 32 rfl hf (fun hf => ?_) (fun hf => ?_)
    · obtain rfl := Option.some.inj hf
      refine v_sub (lv' := [(0, .ref a_ga), (1, .int v1), (2, .int v2)]) [0, 1, 2] rfl ?_
      exact K
    · refine v_aload_n X dX12_remindUse_32 0 rfl rfl 33 rfl ?_
      refine v_iload_n X dX12_remindUse_33 3 rfl rfl 34 rfl ?_
      refine v_aload_n X dX12_remindUse_34 0 rfl rfl 35 rfl ?_
      refine v_iload_n X dX12_remindUse_35 3 rfl rfl 36 rfl ?_
      refine v_iconst X dX12_remindUse_36 ic_4 37 rfl ?_
      refine v_iadd X dX12_remindUse_37 38 rfl ?_
      obtain ⟨x7, hx7, hf⟩ := bnd hf
      refine v_iald X dX12_remindUse_38 0 0 rfl rfl hx7 39 rfl ?_
      obtain ⟨g8, hg8, hf⟩ := bnd hf
      refine v_iast X (ws' := ([(a_ga, .inl (c9 0, 463, .inl g8))])) dX12_remindUse_39 0 0 rfl rfl hg8 rfl 40 rfl ?_
      refine v_iinc X (lv' := [(3, .int (v3 + 1)), (0, .ref a_ga), (1, .int v1), (2, .int v2)]) dX12_remindUse_40 3 rfl ic_1 (by decide) rfl 43 rfl ?_
      refine v_goto X (tgt := 21) dX12_remindUse_43 rfl ?_
      refine v_sub (lv' := [(0, .ref a_ga), (1, .int v1), (2, .int v2), (3, .int (v3 + 1))]) [1, 2, 3, 0] rfl ?_
      exact ih g8 (v3 + 1) hf
set_option maxRecDepth 100000 in
set_option maxHeartbeats 4000000 in
theorem c_X12_remindUse (l : Launch) {G : (Nat → Prop) → State → Heap → Prop} (hG : vG G) (D : va_G) (c9 : Nat → ClassId) (a_ga : Nat) (ga : Nat → Int32) (v1 : Int32) (v2 : Int32) {o : (Nat → Int32)} (hf : f_X12_remindUse ga v1 v2 = some o) : mV l yX12_remindUse (wq yX12_remindUse cX12_remindUse 4 none) { frames := 1, cells := 0, slots := 0, locals := 20 } G D (tyA c9) [.ref a_ga, .int v1, .int v2] ([(a_ga, .inl (c9 0, 463, .inl ga))]) [] 0 0 ([(a_ga, .inl (c9 0, 463, .inl o))]) := by
  refine mV_of hG (cc := cX12_remindUse) (maxL := 4) (by decide) rfl (Nat.le_of_ble_eq_true rfl) ?_
  intro p e s m args below meth c A hnm X
  have X : vX p s m args meth c cX12_remindUse 4 none RX12 (wq yX12_remindUse cX12_remindUse 4 none) D (tyA c9) G A := X
  refine v_eq (lv2 := [(0, .ref a_ga), (1, .int v1), (2, .int v2)]) rfl rfl rfl rfl ?_
  rw [f_X12_remindUse] at hf
  refine v_aload_n X dX12_remindUse_0 0 rfl rfl 1 rfl ?_
  refine v_bipush X dX12_remindUse_1 bp_8 3 rfl ?_
  obtain ⟨x1, hx1, hf⟩ := bnd hf
  refine v_iald X dX12_remindUse_3 0 0 rfl rfl hx1 4 rfl ?_
  refine v_bipush X dX12_remindUse_4 bp_30 6 rfl ?_
  obtain ⟨j2, hj2, hf⟩ := bnd hf
  have Jj2 : vW p l e { frames := 1, cells := 0, slots := 0, locals := 20 } s m args below meth c 4 D A [] 0 0 (MQ below (eV D (tyA c9) A (([(a_ga, .inl (c9 0, 463, .inl o))]) ++ [])) args s 0 0 A) ([(a_ga, .inl (c9 0, 463, .inl j2))]) 46 [(0, .ref a_ga), (1, .int v1), (2, .int v2)] [] := by
    refine v_aload_n X dX12_remindUse_46 0 rfl rfl 47 rfl ?_
    refine v_bipush X dX12_remindUse_47 bp_8 49 rfl ?_
    obtain ⟨x10, hx10, hf⟩ := bnd hf
    refine v_iald X dX12_remindUse_49 0 0 rfl rfl hx10 50 rfl ?_
    obtain ⟨o11, ho11, hf⟩ := bnd hf
    refine v_callSi X (As := [.int x10]) (rest := []) (ws' := ([(a_ga, .inl (c9 0, 463, .inl j2))])) (c_X12_ofUse l hG D c9 x10 ho11) 1 (gS wm_82 wm_83 wm_37 wm_84) rfl rfl rfl pd_X12_ofUse ⟨Nat.le_of_ble_eq_true rfl, Nat.le_of_ble_eq_true rfl⟩ rfl rfl (Nat.le_of_ble_eq_true rfl) ⟨Nat.zero_le _, Nat.zero_le _⟩ [] [0] [0] rfl rfl rfl rfl dX12_remindUse_50 53 rfl ?_
    refine v_istore_n X (lv' := [(3, .int o11), (0, .ref a_ga), (1, .int v1), (2, .int v2)]) dX12_remindUse_53 rfl (by decide) rfl 54 rfl ?_
    refine v_aload_n X dX12_remindUse_54 1 rfl rfl 55 rfl ?_
    refine v_iload_n X dX12_remindUse_55 0 rfl rfl 56 rfl ?_
    refine v_iconst X dX12_remindUse_56 ic_0 57 rfl ?_
    refine v_iadd X dX12_remindUse_57 58 rfl ?_
    refine v_iload_n X dX12_remindUse_58 2 rfl rfl 59 rfl ?_
    obtain ⟨g12, hg12, hf⟩ := bnd hf
    refine v_iast X (ws' := ([(a_ga, .inl (c9 0, 463, .inl g12))])) dX12_remindUse_59 0 0 rfl rfl hg12 rfl 60 rfl ?_
    refine v_aload_n X dX12_remindUse_60 1 rfl rfl 61 rfl ?_
    refine v_iload_n X dX12_remindUse_61 0 rfl rfl 62 rfl ?_
    refine v_iconst X dX12_remindUse_62 ic_1 63 rfl ?_
    refine v_iadd X dX12_remindUse_63 64 rfl ?_
    refine v_iload_n X dX12_remindUse_64 3 rfl rfl 65 rfl ?_
    obtain ⟨g13, hg13, hf⟩ := bnd hf
    refine v_iast X (ws' := ([(a_ga, .inl (c9 0, 463, .inl g13))])) dX12_remindUse_65 0 0 rfl rfl hg13 rfl 66 rfl ?_
    refine v_aload_n X dX12_remindUse_66 1 rfl rfl 67 rfl ?_
    refine v_iload_n X dX12_remindUse_67 0 rfl rfl 68 rfl ?_
    refine v_iconst X dX12_remindUse_68 ic_2 69 rfl ?_
    refine v_iadd X dX12_remindUse_69 70 rfl ?_
    refine v_aload_n X dX12_remindUse_70 1 rfl rfl 71 rfl ?_
    refine v_iconst X dX12_remindUse_71 ic_0 72 rfl ?_
    obtain ⟨x14, hx14, hf⟩ := bnd hf
    refine v_iald X dX12_remindUse_72 0 0 rfl rfl hx14 73 rfl ?_
    refine v_aload_n X dX12_remindUse_73 1 rfl rfl 74 rfl ?_
    refine v_iload_n X dX12_remindUse_74 2 rfl rfl 75 rfl ?_
    obtain ⟨o15, ho15, hf⟩ := bnd hf
    refine v_callSi X (As := [.int v1]) (rest := [.ref a_ga, .int x14, .int (o11 + 2), .ref a_ga]) (ws' := ([(a_ga, .inl (c9 0, 463, .inl g13))])) (c_X12_ofUser l hG D c9 v1 ho15) 1 (gS wm_46 wm_47 wm_37 wm_48) rfl rfl rfl pd_X12_ofUser ⟨Nat.le_of_ble_eq_true rfl, Nat.le_of_ble_eq_true rfl⟩ rfl rfl (Nat.le_of_ble_eq_true rfl) ⟨Nat.zero_le _, Nat.zero_le _⟩ [] [0] [0] rfl rfl rfl rfl dX12_remindUse_75 78 rfl ?_
    refine v_iconst X dX12_remindUse_78 ic_3 79 rfl ?_
    refine v_iadd X dX12_remindUse_79 80 rfl ?_
    obtain ⟨x16, hx16, hf⟩ := bnd hf
    refine v_iald X dX12_remindUse_80 0 0 rfl rfl hx16 81 rfl ?_
    refine v_iadd X dX12_remindUse_81 82 rfl ?_
    obtain ⟨g17, hg17, hf⟩ := bnd hf
    refine v_iast X (ws' := ([(a_ga, .inl (c9 0, 463, .inl g17))])) dX12_remindUse_82 0 0 rfl rfl hg17 rfl 83 rfl ?_
    refine v_aload_n X dX12_remindUse_83 1 rfl rfl 84 rfl ?_
    refine v_iload_n X dX12_remindUse_84 0 rfl rfl 85 rfl ?_
    refine v_iconst X dX12_remindUse_85 ic_3 86 rfl ?_
    refine v_iadd X dX12_remindUse_86 87 rfl ?_
    refine v_aload_n X dX12_remindUse_87 1 rfl rfl 88 rfl ?_
    refine v_iconst X dX12_remindUse_88 ic_0 89 rfl ?_
    obtain ⟨x18, hx18, hf⟩ := bnd hf
    refine v_iald X dX12_remindUse_89 0 0 rfl rfl hx18 90 rfl ?_
    obtain ⟨g19, hg19, hf⟩ := bnd hf
    refine v_iast X (ws' := ([(a_ga, .inl (c9 0, 463, .inl g19))])) dX12_remindUse_90 0 0 rfl rfl hg19 rfl 91 rfl ?_
    refine v_aload_n X dX12_remindUse_91 1 rfl rfl 92 rfl ?_
    refine v_bipush X dX12_remindUse_92 bp_8 94 rfl ?_
    refine v_dup2 X dX12_remindUse_94 rfl rfl 95 rfl ?_
    obtain ⟨x20, hx20, hf⟩ := bnd hf
    refine v_iald X dX12_remindUse_95 0 0 rfl rfl hx20 96 rfl ?_
    refine v_iconst X dX12_remindUse_96 ic_1 97 rfl ?_
    refine v_iadd X dX12_remindUse_97 98 rfl ?_
    obtain ⟨g21, hg21, hf⟩ := bnd hf
    refine v_iast X (ws' := ([(a_ga, .inl (c9 0, 463, .inl g21))])) dX12_remindUse_98 0 0 rfl rfl hg21 rfl 99 rfl ?_
    obtain rfl := Option.some.inj hf
    exact v_vret X (Nat.zero_le _) (Nat.zero_le _) dX12_remindUse_99
  clear hf
  refine v_icmp_ne X (tgt := 46) dX12_remindUse_6 rfl 9 rfl hj2 (fun hf => ?_) (fun hf => ?_)
  · obtain rfl := Option.some.inj hf
    exact Jj2
  · refine v_aload_n X dX12_remindUse_9 0 rfl rfl 10 rfl ?_
    refine v_bipush X dX12_remindUse_10 bp_8 12 rfl ?_
    refine v_dup2 X dX12_remindUse_12 rfl rfl 13 rfl ?_
    obtain ⟨x3, hx3, hf⟩ := bnd hf
    refine v_iald X dX12_remindUse_13 0 0 rfl rfl hx3 14 rfl ?_
    refine v_iconst X dX12_remindUse_14 ic_1 15 rfl ?_
    refine v_isub X dX12_remindUse_15 16 rfl ?_
    obtain ⟨g4, hg4, hf⟩ := bnd hf
    refine v_iast X (ws' := ([(a_ga, .inl (c9 0, 463, .inl g4))])) dX12_remindUse_16 0 0 rfl rfl hg4 rfl 17 rfl ?_
    refine v_sipush X dX12_remindUse_17 sp_343 20 rfl ?_
    refine v_istore_n X (lv' := [(3, .int 343), (0, .ref a_ga), (1, .int v1), (2, .int v2)]) dX12_remindUse_20 rfl (by decide) rfl 21 rfl ?_
    obtain ⟨o9, ho9, hf⟩ := bnd hf
    refine v_sub (lv' := [(0, .ref a_ga), (1, .int v1), (2, .int v2), (3, .int 343)]) [1, 2, 3, 0] rfl ?_
    refine l_X12_remindUse_L21 l hG D c9 a_ga v1 v2 X o9 ?_ 5000 g4 343 ho9
    obtain rfl := Option.some.inj hf
    exact Jj2
theorem pd_X12_remindUse : yX12_remindUse.cls ≠ "java/lang/invoke/MethodHandle" ∧ yX12_remindUse.cls ≠ "java/lang/invoke/VarHandle" ∧ (parseMethodDescriptor yX12_remindUse.desc).map (fun d => d.parameters.length) = some 3 := by decide +kernel
def f_X12_gives (ga : Nat → Int32) (v1 : Int32) : Option (Int32 × (Nat → Int32)) :=
  (f_X12_ofTicket v1).bind fun o1 =>
  (rd ga 463 (o1 + 2)).bind fun x2 =>
  (f_X12_ofTicket v1).bind fun o3 =>
  (rd ga 463 (o3 + 4)).bind fun x4 =>
  (f_X12_ofService x4).bind fun o5 =>
  (rd ga 463 (o5 + 2)).bind fun x6 =>
  (wr ga 463 (o5 + 2) (x6 - 1)).bind fun g7 =>
  (f_X12_ofUser x2).bind fun o8 =>
  (rd g7 463 (o8 + 4)).bind fun x9 =>
  (wr g7 463 (o8 + 4) (x9 + 1)).bind fun g10 =>
  (f_X12_remindUse g10 x2 x4).bind fun o11 =>
  (f_X12_ofUser x2).bind fun o12 =>
  (rd o11 463 (o12 + 4)).bind fun x13 =>
  some (x13, o11)
set_option maxRecDepth 100000 in
set_option maxHeartbeats 4000000 in
theorem c_X12_gives (l : Launch) {G : (Nat → Prop) → State → Heap → Prop} (hG : vG G) (D : va_G) (c9 : Nat → ClassId) (a_ga : Nat) (ga : Nat → Int32) (v1 : Int32) {o : Int32 × (Nat → Int32)} (hf : f_X12_gives ga v1 = some o) : mI l yX12_gives (wq yX12_gives cX12_gives 4 (some .int)) { frames := 2, cells := 0, slots := 0, locals := 43 } G D (tyA c9) [.ref a_ga, .int v1] ([(a_ga, .inl (c9 0, 463, .inl ga))]) [] 0 0 o.1 ([(a_ga, .inl (c9 0, 463, .inl o.2))]) := by
  refine mI_of hG (cc := cX12_gives) (maxL := 4) (ty := .int) (by decide) rfl (Nat.le_of_ble_eq_true rfl) ?_
  intro p e s m args below meth c A X
  have X : vX p s m args meth c cX12_gives 4 (some .int) RX12 (wq yX12_gives cX12_gives 4 (some .int)) D (tyA c9) G A := X
  refine v_eq (lv2 := [(0, .ref a_ga), (1, .int v1)]) rfl rfl rfl rfl ?_
  rw [f_X12_gives] at hf
  refine v_aload_n X dX12_gives_0 0 rfl rfl 1 rfl ?_
  refine v_iload_n X dX12_gives_1 1 rfl rfl 2 rfl ?_
  obtain ⟨o1, ho1, hf⟩ := bnd hf
  refine v_callSi X (As := [.int v1]) (rest := [.ref a_ga]) (ws' := ([(a_ga, .inl (c9 0, 463, .inl ga))])) (c_X12_ofTicket l hG D c9 v1 ho1) 1 (gS wm_55 wm_56 wm_37 wm_57) rfl rfl rfl pd_X12_ofTicket ⟨Nat.le_of_ble_eq_true rfl, Nat.le_of_ble_eq_true rfl⟩ rfl rfl (Nat.le_of_ble_eq_true rfl) ⟨Nat.zero_le _, Nat.zero_le _⟩ [] [0] [0] rfl rfl rfl rfl dX12_gives_2 5 rfl ?_
  refine v_iconst X dX12_gives_5 ic_2 6 rfl ?_
  refine v_iadd X dX12_gives_6 7 rfl ?_
  obtain ⟨x2, hx2, hf⟩ := bnd hf
  refine v_iald X dX12_gives_7 0 0 rfl rfl hx2 8 rfl ?_
  refine v_istore_n X (lv' := [(2, .int x2), (0, .ref a_ga), (1, .int v1)]) dX12_gives_8 rfl (by decide) rfl 9 rfl ?_
  refine v_aload_n X dX12_gives_9 1 rfl rfl 10 rfl ?_
  refine v_iload_n X dX12_gives_10 2 rfl rfl 11 rfl ?_
  obtain ⟨o3, ho3, hf⟩ := bnd hf
  refine v_callSi X (As := [.int v1]) (rest := [.ref a_ga]) (ws' := ([(a_ga, .inl (c9 0, 463, .inl ga))])) (c_X12_ofTicket l hG D c9 v1 ho3) 1 (gS wm_55 wm_56 wm_37 wm_57) rfl rfl rfl pd_X12_ofTicket ⟨Nat.le_of_ble_eq_true rfl, Nat.le_of_ble_eq_true rfl⟩ rfl rfl (Nat.le_of_ble_eq_true rfl) ⟨Nat.zero_le _, Nat.zero_le _⟩ [] [0] [0] rfl rfl rfl rfl dX12_gives_11 14 rfl ?_
  refine v_iconst X dX12_gives_14 ic_4 15 rfl ?_
  refine v_iadd X dX12_gives_15 16 rfl ?_
  obtain ⟨x4, hx4, hf⟩ := bnd hf
  refine v_iald X dX12_gives_16 0 0 rfl rfl hx4 17 rfl ?_
  refine v_istore_n X (lv' := [(3, .int x4), (2, .int x2), (0, .ref a_ga), (1, .int v1)]) dX12_gives_17 rfl (by decide) rfl 18 rfl ?_
  refine v_aload_n X dX12_gives_18 2 rfl rfl 19 rfl ?_
  refine v_iload_n X dX12_gives_19 0 rfl rfl 20 rfl ?_
  obtain ⟨o5, ho5, hf⟩ := bnd hf
  refine v_callSi X (As := [.int x4]) (rest := [.ref a_ga]) (ws' := ([(a_ga, .inl (c9 0, 463, .inl ga))])) (c_X12_ofService l hG D c9 x4 ho5) 1 (gS wm_76 wm_77 wm_37 wm_78) rfl rfl rfl pd_X12_ofService ⟨Nat.le_of_ble_eq_true rfl, Nat.le_of_ble_eq_true rfl⟩ rfl rfl (Nat.le_of_ble_eq_true rfl) ⟨Nat.zero_le _, Nat.zero_le _⟩ [] [0] [0] rfl rfl rfl rfl dX12_gives_20 23 rfl ?_
  refine v_iconst X dX12_gives_23 ic_2 24 rfl ?_
  refine v_iadd X dX12_gives_24 25 rfl ?_
  refine v_dup2 X dX12_gives_25 rfl rfl 26 rfl ?_
  obtain ⟨x6, hx6, hf⟩ := bnd hf
  refine v_iald X dX12_gives_26 0 0 rfl rfl hx6 27 rfl ?_
  refine v_iconst X dX12_gives_27 ic_1 28 rfl ?_
  refine v_isub X dX12_gives_28 29 rfl ?_
  obtain ⟨g7, hg7, hf⟩ := bnd hf
  refine v_iast X (ws' := ([(a_ga, .inl (c9 0, 463, .inl g7))])) dX12_gives_29 0 0 rfl rfl hg7 rfl 30 rfl ?_
  refine v_aload_n X dX12_gives_30 2 rfl rfl 31 rfl ?_
  refine v_iload_n X dX12_gives_31 1 rfl rfl 32 rfl ?_
  obtain ⟨o8, ho8, hf⟩ := bnd hf
  refine v_callSi X (As := [.int x2]) (rest := [.ref a_ga]) (ws' := ([(a_ga, .inl (c9 0, 463, .inl g7))])) (c_X12_ofUser l hG D c9 x2 ho8) 1 (gS wm_46 wm_47 wm_37 wm_48) rfl rfl rfl pd_X12_ofUser ⟨Nat.le_of_ble_eq_true rfl, Nat.le_of_ble_eq_true rfl⟩ rfl rfl (Nat.le_of_ble_eq_true rfl) ⟨Nat.zero_le _, Nat.zero_le _⟩ [] [0] [0] rfl rfl rfl rfl dX12_gives_32 35 rfl ?_
  refine v_iconst X dX12_gives_35 ic_4 36 rfl ?_
  refine v_iadd X dX12_gives_36 37 rfl ?_
  refine v_dup2 X dX12_gives_37 rfl rfl 38 rfl ?_
  obtain ⟨x9, hx9, hf⟩ := bnd hf
  refine v_iald X dX12_gives_38 0 0 rfl rfl hx9 39 rfl ?_
  refine v_iconst X dX12_gives_39 ic_1 40 rfl ?_
  refine v_iadd X dX12_gives_40 41 rfl ?_
  obtain ⟨g10, hg10, hf⟩ := bnd hf
  refine v_iast X (ws' := ([(a_ga, .inl (c9 0, 463, .inl g10))])) dX12_gives_41 0 0 rfl rfl hg10 rfl 42 rfl ?_
  refine v_aload_n X dX12_gives_42 2 rfl rfl 43 rfl ?_
  refine v_iload_n X dX12_gives_43 1 rfl rfl 44 rfl ?_
  refine v_iload_n X dX12_gives_44 0 rfl rfl 45 rfl ?_
  obtain ⟨o11, ho11, hf⟩ := bnd hf
  refine v_callSv X (As := [.ref a_ga, .int x2, .int x4]) (rest := []) (ws' := ([(a_ga, .inl (c9 0, 463, .inl o11))])) (c_X12_remindUse l hG D c9 a_ga g10 x2 x4 ho11) 3 (gS wm_91 wm_92 wm_37 wm_93) rfl rfl rfl pd_X12_remindUse ⟨Nat.le_of_ble_eq_true rfl, Nat.le_of_ble_eq_true rfl⟩ rfl rfl (Nat.le_of_ble_eq_true rfl) ⟨Nat.zero_le _, Nat.zero_le _⟩ [0] [] [0] rfl rfl rfl rfl dX12_gives_45 48 rfl ?_
  refine v_aload_n X dX12_gives_48 2 rfl rfl 49 rfl ?_
  refine v_iload_n X dX12_gives_49 1 rfl rfl 50 rfl ?_
  obtain ⟨o12, ho12, hf⟩ := bnd hf
  refine v_callSi X (As := [.int x2]) (rest := [.ref a_ga]) (ws' := ([(a_ga, .inl (c9 0, 463, .inl o11))])) (c_X12_ofUser l hG D c9 x2 ho12) 1 (gS wm_46 wm_47 wm_37 wm_48) rfl rfl rfl pd_X12_ofUser ⟨Nat.le_of_ble_eq_true rfl, Nat.le_of_ble_eq_true rfl⟩ rfl rfl (Nat.le_of_ble_eq_true rfl) ⟨Nat.zero_le _, Nat.zero_le _⟩ [] [0] [0] rfl rfl rfl rfl dX12_gives_50 53 rfl ?_
  refine v_iconst X dX12_gives_53 ic_4 54 rfl ?_
  refine v_iadd X dX12_gives_54 55 rfl ?_
  obtain ⟨x13, hx13, hf⟩ := bnd hf
  refine v_iald X dX12_gives_55 0 0 rfl rfl hx13 56 rfl ?_
  obtain rfl := Option.some.inj hf
  exact v_iret X (Nat.zero_le _) (Nat.zero_le _) dX12_gives_56
theorem pd_X12_gives : yX12_gives.cls ≠ "java/lang/invoke/MethodHandle" ∧ yX12_gives.cls ≠ "java/lang/invoke/VarHandle" ∧ (parseMethodDescriptor yX12_gives.desc).map (fun d => d.parameters.length) = some 2 := by decide +kernel
def f_X12_drops_L13  : Nat → (Nat → Int32) → Int32 → Option ((Nat → Int32))
  | 0, _, _ => none
  | n + 1, ga, v2 =>
    (rd ga 463 6).bind fun x4 =>
    (f_X12_ofTicket x4).bind fun o5 =>
    if o5 ≤ v2 then (
      some (ga))
    else (
      (rd ga 463 (v2 + 10)).bind fun x6 =>
      (wr ga 463 v2 x6).bind fun g7 =>
      f_X12_drops_L13  n g7 (v2 + 1))
def f_X12_drops (ga : Nat → Int32) (v1 : Int32) : Option (Int32 × (Nat → Int32)) :=
  (rd ga 463 6).bind fun x1 =>
  (wr ga 463 6 (x1 - 1)).bind fun g2 =>
  (f_X12_ofTicket v1).bind fun o3 =>
  (f_X12_drops_L13 5000 g2 o3).bind fun o8 =>
  (rd o8 463 6).bind fun x9 =>
  some (x9, o8)
set_option maxRecDepth 100000 in
set_option maxHeartbeats 4000000 in
theorem l_X12_drops_L13 (l : Launch) {G : (Nat → Prop) → State → Heap → Prop} (hG : vG G) (D : va_G) (c9 : Nat → ClassId) (a_ga : Nat) {p : Program} {e : Env} {s : State} {m : MethodId} {args : Array Value} {below : List Frame} {meth : Method} {c : Code} {A : Nat → Prop} {F : va_W} (X : vX p s m args meth c cX12_drops 3 (some .int) RX12 (wq yX12_drops cX12_drops 3 (some .int)) D (tyA c9) G A) {Q : State → Prop} (o : (Nat → Int32)) (K : vW p l e { frames := 1, cells := 0, slots := 0, locals := 20 } s m args below meth c 3 D A F 0 0 Q ([(a_ga, .inl (c9 0, 463, .inl o))]) 39 [(0, .ref a_ga)] []) :
    ∀ (n : Nat) (ga : Nat → Int32) (v2 : Int32), f_X12_drops_L13 n ga v2 = some o → vW p l e { frames := 1, cells := 0, slots := 0, locals := 20 } s m args below meth c 3 D A F 0 0 Q ([(a_ga, .inl (c9 0, 463, .inl ga))]) 13 [(0, .ref a_ga), (2, .int v2)] [] := by
  intro n
  induction n with
  | zero =>
    intro ga v2 hf
    rw [f_X12_drops_L13] at hf
    cases hf
  | succ n ih =>
    intro ga v2 hf
    rw [f_X12_drops_L13] at hf
    refine v_iload_n X dX12_drops_13 1 rfl rfl 14 rfl ?_
    refine v_aload_n X dX12_drops_14 0 rfl rfl 15 rfl ?_
    refine v_bipush X dX12_drops_15 bp_6 17 rfl ?_
    obtain ⟨x4, hx4, hf⟩ := bnd hf
    refine v_iald X dX12_drops_17 0 0 rfl rfl hx4 18 rfl ?_
    obtain ⟨o5, ho5, hf⟩ := bnd hf
    refine v_callSi X (As := [.int x4]) (rest := [.int v2]) (ws' := ([(a_ga, .inl (c9 0, 463, .inl ga))])) (c_X12_ofTicket l hG D c9 x4 ho5) 1 (gS wm_55 wm_56 wm_37 wm_57) rfl rfl rfl pd_X12_ofTicket ⟨Nat.le_of_ble_eq_true rfl, Nat.le_of_ble_eq_true rfl⟩ rfl rfl (Nat.le_of_ble_eq_true rfl) ⟨Nat.zero_le _, Nat.zero_le _⟩ [] [0] [0] rfl rfl rfl rfl dX12_drops_18 21 rfl ?_
    refine v_icmp_ge X (tgt := 39) dX12_drops_21 rfl 24 rfl hf (fun hf => ?_) (fun hf => ?_)
    · obtain rfl := Option.some.inj hf
      refine v_sub (lv' := [(0, .ref a_ga)]) [0] rfl ?_
      exact K
    · refine v_aload_n X dX12_drops_24 0 rfl rfl 25 rfl ?_
      refine v_iload_n X dX12_drops_25 1 rfl rfl 26 rfl ?_
      refine v_aload_n X dX12_drops_26 0 rfl rfl 27 rfl ?_
      refine v_iload_n X dX12_drops_27 1 rfl rfl 28 rfl ?_
      refine v_bipush X dX12_drops_28 bp_10 30 rfl ?_
      refine v_iadd X dX12_drops_30 31 rfl ?_
      obtain ⟨x6, hx6, hf⟩ := bnd hf
      refine v_iald X dX12_drops_31 0 0 rfl rfl hx6 32 rfl ?_
      obtain ⟨g7, hg7, hf⟩ := bnd hf
      refine v_iast X (ws' := ([(a_ga, .inl (c9 0, 463, .inl g7))])) dX12_drops_32 0 0 rfl rfl hg7 rfl 33 rfl ?_
      refine v_iinc X (lv' := [(2, .int (v2 + 1)), (0, .ref a_ga)]) dX12_drops_33 1 rfl ic_1 (by decide) rfl 36 rfl ?_
      refine v_goto X (tgt := 13) dX12_drops_36 rfl ?_
      refine v_sub (lv' := [(0, .ref a_ga), (2, .int (v2 + 1))]) [1, 0] rfl ?_
      exact ih g7 (v2 + 1) hf
set_option maxRecDepth 100000 in
set_option maxHeartbeats 4000000 in
theorem c_X12_drops (l : Launch) {G : (Nat → Prop) → State → Heap → Prop} (hG : vG G) (D : va_G) (c9 : Nat → ClassId) (a_ga : Nat) (ga : Nat → Int32) (v1 : Int32) {o : Int32 × (Nat → Int32)} (hf : f_X12_drops ga v1 = some o) : mI l yX12_drops (wq yX12_drops cX12_drops 3 (some .int)) { frames := 1, cells := 0, slots := 0, locals := 20 } G D (tyA c9) [.ref a_ga, .int v1] ([(a_ga, .inl (c9 0, 463, .inl ga))]) [] 0 0 o.1 ([(a_ga, .inl (c9 0, 463, .inl o.2))]) := by
  refine mI_of hG (cc := cX12_drops) (maxL := 3) (ty := .int) (by decide) rfl (Nat.le_of_ble_eq_true rfl) ?_
  intro p e s m args below meth c A X
  have X : vX p s m args meth c cX12_drops 3 (some .int) RX12 (wq yX12_drops cX12_drops 3 (some .int)) D (tyA c9) G A := X
  refine v_eq (lv2 := [(0, .ref a_ga), (1, .int v1)]) rfl rfl rfl rfl ?_
  rw [f_X12_drops] at hf
  refine v_aload_n X dX12_drops_0 0 rfl rfl 1 rfl ?_
  refine v_bipush X dX12_drops_1 bp_6 3 rfl ?_
  refine v_dup2 X dX12_drops_3 rfl rfl 4 rfl ?_
  obtain ⟨x1, hx1, hf⟩ := bnd hf
  refine v_iald X dX12_drops_4 0 0 rfl rfl hx1 5 rfl ?_
  refine v_iconst X dX12_drops_5 ic_1 6 rfl ?_
  refine v_isub X dX12_drops_6 7 rfl ?_
  obtain ⟨g2, hg2, hf⟩ := bnd hf
  refine v_iast X (ws' := ([(a_ga, .inl (c9 0, 463, .inl g2))])) dX12_drops_7 0 0 rfl rfl hg2 rfl 8 rfl ?_
  refine v_iload_n X dX12_drops_8 1 rfl rfl 9 rfl ?_
  obtain ⟨o3, ho3, hf⟩ := bnd hf
  refine v_callSi X (As := [.int v1]) (rest := []) (ws' := ([(a_ga, .inl (c9 0, 463, .inl g2))])) (c_X12_ofTicket l hG D c9 v1 ho3) 1 (gS wm_55 wm_56 wm_37 wm_57) rfl rfl rfl pd_X12_ofTicket ⟨Nat.le_of_ble_eq_true rfl, Nat.le_of_ble_eq_true rfl⟩ rfl rfl (Nat.le_of_ble_eq_true rfl) ⟨Nat.zero_le _, Nat.zero_le _⟩ [] [0] [0] rfl rfl rfl rfl dX12_drops_9 12 rfl ?_
  refine v_istore_n X (lv' := [(2, .int o3), (0, .ref a_ga), (1, .int v1)]) dX12_drops_12 rfl (by decide) rfl 13 rfl ?_
  obtain ⟨o8, ho8, hf⟩ := bnd hf
  refine v_sub (lv' := [(0, .ref a_ga), (2, .int o3)]) [1, 0] rfl ?_
  refine l_X12_drops_L13 l hG D c9 a_ga X o8 ?_ 5000 g2 o3 ho8
  refine v_aload_n X dX12_drops_39 0 rfl rfl 40 rfl ?_
  refine v_bipush X dX12_drops_40 bp_6 42 rfl ?_
  obtain ⟨x9, hx9, hf⟩ := bnd hf
  refine v_iald X dX12_drops_42 0 0 rfl rfl hx9 43 rfl ?_
  obtain rfl := Option.some.inj hf
  exact v_iret X (Nat.zero_le _) (Nat.zero_le _) dX12_drops_43
theorem pd_X12_drops : yX12_drops.cls ≠ "java/lang/invoke/MethodHandle" ∧ yX12_drops.cls ≠ "java/lang/invoke/VarHandle" ∧ (parseMethodDescriptor yX12_drops.desc).map (fun d => d.parameters.length) = some 2 := by decide +kernel
def f_X12_sweeps_L9 (v1 : Int32) : Nat → (Nat → Int32) → Int32 → Option (Int32 × (Nat → Int32))
  | 0, _, _ => none
  | n + 1, ga, v2 =>
    if v2 < 0 then (
      (rd ga 463 6).bind fun x2 =>
      some ((v1 - x2), ga))
    else (
      (f_X12_lives ga v2).bind fun o3 =>
      if o3 = 0 then (
        (f_X12_drops ga v2).bind fun o4 =>
        if 0 ≤ o4.1 then (
          f_X12_sweeps_L9 v1 n o4.2 (v2 + (-1)))
        else (
          some ((-1), o4.2)))
      else (
        f_X12_sweeps_L9 v1 n ga (v2 + (-1))))
def f_X12_sweeps (ga : Nat → Int32) : Option (Int32 × (Nat → Int32)) :=
  (rd ga 463 6).bind fun x1 =>
  f_X12_sweeps_L9 x1 5000 ga (x1 - 1)
set_option maxRecDepth 100000 in
set_option maxHeartbeats 4000000 in
theorem l_X12_sweeps_L9 (l : Launch) {G : (Nat → Prop) → State → Heap → Prop} (hG : vG G) (D : va_G) (c9 : Nat → ClassId) (a_ga : Nat) (v1 : Int32) {p : Program} {e : Env} {s : State} {m : MethodId} {args : Array Value} {below : List Frame} {meth : Method} {c : Code} {A : Nat → Prop} {F : va_W} (X : vX p s m args meth c cX12_sweeps 3 (some .int) RX12 (wq yX12_sweeps cX12_sweeps 3 (some .int)) D (tyA c9) G A) (o : Int32 × (Nat → Int32)) :
    ∀ (n : Nat) (ga : Nat → Int32) (v2 : Int32), f_X12_sweeps_L9 v1 n ga v2 = some o → vW p l e { frames := 2, cells := 0, slots := 0, locals := 42 } s m args below meth c 3 D A F 0 0 (MQ below (eI D (tyA c9) A o.1 (([(a_ga, .inl (c9 0, 463, .inl o.2))]) ++ F)) args s 0 0 A) ([(a_ga, .inl (c9 0, 463, .inl ga))]) 9 [(0, .ref a_ga), (1, .int v1), (2, .int v2)] [] := by
  intro n
  induction n with
  | zero =>
    intro ga v2 hf
    rw [f_X12_sweeps_L9] at hf
    cases hf
  | succ n ih =>
    intro ga v2 hf
    rw [f_X12_sweeps_L9] at hf
    refine v_iload_n X dX12_sweeps_9 2 rfl rfl 10 rfl ?_
    refine v_if_lt X (tgt := 37) dX12_sweeps_10 rfl 13 rfl hf (fun hf => ?_) (fun hf => ?_)
    · refine v_iload_n X dX12_sweeps_37 1 rfl rfl 38 rfl ?_
      refine v_aload_n X dX12_sweeps_38 0 rfl rfl 39 rfl ?_
      refine v_bipush X dX12_sweeps_39 bp_6 41 rfl ?_
      obtain ⟨x2, hx2, hf⟩ := bnd hf
      refine v_iald X dX12_sweeps_41 0 0 rfl rfl hx2 42 rfl ?_
      refine v_isub X dX12_sweeps_42 43 rfl ?_
      obtain rfl := Option.some.inj hf
      exact v_iret X (Nat.zero_le _) (Nat.zero_le _) dX12_sweeps_43
    · refine v_aload_n X dX12_sweeps_13 0 rfl rfl 14 rfl ?_
      refine v_iload_n X dX12_sweeps_14 2 rfl rfl 15 rfl ?_
      obtain ⟨o3, ho3, hf⟩ := bnd hf
      refine v_callSi X (As := [.ref a_ga, .int v2]) (rest := []) (ws' := ([(a_ga, .inl (c9 0, 463, .inl ga))])) (c_X12_lives l hG D c9 a_ga ga v2 ho3) 2 (gS wm_58 wm_59 wm_37 wm_60) rfl rfl rfl pd_X12_lives ⟨Nat.le_of_ble_eq_true rfl, Nat.le_of_ble_eq_true rfl⟩ rfl rfl (Nat.le_of_ble_eq_true rfl) ⟨Nat.zero_le _, Nat.zero_le _⟩ [0] [] [0] rfl rfl rfl rfl dX12_sweeps_15 18 rfl ?_
      refine v_if_ne X (tgt := 31) dX12_sweeps_18 rfl 21 rfl hf (fun hf => ?_) (fun hf => ?_)
      · refine v_iinc X (lv' := [(2, .int (v2 + (-1))), (0, .ref a_ga), (1, .int v1)]) dX12_sweeps_31 2 rfl ic_m1 (by decide) rfl 34 rfl ?_
        refine v_goto X (tgt := 9) dX12_sweeps_34 rfl ?_
        refine v_sub (lv' := [(0, .ref a_ga), (1, .int v1), (2, .int (v2 + (-1)))]) [1, 2, 0] rfl ?_
        exact ih ga (v2 + (-1)) hf
      · refine v_aload_n X dX12_sweeps_21 0 rfl rfl 22 rfl ?_
        refine v_iload_n X dX12_sweeps_22 2 rfl rfl 23 rfl ?_
        obtain ⟨o4, ho4, hf⟩ := bnd hf
        refine v_callSi X (As := [.ref a_ga, .int v2]) (rest := []) (ws' := ([(a_ga, .inl (c9 0, 463, .inl o4.2))])) (c_X12_drops l hG D c9 a_ga ga v2 ho4) 2 (gS wm_94 wm_95 wm_37 wm_96) rfl rfl rfl pd_X12_drops ⟨Nat.le_of_ble_eq_true rfl, Nat.le_of_ble_eq_true rfl⟩ rfl rfl (Nat.le_of_ble_eq_true rfl) ⟨Nat.zero_le _, Nat.zero_le _⟩ [0] [] [0] rfl rfl rfl rfl dX12_sweeps_23 26 rfl ?_
        refine v_if_ge X (tgt := 31) dX12_sweeps_26 rfl 29 rfl hf (fun hf => ?_) (fun hf => ?_)
        · refine v_iinc X (lv' := [(2, .int (v2 + (-1))), (0, .ref a_ga), (1, .int v1)]) dX12_sweeps_31 2 rfl ic_m1 (by decide) rfl 34 rfl ?_
          refine v_goto X (tgt := 9) dX12_sweeps_34 rfl ?_
          refine v_sub (lv' := [(0, .ref a_ga), (1, .int v1), (2, .int (v2 + (-1)))]) [1, 2, 0] rfl ?_
          exact ih o4.2 (v2 + (-1)) hf
        · refine v_iconst X dX12_sweeps_29 ic_m1 30 rfl ?_
          obtain rfl := Option.some.inj hf
          exact v_iret X (Nat.zero_le _) (Nat.zero_le _) dX12_sweeps_30
set_option maxRecDepth 100000 in
set_option maxHeartbeats 4000000 in
theorem c_X12_sweeps (l : Launch) {G : (Nat → Prop) → State → Heap → Prop} (hG : vG G) (D : va_G) (c9 : Nat → ClassId) (a_ga : Nat) (ga : Nat → Int32)  {o : Int32 × (Nat → Int32)} (hf : f_X12_sweeps ga = some o) : mI l yX12_sweeps (wq yX12_sweeps cX12_sweeps 3 (some .int)) { frames := 2, cells := 0, slots := 0, locals := 42 } G D (tyA c9) [.ref a_ga] ([(a_ga, .inl (c9 0, 463, .inl ga))]) [] 0 0 o.1 ([(a_ga, .inl (c9 0, 463, .inl o.2))]) := by
  refine mI_of hG (cc := cX12_sweeps) (maxL := 3) (ty := .int) (by decide) rfl (Nat.le_of_ble_eq_true rfl) ?_
  intro p e s m args below meth c A X
  have X : vX p s m args meth c cX12_sweeps 3 (some .int) RX12 (wq yX12_sweeps cX12_sweeps 3 (some .int)) D (tyA c9) G A := X
  refine v_eq (lv2 := [(0, .ref a_ga)]) rfl rfl rfl rfl ?_
  rw [f_X12_sweeps] at hf
  refine v_aload_n X dX12_sweeps_0 0 rfl rfl 1 rfl ?_
  refine v_bipush X dX12_sweeps_1 bp_6 3 rfl ?_
  obtain ⟨x1, hx1, hf⟩ := bnd hf
  refine v_iald X dX12_sweeps_3 0 0 rfl rfl hx1 4 rfl ?_
  refine v_istore_n X (lv' := [(1, .int x1), (0, .ref a_ga)]) dX12_sweeps_4 rfl (by decide) rfl 5 rfl ?_
  refine v_iload_n X dX12_sweeps_5 0 rfl rfl 6 rfl ?_
  refine v_iconst X dX12_sweeps_6 ic_1 7 rfl ?_
  refine v_isub X dX12_sweeps_7 8 rfl ?_
  refine v_istore_n X (lv' := [(2, .int (x1 - 1)), (1, .int x1), (0, .ref a_ga)]) dX12_sweeps_8 rfl (by decide) rfl 9 rfl ?_
  refine v_sub (lv' := [(0, .ref a_ga), (1, .int x1), (2, .int (x1 - 1))]) [2, 1, 0] rfl ?_
  exact l_X12_sweeps_L9 l hG D c9 a_ga x1 X _ 5000 ga (x1 - 1) hf
theorem pd_X12_sweeps : yX12_sweeps.cls ≠ "java/lang/invoke/MethodHandle" ∧ yX12_sweeps.cls ≠ "java/lang/invoke/VarHandle" ∧ (parseMethodDescriptor yX12_sweeps.desc).map (fun d => d.parameters.length) = some 1 := by decide +kernel
def f_X12_forget_L39 (v1 : Int32) (v2 : Int32) (v3 : Int32) : Nat → (Nat → Int32) → Int32 → Option ((Nat → Int32))
  | 0, _, _ => none
  | n + 1, ga, v4 =>
    if 4 ≤ v4 then (
      some (ga))
    else (
      if v3 = 0 then (
        some (ga))
      else (
        (f_X12_ofUse v1).bind fun o7 =>
        (f_X12_ofUse v2).bind fun o8 =>
        (rd ga 463 (o8 + v4)).bind fun x9 =>
        (wr ga 463 (o7 + v4) x9).bind fun g10 =>
        f_X12_forget_L39 v1 v2 v3 n g10 (v4 + 1)))
def f_X12_forget_L4  : Nat → (Nat → Int32) → Int32 → Int32 → Option ((Nat → Int32) × Int32)
  | 0, _, _, _ => none
  | n + 1, ga, v1, v2 =>
    (rd ga 463 8).bind fun x1 =>
    if x1 ≤ v2 then (
      some (ga, v1))
    else (
      (rd ga 463 0).bind fun x2 =>
      (f_X12_ofUse v2).bind fun o3 =>
      (rd ga 463 (o3 + 3)).bind fun x4 =>
      (rd ga 463 1).bind fun x5 =>
      Option.bind (if x5 < (x2 - x4) then (
        some (0))
      else (
        some (1)) : Option (Int32)) fun j6 =>
      (f_X12_forget_L39 v1 v2 j6 5000 ga 0).bind fun o11 =>
      Option.bind (if j6 = 0 then (
        some (0))
      else (
        some (1)) : Option (Int32)) fun j12 =>
      f_X12_forget_L4  n o11 (v1 + j12) (v2 + 1))
def f_X12_forget (ga : Nat → Int32) : Option ((Nat → Int32)) :=
  (f_X12_forget_L4 5000 ga 0 0).bind fun o13 =>
  (wr o13.1 463 8 o13.2).bind fun g14 =>
  some (g14)
set_option maxRecDepth 100000 in
set_option maxHeartbeats 4000000 in
theorem l_X12_forget_L39 (l : Launch) {G : (Nat → Prop) → State → Heap → Prop} (hG : vG G) (D : va_G) (c9 : Nat → ClassId) (a_ga : Nat) (v1 : Int32) (v2 : Int32) (v3 : Int32) {p : Program} {e : Env} {s : State} {m : MethodId} {args : Array Value} {below : List Frame} {meth : Method} {c : Code} {A : Nat → Prop} {F : va_W} (X : vX p s m args meth c cX12_forget 5 none RX12 (wq yX12_forget cX12_forget 5 none) D (tyA c9) G A) {Q : State → Prop} (o : (Nat → Int32)) (K : vW p l e { frames := 1, cells := 0, slots := 0, locals := 20 } s m args below meth c 5 D A F 0 0 Q ([(a_ga, .inl (c9 0, 463, .inl o))]) 73 [(0, .ref a_ga), (1, .int v1), (2, .int v2), (3, .int v3)] []) :
    ∀ (n : Nat) (ga : Nat → Int32) (v4 : Int32), f_X12_forget_L39 v1 v2 v3 n ga v4 = some o → vW p l e { frames := 1, cells := 0, slots := 0, locals := 20 } s m args below meth c 5 D A F 0 0 Q ([(a_ga, .inl (c9 0, 463, .inl ga))]) 39 [(0, .ref a_ga), (1, .int v1), (2, .int v2), (3, .int v3), (4, .int v4)] [] := by
  intro n
  induction n with
  | zero =>
    intro ga v4 hf
    rw [f_X12_forget_L39] at hf
    cases hf
  | succ n ih =>
    intro ga v4 hf
    rw [f_X12_forget_L39] at hf
    refine v_iload X dX12_forget_39 4 rfl 41 rfl ?_
    refine v_iconst X dX12_forget_41 ic_4 42 rfl ?_
    refine v_icmp_ge X (tgt := 73) dX12_forget_42 rfl 45 rfl hf (fun hf => ?_) (fun hf => ?_)
    · obtain rfl := Option.some.inj hf
      refine v_sub (lv' := [(0, .ref a_ga), (1, .int v1), (2, .int v2), (3, .int v3)]) [0, 1, 2, 3] rfl ?_
      exact K
    · refine v_iload_n X dX12_forget_45 3 rfl rfl 46 rfl ?_
      refine v_if_eq X (tgt := 73) dX12_forget_46 rfl 49 rfl hf (fun hf => ?_) (fun hf => ?_)
      · obtain rfl := Option.some.inj hf
        refine v_sub (lv' := [(0, .ref a_ga), (1, .int v1), (2, .int v2), (3, .int v3)]) [0, 1, 2, 3] rfl ?_
        exact K
      · refine v_aload_n X dX12_forget_49 0 rfl rfl 50 rfl ?_
        refine v_iload_n X dX12_forget_50 1 rfl rfl 51 rfl ?_
        obtain ⟨o7, ho7, hf⟩ := bnd hf
        refine v_callSi X (As := [.int v1]) (rest := [.ref a_ga]) (ws' := ([(a_ga, .inl (c9 0, 463, .inl ga))])) (c_X12_ofUse l hG D c9 v1 ho7) 1 (gS wm_82 wm_83 wm_37 wm_84) rfl rfl rfl pd_X12_ofUse ⟨Nat.le_of_ble_eq_true rfl, Nat.le_of_ble_eq_true rfl⟩ rfl rfl (Nat.le_of_ble_eq_true rfl) ⟨Nat.zero_le _, Nat.zero_le _⟩ [] [0] [0] rfl rfl rfl rfl dX12_forget_51 54 rfl ?_
        refine v_iload X dX12_forget_54 4 rfl 56 rfl ?_
        refine v_iadd X dX12_forget_56 57 rfl ?_
        refine v_aload_n X dX12_forget_57 0 rfl rfl 58 rfl ?_
        refine v_iload_n X dX12_forget_58 2 rfl rfl 59 rfl ?_
        obtain ⟨o8, ho8, hf⟩ := bnd hf
        refine v_callSi X (As := [.int v2]) (rest := [.ref a_ga, .int (o7 + v4), .ref a_ga]) (ws' := ([(a_ga, .inl (c9 0, 463, .inl ga))])) (c_X12_ofUse l hG D c9 v2 ho8) 1 (gS wm_82 wm_83 wm_37 wm_84) rfl rfl rfl pd_X12_ofUse ⟨Nat.le_of_ble_eq_true rfl, Nat.le_of_ble_eq_true rfl⟩ rfl rfl (Nat.le_of_ble_eq_true rfl) ⟨Nat.zero_le _, Nat.zero_le _⟩ [] [0] [0] rfl rfl rfl rfl dX12_forget_59 62 rfl ?_
        refine v_iload X dX12_forget_62 4 rfl 64 rfl ?_
        refine v_iadd X dX12_forget_64 65 rfl ?_
        obtain ⟨x9, hx9, hf⟩ := bnd hf
        refine v_iald X dX12_forget_65 0 0 rfl rfl hx9 66 rfl ?_
        obtain ⟨g10, hg10, hf⟩ := bnd hf
        refine v_iast X (ws' := ([(a_ga, .inl (c9 0, 463, .inl g10))])) dX12_forget_66 0 0 rfl rfl hg10 rfl 67 rfl ?_
        refine v_iinc X (lv' := [(4, .int (v4 + 1)), (0, .ref a_ga), (1, .int v1), (2, .int v2), (3, .int v3)]) dX12_forget_67 4 rfl ic_1 (by decide) rfl 70 rfl ?_
        refine v_goto X (tgt := 39) dX12_forget_70 rfl ?_
        refine v_sub (lv' := [(0, .ref a_ga), (1, .int v1), (2, .int v2), (3, .int v3), (4, .int (v4 + 1))]) [1, 2, 3, 4, 0] rfl ?_
        exact ih g10 (v4 + 1) hf
set_option maxRecDepth 100000 in
set_option maxHeartbeats 4000000 in
theorem l_X12_forget_L4 (l : Launch) {G : (Nat → Prop) → State → Heap → Prop} (hG : vG G) (D : va_G) (c9 : Nat → ClassId) (a_ga : Nat) {p : Program} {e : Env} {s : State} {m : MethodId} {args : Array Value} {below : List Frame} {meth : Method} {c : Code} {A : Nat → Prop} {F : va_W} (X : vX p s m args meth c cX12_forget 5 none RX12 (wq yX12_forget cX12_forget 5 none) D (tyA c9) G A) {Q : State → Prop} (o : (Nat → Int32) × Int32) (K : vW p l e { frames := 1, cells := 0, slots := 0, locals := 20 } s m args below meth c 5 D A F 0 0 Q ([(a_ga, .inl (c9 0, 463, .inl o.1))]) 91 [(0, .ref a_ga), (1, .int o.2)] []) :
    ∀ (n : Nat) (ga : Nat → Int32) (v1 : Int32) (v2 : Int32), f_X12_forget_L4 n ga v1 v2 = some o → vW p l e { frames := 1, cells := 0, slots := 0, locals := 20 } s m args below meth c 5 D A F 0 0 Q ([(a_ga, .inl (c9 0, 463, .inl ga))]) 4 [(0, .ref a_ga), (1, .int v1), (2, .int v2)] [] := by
  intro n
  induction n with
  | zero =>
    intro ga v1 v2 hf
    rw [f_X12_forget_L4] at hf
    cases hf
  | succ n ih =>
    intro ga v1 v2 hf
    rw [f_X12_forget_L4] at hf
    refine v_iload_n X dX12_forget_4 2 rfl rfl 5 rfl ?_
    refine v_aload_n X dX12_forget_5 0 rfl rfl 6 rfl ?_
    refine v_bipush X dX12_forget_6 bp_8 8 rfl ?_
    obtain ⟨x1, hx1, hf⟩ := bnd hf
    refine v_iald X dX12_forget_8 0 0 rfl rfl hx1 9 rfl ?_
    refine v_icmp_ge X (tgt := 91) dX12_forget_9 rfl 12 rfl hf (fun hf => ?_) (fun hf => ?_)
    · obtain rfl := Option.some.inj hf
      refine v_sub (lv' := [(0, .ref a_ga), (1, .int v1)]) [0, 1] rfl ?_
      exact K
    · refine v_aload_n X dX12_forget_12 0 rfl rfl 13 rfl ?_
      refine v_iconst X dX12_forget_13 ic_0 14 rfl ?_
      obtain ⟨x2, hx2, hf⟩ := bnd hf
      refine v_iald X dX12_forget_14 0 0 rfl rfl hx2 15 rfl ?_
      refine v_aload_n X dX12_forget_15 0 rfl rfl 16 rfl ?_
      refine v_iload_n X dX12_forget_16 2 rfl rfl 17 rfl ?_
      obtain ⟨o3, ho3, hf⟩ := bnd hf
      refine v_callSi X (As := [.int v2]) (rest := [.ref a_ga, .int x2]) (ws' := ([(a_ga, .inl (c9 0, 463, .inl ga))])) (c_X12_ofUse l hG D c9 v2 ho3) 1 (gS wm_82 wm_83 wm_37 wm_84) rfl rfl rfl pd_X12_ofUse ⟨Nat.le_of_ble_eq_true rfl, Nat.le_of_ble_eq_true rfl⟩ rfl rfl (Nat.le_of_ble_eq_true rfl) ⟨Nat.zero_le _, Nat.zero_le _⟩ [] [0] [0] rfl rfl rfl rfl dX12_forget_17 20 rfl ?_
      refine v_iconst X dX12_forget_20 ic_3 21 rfl ?_
      refine v_iadd X dX12_forget_21 22 rfl ?_
      obtain ⟨x4, hx4, hf⟩ := bnd hf
      refine v_iald X dX12_forget_22 0 0 rfl rfl hx4 23 rfl ?_
      refine v_isub X dX12_forget_23 24 rfl ?_
      refine v_aload_n X dX12_forget_24 0 rfl rfl 25 rfl ?_
      refine v_iconst X dX12_forget_25 ic_1 26 rfl ?_
      obtain ⟨x5, hx5, hf⟩ := bnd hf
      refine v_iald X dX12_forget_26 0 0 rfl rfl hx5 27 rfl ?_
      obtain ⟨j6, hj6, hf⟩ := bnd hf
      have Jj6 : vW p l e { frames := 1, cells := 0, slots := 0, locals := 20 } s m args below meth c 5 D A F 0 0 Q ([(a_ga, .inl (c9 0, 463, .inl ga))]) 35 [(0, .ref a_ga), (1, .int v1), (2, .int v2)] [.int j6] := by
        refine v_istore_n X (lv' := [(3, .int j6), (0, .ref a_ga), (1, .int v1), (2, .int v2)]) dX12_forget_35 rfl (by decide) rfl 36 rfl ?_
        refine v_iconst X dX12_forget_36 ic_0 37 rfl ?_
        refine v_istore X (lv' := [(4, .int 0), (3, .int j6), (0, .ref a_ga), (1, .int v1), (2, .int v2)]) dX12_forget_37 (by decide) rfl 39 rfl ?_
        obtain ⟨o11, ho11, hf⟩ := bnd hf
        refine v_sub (lv' := [(0, .ref a_ga), (1, .int v1), (2, .int v2), (3, .int j6), (4, .int 0)]) [2, 3, 4, 1, 0] rfl ?_
        refine l_X12_forget_L39 l hG D c9 a_ga v1 v2 j6 X o11 ?_ 5000 ga 0 ho11
        refine v_iload_n X dX12_forget_73 1 rfl rfl 74 rfl ?_
        refine v_iload_n X dX12_forget_74 3 rfl rfl 75 rfl ?_
        obtain ⟨j12, hj12, hf⟩ := bnd hf
        have Jj12 : vW p l e { frames := 1, cells := 0, slots := 0, locals := 20 } s m args below meth c 5 D A F 0 0 Q ([(a_ga, .inl (c9 0, 463, .inl o11))]) 83 [(0, .ref a_ga), (2, .int v2)] [.int j12, .int v1] := by
          refine v_iadd X dX12_forget_83 84 rfl ?_
          refine v_istore_n X (lv' := [(1, .int (v1 + j12)), (0, .ref a_ga), (2, .int v2)]) dX12_forget_84 rfl (by decide) rfl 85 rfl ?_
          refine v_iinc X (lv' := [(2, .int (v2 + 1)), (1, .int (v1 + j12)), (0, .ref a_ga)]) dX12_forget_85 2 rfl ic_1 (by decide) rfl 88 rfl ?_
          refine v_goto X (tgt := 4) dX12_forget_88 rfl ?_
          refine v_sub (lv' := [(0, .ref a_ga), (1, .int (v1 + j12)), (2, .int (v2 + 1))]) [2, 1, 0] rfl ?_
          exact ih o11 (v1 + j12) (v2 + 1) hf
        clear hf
        refine v_if_eq X (tgt := 82) dX12_forget_75 rfl 78 rfl hj12 (fun hf => ?_) (fun hf => ?_)
        · refine v_iconst X dX12_forget_82 ic_0 83 rfl ?_
          obtain rfl := Option.some.inj hf
          refine v_sub (lv' := [(0, .ref a_ga), (2, .int v2)]) [0, 2] rfl ?_
          exact Jj12
        · refine v_iconst X dX12_forget_78 ic_1 79 rfl ?_
          refine v_goto X (tgt := 83) dX12_forget_79 rfl ?_
          obtain rfl := Option.some.inj hf
          refine v_sub (lv' := [(0, .ref a_ga), (2, .int v2)]) [0, 2] rfl ?_
          exact Jj12
      clear hf
      refine v_icmp_gt X (tgt := 34) dX12_forget_27 rfl 30 rfl hj6 (fun hf => ?_) (fun hf => ?_)
      · refine v_iconst X dX12_forget_34 ic_0 35 rfl ?_
        obtain rfl := Option.some.inj hf
        exact Jj6
      · refine v_iconst X dX12_forget_30 ic_1 31 rfl ?_
        refine v_goto X (tgt := 35) dX12_forget_31 rfl ?_
        obtain rfl := Option.some.inj hf
        exact Jj6
set_option maxRecDepth 100000 in
set_option maxHeartbeats 4000000 in
theorem c_X12_forget (l : Launch) {G : (Nat → Prop) → State → Heap → Prop} (hG : vG G) (D : va_G) (c9 : Nat → ClassId) (a_ga : Nat) (ga : Nat → Int32)  {o : (Nat → Int32)} (hf : f_X12_forget ga = some o) : mV l yX12_forget (wq yX12_forget cX12_forget 5 none) { frames := 1, cells := 0, slots := 0, locals := 20 } G D (tyA c9) [.ref a_ga] ([(a_ga, .inl (c9 0, 463, .inl ga))]) [] 0 0 ([(a_ga, .inl (c9 0, 463, .inl o))]) := by
  refine mV_of hG (cc := cX12_forget) (maxL := 5) (by decide) rfl (Nat.le_of_ble_eq_true rfl) ?_
  intro p e s m args below meth c A hnm X
  have X : vX p s m args meth c cX12_forget 5 none RX12 (wq yX12_forget cX12_forget 5 none) D (tyA c9) G A := X
  refine v_eq (lv2 := [(0, .ref a_ga)]) rfl rfl rfl rfl ?_
  rw [f_X12_forget] at hf
  refine v_iconst X dX12_forget_0 ic_0 1 rfl ?_
  refine v_istore_n X (lv' := [(1, .int 0), (0, .ref a_ga)]) dX12_forget_1 rfl (by decide) rfl 2 rfl ?_
  refine v_iconst X dX12_forget_2 ic_0 3 rfl ?_
  refine v_istore_n X (lv' := [(2, .int 0), (1, .int 0), (0, .ref a_ga)]) dX12_forget_3 rfl (by decide) rfl 4 rfl ?_
  obtain ⟨o13, ho13, hf⟩ := bnd hf
  refine v_sub (lv' := [(0, .ref a_ga), (1, .int 0), (2, .int 0)]) [2, 1, 0] rfl ?_
  refine l_X12_forget_L4 l hG D c9 a_ga X o13 ?_ 5000 ga 0 0 ho13
  refine v_aload_n X dX12_forget_91 0 rfl rfl 92 rfl ?_
  refine v_bipush X dX12_forget_92 bp_8 94 rfl ?_
  refine v_iload_n X dX12_forget_94 1 rfl rfl 95 rfl ?_
  obtain ⟨g14, hg14, hf⟩ := bnd hf
  refine v_iast X (ws' := ([(a_ga, .inl (c9 0, 463, .inl g14))])) dX12_forget_95 0 0 rfl rfl hg14 rfl 96 rfl ?_
  obtain rfl := Option.some.inj hf
  exact v_vret X (Nat.zero_le _) (Nat.zero_le _) dX12_forget_96
theorem pd_X12_forget : yX12_forget.cls ≠ "java/lang/invoke/MethodHandle" ∧ yX12_forget.cls ≠ "java/lang/invoke/VarHandle" ∧ (parseMethodDescriptor yX12_forget.desc).map (fun d => d.parameters.length) = some 1 := by decide +kernel
def f_X12_passes (ga : Nat → Int32) (v1 : Int32) : Option (Int32 × (Nat → Int32)) :=
  (f_X12_living ga).bind fun o1 =>
  (rd ga 463 0).bind fun x2 =>
  (wr ga 463 0 (x2 + v1)).bind fun g3 =>
  (f_X12_forget g3).bind fun o4 =>
  (f_X12_living o4).bind fun o5 =>
  some ((o1 - o5), o4)
set_option maxRecDepth 100000 in
set_option maxHeartbeats 4000000 in
theorem c_X12_passes (l : Launch) {G : (Nat → Prop) → State → Heap → Prop} (hG : vG G) (D : va_G) (c9 : Nat → ClassId) (a_ga : Nat) (ga : Nat → Int32) (v1 : Int32) {o : Int32 × (Nat → Int32)} (hf : f_X12_passes ga v1 = some o) : mI l yX12_passes (wq yX12_passes cX12_passes 3 (some .int)) { frames := 3, cells := 0, slots := 0, locals := 63 } G D (tyA c9) [.ref a_ga, .int v1] ([(a_ga, .inl (c9 0, 463, .inl ga))]) [] 0 0 o.1 ([(a_ga, .inl (c9 0, 463, .inl o.2))]) := by
  refine mI_of hG (cc := cX12_passes) (maxL := 3) (ty := .int) (by decide) rfl (Nat.le_of_ble_eq_true rfl) ?_
  intro p e s m args below meth c A X
  have X : vX p s m args meth c cX12_passes 3 (some .int) RX12 (wq yX12_passes cX12_passes 3 (some .int)) D (tyA c9) G A := X
  refine v_eq (lv2 := [(0, .ref a_ga), (1, .int v1)]) rfl rfl rfl rfl ?_
  rw [f_X12_passes] at hf
  refine v_aload_n X dX12_passes_0 0 rfl rfl 1 rfl ?_
  obtain ⟨o1, ho1, hf⟩ := bnd hf
  refine v_callSi X (As := [.ref a_ga]) (rest := []) (ws' := ([(a_ga, .inl (c9 0, 463, .inl ga))])) (c_X12_living l hG D c9 a_ga ga ho1) 1 (gS wm_97 wm_98 wm_37 wm_99) rfl rfl rfl pd_X12_living ⟨Nat.le_of_ble_eq_true rfl, Nat.le_of_ble_eq_true rfl⟩ rfl rfl (Nat.le_of_ble_eq_true rfl) ⟨Nat.zero_le _, Nat.zero_le _⟩ [0] [] [0] rfl rfl rfl rfl dX12_passes_1 4 rfl ?_
  refine v_istore_n X (lv' := [(2, .int o1), (0, .ref a_ga), (1, .int v1)]) dX12_passes_4 rfl (by decide) rfl 5 rfl ?_
  refine v_aload_n X dX12_passes_5 1 rfl rfl 6 rfl ?_
  refine v_iconst X dX12_passes_6 ic_0 7 rfl ?_
  refine v_dup2 X dX12_passes_7 rfl rfl 8 rfl ?_
  obtain ⟨x2, hx2, hf⟩ := bnd hf
  refine v_iald X dX12_passes_8 0 0 rfl rfl hx2 9 rfl ?_
  refine v_iload_n X dX12_passes_9 2 rfl rfl 10 rfl ?_
  refine v_iadd X dX12_passes_10 11 rfl ?_
  obtain ⟨g3, hg3, hf⟩ := bnd hf
  refine v_iast X (ws' := ([(a_ga, .inl (c9 0, 463, .inl g3))])) dX12_passes_11 0 0 rfl rfl hg3 rfl 12 rfl ?_
  refine v_aload_n X dX12_passes_12 1 rfl rfl 13 rfl ?_
  obtain ⟨o4, ho4, hf⟩ := bnd hf
  refine v_callSv X (As := [.ref a_ga]) (rest := []) (ws' := ([(a_ga, .inl (c9 0, 463, .inl o4))])) (c_X12_forget l hG D c9 a_ga g3 ho4) 1 (gS wm_100 wm_101 wm_37 wm_102) rfl rfl rfl pd_X12_forget ⟨Nat.le_of_ble_eq_true rfl, Nat.le_of_ble_eq_true rfl⟩ rfl rfl (Nat.le_of_ble_eq_true rfl) ⟨Nat.zero_le _, Nat.zero_le _⟩ [0] [] [0] rfl rfl rfl rfl dX12_passes_13 16 rfl ?_
  refine v_iload_n X dX12_passes_16 0 rfl rfl 17 rfl ?_
  refine v_aload_n X dX12_passes_17 1 rfl rfl 18 rfl ?_
  obtain ⟨o5, ho5, hf⟩ := bnd hf
  refine v_callSi X (As := [.ref a_ga]) (rest := [.int o1]) (ws' := ([(a_ga, .inl (c9 0, 463, .inl o4))])) (c_X12_living l hG D c9 a_ga o4 ho5) 1 (gS wm_97 wm_98 wm_37 wm_99) rfl rfl rfl pd_X12_living ⟨Nat.le_of_ble_eq_true rfl, Nat.le_of_ble_eq_true rfl⟩ rfl rfl (Nat.le_of_ble_eq_true rfl) ⟨Nat.zero_le _, Nat.zero_le _⟩ [0] [] [0] rfl rfl rfl rfl dX12_passes_18 21 rfl ?_
  refine v_isub X dX12_passes_21 22 rfl ?_
  obtain rfl := Option.some.inj hf
  exact v_iret X (Nat.zero_le _) (Nat.zero_le _) dX12_passes_22
theorem pd_X12_passes : yX12_passes.cls ≠ "java/lang/invoke/MethodHandle" ∧ yX12_passes.cls ≠ "java/lang/invoke/VarHandle" ∧ (parseMethodDescriptor yX12_passes.desc).map (fun d => d.parameters.length) = some 2 := by decide +kernel
def f_X12_appendWord_L3 (v1 : Int32) : Nat → Int32 → (Nat → Int32) → Int32 → Option (Int32 × (Nat → Int32))
  | 0, _, _, _ => none
  | n + 1, m_inputLength, m_input, v2 =>
    if v2 < 0 then (
      some (m_inputLength, m_input))
    else (
      (wr m_input 600 m_inputLength ((v1 >>> (v2 &&& 31)) &&& 255)).bind fun g1 =>
      f_X12_appendWord_L3 v1 n (m_inputLength + 1) g1 (v2 + (-8)))
def f_X12_appendWord (m_inputLength : Int32) (m_input : Nat → Int32) (v1 : Int32) : Option (Int32 × (Nat → Int32)) :=
  (f_X12_appendWord_L3 v1 5000 m_inputLength m_input 24).bind fun o2 =>
  some (o2.1, o2.2)
set_option maxRecDepth 100000 in
set_option maxHeartbeats 4000000 in
theorem l_X12_appendWord_L3 (l : Launch) {G : (Nat → Prop) → State → Heap → Prop} (hG : vG G) (D : va_G) (c9 : Nat → ClassId) (ad : Nat → Nat) (m_undoable : Int32) (m_undoStart : Int32) (m_thrown : Int32) (m_position : Int32) (m_start : Int32) (m_token : Int32) (m_value : Int32) (m_letters : Int32) (m_code : Int32) (m_place : Int32) (m_outputLength : Int32) (m_s : Nat → Int32) (m_parsed : Nat → Int32) (m_tried : Nat → Int32) (m_remembered : Nat → Int32) (m_slots : Nat → Int32) (m_kept : Nat → Int32) (m_away : Nat → Int32) (m_halfway : Nat → Int32) (m_output : Nat → Int32) (v1 : Int32) {p : Program} {e : Env} {s : State} {m : MethodId} {args : Array Value} {below : List Frame} {meth : Method} {c : Code} {A : Nat → Prop} {F : va_W} (X : vX p s m args meth c cX12_appendWord 3 none RX12 (wq yX12_appendWord cX12_appendWord 3 none) D (tyA c9) G A) {Q : State → Prop} (o : Int32 × (Nat → Int32)) (K : vW p l e { frames := 0, cells := 0, slots := 0, locals := 0 } s m args below meth c 3 D A F 0 0 Q (wX12 ad c9 m_undoable m_undoStart m_thrown o.1 m_position m_start m_token m_value m_letters m_code m_place m_outputLength m_s m_parsed m_tried m_remembered m_slots m_kept m_away o.2 m_halfway m_output) 39 [] []) :
    ∀ (n : Nat) (m_inputLength : Int32) (m_input : Nat → Int32) (v2 : Int32), f_X12_appendWord_L3 v1 n m_inputLength m_input v2 = some o → vW p l e { frames := 0, cells := 0, slots := 0, locals := 0 } s m args below meth c 3 D A F 0 0 Q (wX12 ad c9 m_undoable m_undoStart m_thrown m_inputLength m_position m_start m_token m_value m_letters m_code m_place m_outputLength m_s m_parsed m_tried m_remembered m_slots m_kept m_away m_input m_halfway m_output) 3 [(0, .ref (ad 0)), (1, .int v1), (2, .int v2)] [] := by
  intro n
  induction n with
  | zero =>
    intro m_inputLength m_input v2 hf
    rw [f_X12_appendWord_L3] at hf
    cases hf
  | succ n ih =>
    intro m_inputLength m_input v2 hf
    rw [f_X12_appendWord_L3] at hf
    refine v_iload_n X dX12_appendWord_3 2 rfl rfl 4 rfl ?_
    refine v_if_lt X (tgt := 39) dX12_appendWord_4 rfl 7 rfl hf (fun hf => ?_) (fun hf => ?_)
    · obtain rfl := Option.some.inj hf
      refine v_sub (lv' := []) [] rfl ?_
      exact K
    · refine v_aload_n X dX12_appendWord_7 0 rfl rfl 8 rfl ?_
      refine v_get X (C := RX12) (T := TX12) (N := 22) (ci := 11) (v := _) dX12_appendWord_8 (lay_of laym_X12) 0 rfl rfl 10 (by decide) (mw wm_27) rfl rfl 11 rfl ?_
      refine v_aload_n X dX12_appendWord_11 0 rfl rfl 12 rfl ?_
      refine v_get X (C := RX12) (T := TX12) (N := 22) (ci := 11) (v := _) dX12_appendWord_12 (lay_of laym_X12) 0 rfl rfl 11 (by decide) (mw wm_32) rfl rfl 15 rfl ?_
      refine v_iload_n X dX12_appendWord_15 1 rfl rfl 16 rfl ?_
      refine v_iload_n X dX12_appendWord_16 2 rfl rfl 17 rfl ?_
      refine v_ishr X dX12_appendWord_17 18 rfl ?_
      refine v_sipush X dX12_appendWord_18 sp_255 21 rfl ?_
      refine v_iand X dX12_appendWord_21 22 rfl ?_
      obtain ⟨g1, hg1, hf⟩ := bnd hf
      refine v_iast X (ws' := (wX12 ad c9 m_undoable m_undoStart m_thrown m_inputLength m_position m_start m_token m_value m_letters m_code m_place m_outputLength m_s m_parsed m_tried m_remembered m_slots m_kept m_away g1 m_halfway m_output)) dX12_appendWord_22 8 0 rfl rfl hg1 rfl 23 rfl ?_
      refine v_aload_n X dX12_appendWord_23 0 rfl rfl 24 rfl ?_
      refine v_dup X dX12_appendWord_24 rfl 25 rfl ?_
      refine v_get X (C := RX12) (T := TX12) (N := 22) (ci := 11) (v := _) dX12_appendWord_25 (lay_of laym_X12) 0 rfl rfl 11 (by decide) (mw wm_32) rfl rfl 28 rfl ?_
      refine v_iconst X dX12_appendWord_28 ic_1 29 rfl ?_
      refine v_iadd X dX12_appendWord_29 30 rfl ?_
      refine v_put X (C := RX12) (T := TX12) (N := 22) (ci := 11) (ty := tyX12 11) (ws' := (wX12 ad c9 m_undoable m_undoStart m_thrown (m_inputLength + 1) m_position m_start m_token m_value m_letters m_code m_place m_outputLength m_s m_parsed m_tried m_remembered m_slots m_kept m_away g1 m_halfway m_output)) dX12_appendWord_30 (lay_of laym_X12) 0 rfl rfl 11 (by decide) tyX12 tyX12_ok nmX12 (mw wm_32) rfl rfl (tyX12_ok 11 (by decide)) rfl rfl (Nat.le_of_ble_eq_true rfl) rfl 33 rfl ?_
      refine v_iinc X (lv' := [(2, .int (v2 + (-8))), (0, .ref (ad 0)), (1, .int v1)]) dX12_appendWord_33 2 rfl ic_m8 (by decide) rfl 36 rfl ?_
      refine v_goto X (tgt := 3) dX12_appendWord_36 rfl ?_
      refine v_sub (lv' := [(0, .ref (ad 0)), (1, .int v1), (2, .int (v2 + (-8)))]) [1, 2, 0] rfl ?_
      exact ih (m_inputLength + 1) g1 (v2 + (-8)) hf
set_option maxRecDepth 100000 in
set_option maxHeartbeats 4000000 in
theorem c_X12_appendWord (l : Launch) {G : (Nat → Prop) → State → Heap → Prop} (hG : vG G) (D : va_G) (c9 : Nat → ClassId) (ad : Nat → Nat) (m_undoable : Int32) (m_undoStart : Int32) (m_thrown : Int32) (m_inputLength : Int32) (m_position : Int32) (m_start : Int32) (m_token : Int32) (m_value : Int32) (m_letters : Int32) (m_code : Int32) (m_place : Int32) (m_outputLength : Int32) (m_s : Nat → Int32) (m_parsed : Nat → Int32) (m_tried : Nat → Int32) (m_remembered : Nat → Int32) (m_slots : Nat → Int32) (m_kept : Nat → Int32) (m_away : Nat → Int32) (m_input : Nat → Int32) (m_halfway : Nat → Int32) (m_output : Nat → Int32) (v1 : Int32) {o : Int32 × (Nat → Int32)} (hf : f_X12_appendWord m_inputLength m_input v1 = some o) : mV l yX12_appendWord (wq yX12_appendWord cX12_appendWord 3 none) { frames := 0, cells := 0, slots := 0, locals := 0 } G D (tyA c9) [.ref (ad 0), .int v1] (wX12 ad c9 m_undoable m_undoStart m_thrown m_inputLength m_position m_start m_token m_value m_letters m_code m_place m_outputLength m_s m_parsed m_tried m_remembered m_slots m_kept m_away m_input m_halfway m_output) [] 0 0 (wX12 ad c9 m_undoable m_undoStart m_thrown o.1 m_position m_start m_token m_value m_letters m_code m_place m_outputLength m_s m_parsed m_tried m_remembered m_slots m_kept m_away o.2 m_halfway m_output) := by
  refine mV_of hG (cc := cX12_appendWord) (maxL := 3) (by decide) rfl (Nat.le_of_ble_eq_true rfl) ?_
  intro p e s m args below meth c A hnm X
  have X : vX p s m args meth c cX12_appendWord 3 none RX12 (wq yX12_appendWord cX12_appendWord 3 none) D (tyA c9) G A := X
  refine v_eq (lv2 := [(0, .ref (ad 0)), (1, .int v1)]) rfl rfl rfl rfl ?_
  rw [f_X12_appendWord] at hf
  refine v_bipush X dX12_appendWord_0 bp_24 2 rfl ?_
  refine v_istore_n X (lv' := [(2, .int 24), (0, .ref (ad 0)), (1, .int v1)]) dX12_appendWord_2 rfl (by decide) rfl 3 rfl ?_
  obtain ⟨o2, ho2, hf⟩ := bnd hf
  refine v_sub (lv' := [(0, .ref (ad 0)), (1, .int v1), (2, .int 24)]) [1, 2, 0] rfl ?_
  refine l_X12_appendWord_L3 l hG D c9 ad m_undoable m_undoStart m_thrown m_position m_start m_token m_value m_letters m_code m_place m_outputLength m_s m_parsed m_tried m_remembered m_slots m_kept m_away m_halfway m_output v1 X o2 ?_ 5000 m_inputLength m_input 24 ho2
  obtain rfl := Option.some.inj hf
  exact v_vret X (Nat.zero_le _) (Nat.zero_le _) dX12_appendWord_39
theorem pd_X12_appendWord : yX12_appendWord.cls ≠ "java/lang/invoke/MethodHandle" ∧ yX12_appendWord.cls ≠ "java/lang/invoke/VarHandle" ∧ (parseMethodDescriptor yX12_appendWord.desc).map (fun d => d.parameters.length) = some 1 := by decide +kernel
def f_X12_appendInput (m_thrown : Int32) (m_inputLength : Int32) (m_input : Nat → Int32) (v1 : Int32) (v2 : Int32) (v3 : Int32) (v4 : Int32) (v5 : Int32) : Option (Int32 × Int32 × Int32 × (Nat → Int32)) :=
  Option.bind (if (m_inputLength + 20) ≤ 600 then (
    some (0))
  else (
    some (1)) : Option (Int32)) fun j1 =>
  (f_X12_refuses 0 j1 1).bind fun o2 =>
  if o2.1 = 0 then (
    (f_X12_appendWord m_inputLength m_input v1).bind fun o3 =>
    (f_X12_appendWord o3.1 o3.2 v2).bind fun o4 =>
    (f_X12_appendWord o4.1 o4.2 v3).bind fun o5 =>
    (f_X12_appendWord o5.1 o5.2 v4).bind fun o6 =>
    (f_X12_appendWord o6.1 o6.2 v5).bind fun o7 =>
    some (o7.1, o2.2, o7.1, o7.2))
  else (
    some (0, o2.2, m_inputLength, m_input))
set_option maxRecDepth 100000 in
set_option maxHeartbeats 4000000 in
theorem c_X12_appendInput (l : Launch) {G : (Nat → Prop) → State → Heap → Prop} (hG : vG G) (D : va_G) (c9 : Nat → ClassId) (ad : Nat → Nat) (m_undoable : Int32) (m_undoStart : Int32) (m_thrown : Int32) (m_inputLength : Int32) (m_position : Int32) (m_start : Int32) (m_token : Int32) (m_value : Int32) (m_letters : Int32) (m_code : Int32) (m_place : Int32) (m_outputLength : Int32) (m_s : Nat → Int32) (m_parsed : Nat → Int32) (m_tried : Nat → Int32) (m_remembered : Nat → Int32) (m_slots : Nat → Int32) (m_kept : Nat → Int32) (m_away : Nat → Int32) (m_input : Nat → Int32) (m_halfway : Nat → Int32) (m_output : Nat → Int32) (v1 : Int32) (v2 : Int32) (v3 : Int32) (v4 : Int32) (v5 : Int32) {o : Int32 × Int32 × Int32 × (Nat → Int32)} (hf : f_X12_appendInput m_thrown m_inputLength m_input v1 v2 v3 v4 v5 = some o) : mI l yX12_appendInput (wq yX12_appendInput cX12_appendInput 6 (some .int)) { frames := 1, cells := 0, slots := 0, locals := 22 } G D (tyA c9) [.ref (ad 0), .int v1, .int v2, .int v3, .int v4, .int v5] (wX12 ad c9 m_undoable m_undoStart m_thrown m_inputLength m_position m_start m_token m_value m_letters m_code m_place m_outputLength m_s m_parsed m_tried m_remembered m_slots m_kept m_away m_input m_halfway m_output) [] 0 0 o.1 (wX12 ad c9 m_undoable m_undoStart o.2.1 o.2.2.1 m_position m_start m_token m_value m_letters m_code m_place m_outputLength m_s m_parsed m_tried m_remembered m_slots m_kept m_away o.2.2.2 m_halfway m_output) := by
  refine mI_of hG (cc := cX12_appendInput) (maxL := 6) (ty := .int) (by decide) rfl (Nat.le_of_ble_eq_true rfl) ?_
  intro p e s m args below meth c A X
  have X : vX p s m args meth c cX12_appendInput 6 (some .int) RX12 (wq yX12_appendInput cX12_appendInput 6 (some .int)) D (tyA c9) G A := X
  refine v_eq (lv2 := [(0, .ref (ad 0)), (1, .int v1), (2, .int v2), (3, .int v3), (4, .int v4), (5, .int v5)]) rfl rfl rfl rfl ?_
  rw [f_X12_appendInput] at hf
  refine v_aload_n X dX12_appendInput_0 0 rfl rfl 1 rfl ?_
  refine v_iconst X dX12_appendInput_1 ic_0 2 rfl ?_
  refine v_put X (C := RX12) (T := TX12) (N := 22) (ci := 11) (ty := tyX12 8) (ws' := (wX12 ad c9 m_undoable m_undoStart 0 m_inputLength m_position m_start m_token m_value m_letters m_code m_place m_outputLength m_s m_parsed m_tried m_remembered m_slots m_kept m_away m_input m_halfway m_output)) dX12_appendInput_2 (lay_of laym_X12) 0 rfl rfl 8 (by decide) tyX12 tyX12_ok nmX12 (mw wm_33) rfl rfl (tyX12_ok 8 (by decide)) rfl rfl (Nat.le_of_ble_eq_true rfl) rfl 5 rfl ?_
  refine v_aload_n X dX12_appendInput_5 0 rfl rfl 6 rfl ?_
  refine v_aload_n X dX12_appendInput_6 0 rfl rfl 7 rfl ?_
  refine v_get X (C := RX12) (T := TX12) (N := 22) (ci := 11) (v := _) dX12_appendInput_7 (lay_of laym_X12) 0 rfl rfl 11 (by decide) (mw wm_32) rfl rfl 10 rfl ?_
  refine v_bipush X dX12_appendInput_10 bp_20 12 rfl ?_
  refine v_iadd X dX12_appendInput_12 13 rfl ?_
  refine v_sipush X dX12_appendInput_13 sp_600 16 rfl ?_
  obtain ⟨j1, hj1, hf⟩ := bnd hf
  have Jj1 : vW p l e { frames := 1, cells := 0, slots := 0, locals := 22 } s m args below meth c 6 D A [] 0 0 (MQ below (eI D (tyA c9) A o.1 ((wX12 ad c9 m_undoable m_undoStart o.2.1 o.2.2.1 m_position m_start m_token m_value m_letters m_code m_place m_outputLength m_s m_parsed m_tried m_remembered m_slots m_kept m_away o.2.2.2 m_halfway m_output) ++ [])) args s 0 0 A) (wX12 ad c9 m_undoable m_undoStart 0 m_inputLength m_position m_start m_token m_value m_letters m_code m_place m_outputLength m_s m_parsed m_tried m_remembered m_slots m_kept m_away m_input m_halfway m_output) 24 [(0, .ref (ad 0)), (1, .int v1), (2, .int v2), (3, .int v3), (4, .int v4), (5, .int v5)] [.int j1, .ref (ad 0)] := by
    refine v_iconst X dX12_appendInput_24 ic_1 25 rfl ?_
    obtain ⟨o2, ho2, hf⟩ := bnd hf
    refine v_callVi X (ci := 11) (T := TX12) (C := RX12) (As := [.int j1, .int 1]) (rest := []) (ws' := (wX12 ad c9 m_undoable m_undoStart o2.2 m_inputLength m_position m_start m_token m_value m_letters m_code m_place m_outputLength m_s m_parsed m_tried m_remembered m_slots m_kept m_away m_input m_halfway m_output)) (c_X12_refuses l hG D c9 ad m_undoable m_undoStart 0 m_inputLength m_position m_start m_token m_value m_letters m_code m_place m_outputLength m_s m_parsed m_tried m_remembered m_slots m_kept m_away m_input m_halfway m_output j1 1 ho2) 2 (gV wm_103 wm_104 wm_105 wm_37 wm_106) rfl rfl rfl ⟨rfl, pd_X12_refuses⟩ ⟨Nat.le_of_ble_eq_true rfl, Nat.le_of_ble_eq_true rfl⟩ 0 rfl rfl rfl rfl (Nat.le_of_ble_eq_true rfl) ⟨Nat.zero_le _, Nat.zero_le _⟩ [0, 1, 2, 3, 4, 5, 6, 7, 8, 9, 10] [] [0, 1, 2, 3, 4, 5, 6, 7, 8, 9, 10] rfl rfl rfl rfl dX12_appendInput_25 28 rfl ?_
    refine v_if_eq X (tgt := 33) dX12_appendInput_28 rfl 31 rfl hf (fun hf => ?_) (fun hf => ?_)
    · refine v_aload_n X dX12_appendInput_33 0 rfl rfl 34 rfl ?_
      refine v_iload_n X dX12_appendInput_34 1 rfl rfl 35 rfl ?_
      obtain ⟨o3, ho3, hf⟩ := bnd hf
      refine v_callVv X (ci := 11) (T := TX12) (C := RX12) (As := [.int v1]) (rest := []) (ws' := (wX12 ad c9 m_undoable m_undoStart o2.2 o3.1 m_position m_start m_token m_value m_letters m_code m_place m_outputLength m_s m_parsed m_tried m_remembered m_slots m_kept m_away o3.2 m_halfway m_output)) (c_X12_appendWord l hG D c9 ad m_undoable m_undoStart o2.2 m_inputLength m_position m_start m_token m_value m_letters m_code m_place m_outputLength m_s m_parsed m_tried m_remembered m_slots m_kept m_away m_input m_halfway m_output v1 ho3) 1 (gV wm_107 wm_108 wm_109 wm_37 wm_110) rfl rfl rfl ⟨rfl, pd_X12_appendWord⟩ ⟨Nat.le_of_ble_eq_true rfl, Nat.le_of_ble_eq_true rfl⟩ 0 rfl rfl rfl rfl (Nat.le_of_ble_eq_true rfl) ⟨Nat.zero_le _, Nat.zero_le _⟩ [0, 1, 2, 3, 4, 5, 6, 7, 8, 9, 10] [] [0, 1, 2, 3, 4, 5, 6, 7, 8, 9, 10] rfl rfl rfl rfl dX12_appendInput_35 38 rfl ?_
      refine v_aload_n X dX12_appendInput_38 0 rfl rfl 39 rfl ?_
      refine v_iload_n X dX12_appendInput_39 2 rfl rfl 40 rfl ?_
      obtain ⟨o4, ho4, hf⟩ := bnd hf
      refine v_callVv X (ci := 11) (T := TX12) (C := RX12) (As := [.int v2]) (rest := []) (ws' := (wX12 ad c9 m_undoable m_undoStart o2.2 o4.1 m_position m_start m_token m_value m_letters m_code m_place m_outputLength m_s m_parsed m_tried m_remembered m_slots m_kept m_away o4.2 m_halfway m_output)) (c_X12_appendWord l hG D c9 ad m_undoable m_undoStart o2.2 o3.1 m_position m_start m_token m_value m_letters m_code m_place m_outputLength m_s m_parsed m_tried m_remembered m_slots m_kept m_away o3.2 m_halfway m_output v2 ho4) 1 (gV wm_107 wm_108 wm_109 wm_37 wm_110) rfl rfl rfl ⟨rfl, pd_X12_appendWord⟩ ⟨Nat.le_of_ble_eq_true rfl, Nat.le_of_ble_eq_true rfl⟩ 0 rfl rfl rfl rfl (Nat.le_of_ble_eq_true rfl) ⟨Nat.zero_le _, Nat.zero_le _⟩ [0, 1, 2, 3, 4, 5, 6, 7, 8, 9, 10] [] [0, 1, 2, 3, 4, 5, 6, 7, 8, 9, 10] rfl rfl rfl rfl dX12_appendInput_40 43 rfl ?_
      refine v_aload_n X dX12_appendInput_43 0 rfl rfl 44 rfl ?_
      refine v_iload_n X dX12_appendInput_44 3 rfl rfl 45 rfl ?_
      obtain ⟨o5, ho5, hf⟩ := bnd hf
      refine v_callVv X (ci := 11) (T := TX12) (C := RX12) (As := [.int v3]) (rest := []) (ws' := (wX12 ad c9 m_undoable m_undoStart o2.2 o5.1 m_position m_start m_token m_value m_letters m_code m_place m_outputLength m_s m_parsed m_tried m_remembered m_slots m_kept m_away o5.2 m_halfway m_output)) (c_X12_appendWord l hG D c9 ad m_undoable m_undoStart o2.2 o4.1 m_position m_start m_token m_value m_letters m_code m_place m_outputLength m_s m_parsed m_tried m_remembered m_slots m_kept m_away o4.2 m_halfway m_output v3 ho5) 1 (gV wm_107 wm_108 wm_109 wm_37 wm_110) rfl rfl rfl ⟨rfl, pd_X12_appendWord⟩ ⟨Nat.le_of_ble_eq_true rfl, Nat.le_of_ble_eq_true rfl⟩ 0 rfl rfl rfl rfl (Nat.le_of_ble_eq_true rfl) ⟨Nat.zero_le _, Nat.zero_le _⟩ [0, 1, 2, 3, 4, 5, 6, 7, 8, 9, 10] [] [0, 1, 2, 3, 4, 5, 6, 7, 8, 9, 10] rfl rfl rfl rfl dX12_appendInput_45 48 rfl ?_
      refine v_aload_n X dX12_appendInput_48 0 rfl rfl 49 rfl ?_
      refine v_iload X dX12_appendInput_49 4 rfl 51 rfl ?_
      obtain ⟨o6, ho6, hf⟩ := bnd hf
      refine v_callVv X (ci := 11) (T := TX12) (C := RX12) (As := [.int v4]) (rest := []) (ws' := (wX12 ad c9 m_undoable m_undoStart o2.2 o6.1 m_position m_start m_token m_value m_letters m_code m_place m_outputLength m_s m_parsed m_tried m_remembered m_slots m_kept m_away o6.2 m_halfway m_output)) (c_X12_appendWord l hG D c9 ad m_undoable m_undoStart o2.2 o5.1 m_position m_start m_token m_value m_letters m_code m_place m_outputLength m_s m_parsed m_tried m_remembered m_slots m_kept m_away o5.2 m_halfway m_output v4 ho6) 1 (gV wm_107 wm_108 wm_109 wm_37 wm_110) rfl rfl rfl ⟨rfl, pd_X12_appendWord⟩ ⟨Nat.le_of_ble_eq_true rfl, Nat.le_of_ble_eq_true rfl⟩ 0 rfl rfl rfl rfl (Nat.le_of_ble_eq_true rfl) ⟨Nat.zero_le _, Nat.zero_le _⟩ [0, 1, 2, 3, 4, 5, 6, 7, 8, 9, 10] [] [0, 1, 2, 3, 4, 5, 6, 7, 8, 9, 10] rfl rfl rfl rfl dX12_appendInput_51 54 rfl ?_
      refine v_aload_n X dX12_appendInput_54 0 rfl rfl 55 rfl ?_
      refine v_iload X dX12_appendInput_55 5 rfl 57 rfl ?_
      obtain ⟨o7, ho7, hf⟩ := bnd hf
      refine v_callVv X (ci := 11) (T := TX12) (C := RX12) (As := [.int v5]) (rest := []) (ws' := (wX12 ad c9 m_undoable m_undoStart o2.2 o7.1 m_position m_start m_token m_value m_letters m_code m_place m_outputLength m_s m_parsed m_tried m_remembered m_slots m_kept m_away o7.2 m_halfway m_output)) (c_X12_appendWord l hG D c9 ad m_undoable m_undoStart o2.2 o6.1 m_position m_start m_token m_value m_letters m_code m_place m_outputLength m_s m_parsed m_tried m_remembered m_slots m_kept m_away o6.2 m_halfway m_output v5 ho7) 1 (gV wm_107 wm_108 wm_109 wm_37 wm_110) rfl rfl rfl ⟨rfl, pd_X12_appendWord⟩ ⟨Nat.le_of_ble_eq_true rfl, Nat.le_of_ble_eq_true rfl⟩ 0 rfl rfl rfl rfl (Nat.le_of_ble_eq_true rfl) ⟨Nat.zero_le _, Nat.zero_le _⟩ [0, 1, 2, 3, 4, 5, 6, 7, 8, 9, 10] [] [0, 1, 2, 3, 4, 5, 6, 7, 8, 9, 10] rfl rfl rfl rfl dX12_appendInput_57 60 rfl ?_
      refine v_aload_n X dX12_appendInput_60 0 rfl rfl 61 rfl ?_
      refine v_get X (C := RX12) (T := TX12) (N := 22) (ci := 11) (v := _) dX12_appendInput_61 (lay_of laym_X12) 0 rfl rfl 11 (by decide) (mw wm_32) rfl rfl 64 rfl ?_
      obtain rfl := Option.some.inj hf
      exact v_iret X (Nat.zero_le _) (Nat.zero_le _) dX12_appendInput_64
    · refine v_iconst X dX12_appendInput_31 ic_0 32 rfl ?_
      obtain rfl := Option.some.inj hf
      exact v_iret X (Nat.zero_le _) (Nat.zero_le _) dX12_appendInput_32
  clear hf
  refine v_icmp_le X (tgt := 23) dX12_appendInput_16 rfl 19 rfl hj1 (fun hf => ?_) (fun hf => ?_)
  · refine v_iconst X dX12_appendInput_23 ic_0 24 rfl ?_
    obtain rfl := Option.some.inj hf
    exact Jj1
  · refine v_iconst X dX12_appendInput_19 ic_1 20 rfl ?_
    refine v_goto X (tgt := 24) dX12_appendInput_20 rfl ?_
    obtain rfl := Option.some.inj hf
    exact Jj1
theorem pd_X12_appendInput : yX12_appendInput.cls ≠ "java/lang/invoke/MethodHandle" ∧ yX12_appendInput.cls ≠ "java/lang/invoke/VarHandle" ∧ (parseMethodDescriptor yX12_appendInput.desc).map (fun d => d.parameters.length) = some 5 := by decide +kernel
