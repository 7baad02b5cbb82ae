def f_X12_realmNamed_L2 (ga : Nat → Int32) (v1 : Int32) : Nat → Int32 → Option (Int32)
  | 0, _ => none
  | n + 1, v2 =>
    (rd ga 463 3).bind fun x1 =>
    if x1 ≤ v2 then (
      some ((-1)))
    else (
      (f_X12_ofRealm v2).bind fun o2 =>
      (rd ga 463 (o2 + 0)).bind fun x3 =>
      if x3 = v1 then (
        some (v2))
      else (
        f_X12_realmNamed_L2 ga v1 n  (v2 + 1)))
def f_X12_realmNamed (ga : Nat → Int32) (v1 : Int32) : Option (Int32) :=
  f_X12_realmNamed_L2 ga v1 5000 0
set_option maxRecDepth 100000 in
set_option maxHeartbeats 4000000 in
theorem l_X12_realmNamed_L2 (l : Launch) {G : (Nat → Prop) → State → Heap → Prop} (hG : vG G) (D : va_G) (c9 : Nat → ClassId) (a_ga : Nat) (ga : Nat → Int32) (v1 : Int32) {p : Program} {e : Env} {s : State} {m : MethodId} {args : Array Value} {below : List Frame} {meth : Method} {c : Code} {A : Nat → Prop} {F : va_W} (X : vX p s m args meth c cX12_realmNamed 3 (some .int) RX12 (wq yX12_realmNamed cX12_realmNamed 3 (some .int)) D (tyA c9) G A) (o : Int32) :
    ∀ (n : Nat) (v2 : Int32), f_X12_realmNamed_L2 ga v1 n v2 = some o → vW p l e { frames := 1, cells := 0, slots := 0, locals := 20 } s m args below meth c 3 D A F 0 0 (MQ below (eI D (tyA c9) A o (([(a_ga, .inl (c9 0, 463, .inl ga))]) ++ F)) args s 0 0 A) ([(a_ga, .inl (c9 0, 463, .inl ga))]) 2 [(0, .ref a_ga), (1, .int v1), (2, .int v2)] [] := by
  intro n
  induction n with
  | zero =>
    intro v2 hf
    rw [f_X12_realmNamed_L2] at hf
    cases hf
  | succ n ih =>
    intro v2 hf
    rw [f_X12_realmNamed_L2] at hf
    refine v_iload_n X dX12_realmNamed_2 2 rfl rfl 3 rfl ?_
    refine v_aload_n X dX12_realmNamed_3 0 rfl rfl 4 rfl ?_
    refine v_iconst X dX12_realmNamed_4 ic_3 5 rfl ?_
    obtain ⟨x1, hx1, hf⟩ := bnd hf
    refine v_iald X dX12_realmNamed_5 0 0 rfl rfl hx1 6 rfl ?_
    refine v_icmp_ge X (tgt := 29) dX12_realmNamed_6 rfl 9 rfl hf (fun hf => ?_) (fun hf => ?_)
    · refine v_iconst X dX12_realmNamed_29 ic_m1 30 rfl ?_
      obtain rfl := Option.some.inj hf
      exact v_iret X (Nat.zero_le _) (Nat.zero_le _) dX12_realmNamed_30
    · refine v_aload_n X dX12_realmNamed_9 0 rfl rfl 10 rfl ?_
      refine v_iload_n X dX12_realmNamed_10 2 rfl rfl 11 rfl ?_
      obtain ⟨o2, ho2, hf⟩ := bnd hf
      refine v_callSi X (As := [.int v2]) (rest := [.ref a_ga]) (ws' := ([(a_ga, .inl (c9 0, 463, .inl ga))])) (c_X12_ofRealm l hG D c9 v2 ho2) 1 (gS wm_49 wm_50 wm_37 wm_51) rfl rfl rfl pd_X12_ofRealm ⟨Nat.le_of_ble_eq_true rfl, Nat.le_of_ble_eq_true rfl⟩ rfl rfl (Nat.le_of_ble_eq_true rfl) ⟨Nat.zero_le _, Nat.zero_le _⟩ [] [0] [0] rfl rfl rfl rfl dX12_realmNamed_11 14 rfl ?_
      refine v_iconst X dX12_realmNamed_14 ic_0 15 rfl ?_
      refine v_iadd X dX12_realmNamed_15 16 rfl ?_
      obtain ⟨x3, hx3, hf⟩ := bnd hf
      refine v_iald X dX12_realmNamed_16 0 0 rfl rfl hx3 17 rfl ?_
      refine v_iload_n X dX12_realmNamed_17 1 rfl rfl 18 rfl ?_
      refine v_icmp_ne X (tgt := 23) dX12_realmNamed_18 rfl 21 rfl hf (fun hf => ?_) (fun hf => ?_)
      · refine v_iinc X (lv' := [(2, .int (v2 + 1)), (0, .ref a_ga), (1, .int v1)]) dX12_realmNamed_23 2 rfl ic_1 (by decide) rfl 26 rfl ?_
        refine v_goto X (tgt := 2) dX12_realmNamed_26 rfl ?_
        refine v_sub (lv' := [(0, .ref a_ga), (1, .int v1), (2, .int (v2 + 1))]) [1, 2, 0] rfl ?_
        exact ih (v2 + 1) hf
      · refine v_iload_n X dX12_realmNamed_21 2 rfl rfl 22 rfl ?_
        obtain rfl := Option.some.inj hf
        exact v_iret X (Nat.zero_le _) (Nat.zero_le _) dX12_realmNamed_22
set_option maxRecDepth 100000 in
set_option maxHeartbeats 4000000 in
theorem c_X12_realmNamed (l : Launch) {G : (Nat → Prop) → State → Heap → Prop} (hG : vG G) (D : va_G) (c9 : Nat → ClassId) (a_ga : Nat) (ga : Nat → Int32) (v1 : Int32) {o : Int32} (hf : f_X12_realmNamed ga v1 = some o) : mI l yX12_realmNamed (wq yX12_realmNamed cX12_realmNamed 3 (some .int)) { frames := 1, cells := 0, slots := 0, locals := 20 } G D (tyA c9) [.ref a_ga, .int v1] ([(a_ga, .inl (c9 0, 463, .inl ga))]) [] 0 0 o ([(a_ga, .inl (c9 0, 463, .inl ga))]) := by
  refine mI_of hG (cc := cX12_realmNamed) (maxL := 3) (ty := .int) (by decide) rfl (Nat.le_of_ble_eq_true rfl) ?_
  intro p e s m args below meth c A X
  have X : vX p s m args meth c cX12_realmNamed 3 (some .int) RX12 (wq yX12_realmNamed cX12_realmNamed 3 (some .int)) D (tyA c9) G A := X
  refine v_eq (lv2 := [(0, .ref a_ga), (1, .int v1)]) rfl rfl rfl rfl ?_
  rw [f_X12_realmNamed] at hf
  refine v_iconst X dX12_realmNamed_0 ic_0 1 rfl ?_
  refine v_istore_n X (lv' := [(2, .int 0), (0, .ref a_ga), (1, .int v1)]) dX12_realmNamed_1 rfl (by decide) rfl 2 rfl ?_
  refine v_sub (lv' := [(0, .ref a_ga), (1, .int v1), (2, .int 0)]) [1, 2, 0] rfl ?_
  exact l_X12_realmNamed_L2 l hG D c9 a_ga ga v1 X _ 5000 0 hf
theorem pd_X12_realmNamed : yX12_realmNamed.cls ≠ "java/lang/invoke/MethodHandle" ∧ yX12_realmNamed.cls ≠ "java/lang/invoke/VarHandle" ∧ (parseMethodDescriptor yX12_realmNamed.desc).map (fun d => d.parameters.length) = some 2 := by decide +kernel
def f_X12_userNamed_L2 (ga : Nat → Int32) (v1 : Int32) : Nat → Int32 → Option (Int32)
  | 0, _ => none
  | n + 1, v2 =>
    (rd ga 463 4).bind fun x1 =>
    if x1 ≤ v2 then (
      some ((-1)))
    else (
      (f_X12_ofUser v2).bind fun o2 =>
      (rd ga 463 (o2 + 0)).bind fun x3 =>
      if x3 = v1 then (
        some (v2))
      else (
        f_X12_userNamed_L2 ga v1 n  (v2 + 1)))
def f_X12_userNamed (ga : Nat → Int32) (v1 : Int32) : Option (Int32) :=
  f_X12_userNamed_L2 ga v1 5000 0
set_option maxRecDepth 100000 in
set_option maxHeartbeats 4000000 in
theorem l_X12_userNamed_L2 (l : Launch) {G : (Nat → Prop) → State → Heap → Prop} (hG : vG G) (D : va_G) (c9 : Nat → ClassId) (a_ga : Nat) (ga : Nat → Int32) (v1 : Int32) {p : Program} {e : Env} {s : State} {m : MethodId} {args : Array Value} {below : List Frame} {meth : Method} {c : Code} {A : Nat → Prop} {F : va_W} (X : vX p s m args meth c cX12_userNamed 3 (some .int) RX12 (wq yX12_userNamed cX12_userNamed 3 (some .int)) D (tyA c9) G A) (o : Int32) :
    ∀ (n : Nat) (v2 : Int32), f_X12_userNamed_L2 ga v1 n v2 = some o → vW p l e { frames := 1, cells := 0, slots := 0, locals := 20 } s m args below meth c 3 D A F 0 0 (MQ below (eI D (tyA c9) A o (([(a_ga, .inl (c9 0, 463, .inl ga))]) ++ F)) args s 0 0 A) ([(a_ga, .inl (c9 0, 463, .inl ga))]) 2 [(0, .ref a_ga), (1, .int v1), (2, .int v2)] [] := by
  intro n
  induction n with
  | zero =>
    intro v2 hf
    rw [f_X12_userNamed_L2] at hf
    cases hf
  | succ n ih =>
    intro v2 hf
    rw [f_X12_userNamed_L2] at hf
    refine v_iload_n X dX12_userNamed_2 2 rfl rfl 3 rfl ?_
    refine v_aload_n X dX12_userNamed_3 0 rfl rfl 4 rfl ?_
    refine v_iconst X dX12_userNamed_4 ic_4 5 rfl ?_
    obtain ⟨x1, hx1, hf⟩ := bnd hf
    refine v_iald X dX12_userNamed_5 0 0 rfl rfl hx1 6 rfl ?_
    refine v_icmp_ge X (tgt := 29) dX12_userNamed_6 rfl 9 rfl hf (fun hf => ?_) (fun hf => ?_)
    · refine v_iconst X dX12_userNamed_29 ic_m1 30 rfl ?_
      obtain rfl := Option.some.inj hf
      exact v_iret X (Nat.zero_le _) (Nat.zero_le _) dX12_userNamed_30
    · refine v_aload_n X dX12_userNamed_9 0 rfl rfl 10 rfl ?_
      refine v_iload_n X dX12_userNamed_10 2 rfl rfl 11 rfl ?_
      obtain ⟨o2, ho2, hf⟩ := bnd hf
      refine v_callSi X (As := [.int v2]) (rest := [.ref a_ga]) (ws' := ([(a_ga, .inl (c9 0, 463, .inl ga))])) (c_X12_ofUser l hG D c9 v2 ho2) 1 (gS wm_46 wm_47 wm_37 wm_48) rfl rfl rfl pd_X12_ofUser ⟨Nat.le_of_ble_eq_true rfl, Nat.le_of_ble_eq_true rfl⟩ rfl rfl (Nat.le_of_ble_eq_true rfl) ⟨Nat.zero_le _, Nat.zero_le _⟩ [] [0] [0] rfl rfl rfl rfl dX12_userNamed_11 14 rfl ?_
      refine v_iconst X dX12_userNamed_14 ic_0 15 rfl ?_
      refine v_iadd X dX12_userNamed_15 16 rfl ?_
      obtain ⟨x3, hx3, hf⟩ := bnd hf
      refine v_iald X dX12_userNamed_16 0 0 rfl rfl hx3 17 rfl ?_
      refine v_iload_n X dX12_userNamed_17 1 rfl rfl 18 rfl ?_
      refine v_icmp_ne X (tgt := 23) dX12_userNamed_18 rfl 21 rfl hf (fun hf => ?_) (fun hf => ?_)
      · refine v_iinc X (lv' := [(2, .int (v2 + 1)), (0, .ref a_ga), (1, .int v1)]) dX12_userNamed_23 2 rfl ic_1 (by decide) rfl 26 rfl ?_
        refine v_goto X (tgt := 2) dX12_userNamed_26 rfl ?_
        refine v_sub (lv' := [(0, .ref a_ga), (1, .int v1), (2, .int (v2 + 1))]) [1, 2, 0] rfl ?_
        exact ih (v2 + 1) hf
      · refine v_iload_n X dX12_userNamed_21 2 rfl rfl 22 rfl ?_
        obtain rfl := Option.some.inj hf
        exact v_iret X (Nat.zero_le _) (Nat.zero_le _) dX12_userNamed_22
set_option maxRecDepth 100000 in
set_option maxHeartbeats 4000000 in
theorem c_X12_userNamed (l : Launch) {G : (Nat → Prop) → State → Heap → Prop} (hG : vG G) (D : va_G) (c9 : Nat → ClassId) (a_ga : Nat) (ga : Nat → Int32) (v1 : Int32) {o : Int32} (hf : f_X12_userNamed ga v1 = some o) : mI l yX12_userNamed (wq yX12_userNamed cX12_userNamed 3 (some .int)) { frames := 1, cells := 0, slots := 0, locals := 20 } G D (tyA c9) [.ref a_ga, .int v1] ([(a_ga, .inl (c9 0, 463, .inl ga))]) [] 0 0 o ([(a_ga, .inl (c9 0, 463, .inl ga))]) := by
  refine mI_of hG (cc := cX12_userNamed) (maxL := 3) (ty := .int) (by decide) rfl (Nat.le_of_ble_eq_true rfl) ?_
  intro p e s m args below meth c A X
  have X : vX p s m args meth c cX12_userNamed 3 (some .int) RX12 (wq yX12_userNamed cX12_userNamed 3 (some .int)) D (tyA c9) G A := X
  refine v_eq (lv2 := [(0, .ref a_ga), (1, .int v1)]) rfl rfl rfl rfl ?_
  rw [f_X12_userNamed] at hf
  refine v_iconst X dX12_userNamed_0 ic_0 1 rfl ?_
  refine v_istore_n X (lv' := [(2, .int 0), (0, .ref a_ga), (1, .int v1)]) dX12_userNamed_1 rfl (by decide) rfl 2 rfl ?_
  refine v_sub (lv' := [(0, .ref a_ga), (1, .int v1), (2, .int 0)]) [1, 2, 0] rfl ?_
  exact l_X12_userNamed_L2 l hG D c9 a_ga ga v1 X _ 5000 0 hf
theorem pd_X12_userNamed : yX12_userNamed.cls ≠ "java/lang/invoke/MethodHandle" ∧ yX12_userNamed.cls ≠ "java/lang/invoke/VarHandle" ∧ (parseMethodDescriptor yX12_userNamed.desc).map (fun d => d.parameters.length) = some 2 := by decide +kernel
def f_X12_serviceNamed_L2 (ga : Nat → Int32) (v1 : Int32) : Nat → Int32 → Option (Int32)
  | 0, _ => none
  | n + 1, v2 =>
    (rd ga 463 5).bind fun x1 =>
    if x1 ≤ v2 then (
      some ((-1)))
    else (
      (f_X12_ofService v2).bind fun o2 =>
      (rd ga 463 (o2 + 0)).bind fun x3 =>
      if x3 = v1 then (
        some (v2))
      else (
        f_X12_serviceNamed_L2 ga v1 n  (v2 + 1)))
def f_X12_serviceNamed (ga : Nat → Int32) (v1 : Int32) : Option (Int32) :=
  f_X12_serviceNamed_L2 ga v1 5000 0
set_option maxRecDepth 100000 in
set_option maxHeartbeats 4000000 in
theorem l_X12_serviceNamed_L2 (l : Launch) {G : (Nat → Prop) → State → Heap → Prop} (hG : vG G) (D : va_G) (c9 : Nat → ClassId) (a_ga : Nat) (ga : Nat → Int32) (v1 : Int32) {p : Program} {e : Env} {s : State} {m : MethodId} {args : Array Value} {below : List Frame} {meth : Method} {c : Code} {A : Nat → Prop} {F : va_W} (X : vX p s m args meth c cX12_serviceNamed 3 (some .int) RX12 (wq yX12_serviceNamed cX12_serviceNamed 3 (some .int)) D (tyA c9) G A) (o : Int32) :
    ∀ (n : Nat) (v2 : Int32), f_X12_serviceNamed_L2 ga v1 n v2 = some o → vW p l e { frames := 1, cells := 0, slots := 0, locals := 20 } s m args below meth c 3 D A F 0 0 (MQ below (eI D (tyA c9) A o (([(a_ga, .inl (c9 0, 463, .inl ga))]) ++ F)) args s 0 0 A) ([(a_ga, .inl (c9 0, 463, .inl ga))]) 2 [(0, .ref a_ga), (1, .int v1), (2, .int v2)] [] := by
  intro n
  induction n with
  | zero =>
    intro v2 hf
    rw [f_X12_serviceNamed_L2] at hf
    cases hf
  | succ n ih =>
    intro v2 hf
    rw [f_X12_serviceNamed_L2] at hf
    refine v_iload_n X dX12_serviceNamed_2 2 rfl rfl 3 rfl ?_
    refine v_aload_n X dX12_serviceNamed_3 0 rfl rfl 4 rfl ?_
    refine v_iconst X dX12_serviceNamed_4 ic_5 5 rfl ?_
    obtain ⟨x1, hx1, hf⟩ := bnd hf
    refine v_iald X dX12_serviceNamed_5 0 0 rfl rfl hx1 6 rfl ?_
    refine v_icmp_ge X (tgt := 29) dX12_serviceNamed_6 rfl 9 rfl hf (fun hf => ?_) (fun hf => ?_)
    · refine v_iconst X dX12_serviceNamed_29 ic_m1 30 rfl ?_
      obtain rfl := Option.some.inj hf
      exact v_iret X (Nat.zero_le _) (Nat.zero_le _) dX12_serviceNamed_30
    · refine v_aload_n X dX12_serviceNamed_9 0 rfl rfl 10 rfl ?_
      refine v_iload_n X dX12_serviceNamed_10 2 rfl rfl 11 rfl ?_
      obtain ⟨o2, ho2, hf⟩ := bnd hf
      refine v_callSi X (As := [.int v2]) (rest := [.ref a_ga]) (ws' := ([(a_ga, .inl (c9 0, 463, .inl ga))])) (c_X12_ofService l hG D c9 v2 ho2) 1 (gS wm_76 wm_77 wm_37 wm_78) rfl rfl rfl pd_X12_ofService ⟨Nat.le_of_ble_eq_true rfl, Nat.le_of_ble_eq_true rfl⟩ rfl rfl (Nat.le_of_ble_eq_true rfl) ⟨Nat.zero_le _, Nat.zero_le _⟩ [] [0] [0] rfl rfl rfl rfl dX12_serviceNamed_11 14 rfl ?_
      refine v_iconst X dX12_serviceNamed_14 ic_0 15 rfl ?_
      refine v_iadd X dX12_serviceNamed_15 16 rfl ?_
      obtain ⟨x3, hx3, hf⟩ := bnd hf
      refine v_iald X dX12_serviceNamed_16 0 0 rfl rfl hx3 17 rfl ?_
      refine v_iload_n X dX12_serviceNamed_17 1 rfl rfl 18 rfl ?_
      refine v_icmp_ne X (tgt := 23) dX12_serviceNamed_18 rfl 21 rfl hf (fun hf => ?_) (fun hf => ?_)
      · refine v_iinc X (lv' := [(2, .int (v2 + 1)), (0, .ref a_ga), (1, .int v1)]) dX12_serviceNamed_23 2 rfl ic_1 (by decide) rfl 26 rfl ?_
        refine v_goto X (tgt := 2) dX12_serviceNamed_26 rfl ?_
        refine v_sub (lv' := [(0, .ref a_ga), (1, .int v1), (2, .int (v2 + 1))]) [1, 2, 0] rfl ?_
        exact ih (v2 + 1) hf
      · refine v_iload_n X dX12_serviceNamed_21 2 rfl rfl 22 rfl ?_
        obtain rfl := Option.some.inj hf
        exact v_iret X (Nat.zero_le _) (Nat.zero_le _) dX12_serviceNamed_22
set_option maxRecDepth 100000 in
set_option maxHeartbeats 4000000 in
theorem c_X12_serviceNamed (l : Launch) {G : (Nat → Prop) → State → Heap → Prop} (hG : vG G) (D : va_G) (c9 : Nat → ClassId) (a_ga : Nat) (ga : Nat → Int32) (v1 : Int32) {o : Int32} (hf : f_X12_serviceNamed ga v1 = some o) : mI l yX12_serviceNamed (wq yX12_serviceNamed cX12_serviceNamed 3 (some .int)) { frames := 1, cells := 0, slots := 0, locals := 20 } G D (tyA c9) [.ref a_ga, .int v1] ([(a_ga, .inl (c9 0, 463, .inl ga))]) [] 0 0 o ([(a_ga, .inl (c9 0, 463, .inl ga))]) := by
  refine mI_of hG (cc := cX12_serviceNamed) (maxL := 3) (ty := .int) (by decide) rfl (Nat.le_of_ble_eq_true rfl) ?_
  intro p e s m args below meth c A X
  have X : vX p s m args meth c cX12_serviceNamed 3 (some .int) RX12 (wq yX12_serviceNamed cX12_serviceNamed 3 (some .int)) D (tyA c9) G A := X
  refine v_eq (lv2 := [(0, .ref a_ga), (1, .int v1)]) rfl rfl rfl rfl ?_
  rw [f_X12_serviceNamed] at hf
  refine v_iconst X dX12_serviceNamed_0 ic_0 1 rfl ?_
  refine v_istore_n X (lv' := [(2, .int 0), (0, .ref a_ga), (1, .int v1)]) dX12_serviceNamed_1 rfl (by decide) rfl 2 rfl ?_
  refine v_sub (lv' := [(0, .ref a_ga), (1, .int v1), (2, .int 0)]) [1, 2, 0] rfl ?_
  exact l_X12_serviceNamed_L2 l hG D c9 a_ga ga v1 X _ 5000 0 hf
theorem pd_X12_serviceNamed : yX12_serviceNamed.cls ≠ "java/lang/invoke/MethodHandle" ∧ yX12_serviceNamed.cls ≠ "java/lang/invoke/VarHandle" ∧ (parseMethodDescriptor yX12_serviceNamed.desc).map (fun d => d.parameters.length) = some 2 := by decide +kernel
def f_X12_named (ga : Nat → Int32) (v1 : Int32) : Option (Int32) :=
  (f_X12_realmNamed ga v1).bind fun o1 =>
  if o1 = (-1) then (
    (f_X12_userNamed ga v1).bind fun o2 =>
    if o2 = (-1) then (
      (f_X12_serviceNamed ga v1).bind fun o3 =>
      if o3 = (-1) then (
        some ((-1)))
      else (
        some ((200 + o3))))
    else (
      some ((100 + o2))))
  else (
    some (o1))
set_option maxRecDepth 100000 in
set_option maxHeartbeats 4000000 in
theorem c_X12_named (l : Launch) {G : (Nat → Prop) → State → Heap → Prop} (hG : vG G) (D : va_G) (c9 : Nat → ClassId) (a_ga : Nat) (ga : Nat → Int32) (v1 : Int32) {o : Int32} (hf : f_X12_named ga v1 = some o) : mI l yX12_named (wq yX12_named cX12_named 5 (some .int)) { frames := 2, cells := 0, slots := 0, locals := 42 } G D (tyA c9) [.ref a_ga, .int v1] ([(a_ga, .inl (c9 0, 463, .inl ga))]) [] 0 0 o ([(a_ga, .inl (c9 0, 463, .inl ga))]) := by
  refine mI_of hG (cc := cX12_named) (maxL := 5) (ty := .int) (by decide) rfl (Nat.le_of_ble_eq_true rfl) ?_
  intro p e s m args below meth c A X
  have X : vX p s m args meth c cX12_named 5 (some .int) RX12 (wq yX12_named cX12_named 5 (some .int)) D (tyA c9) G A := X
  refine v_eq (lv2 := [(0, .ref a_ga), (1, .int v1)]) rfl rfl rfl rfl ?_
  rw [f_X12_named] at hf
  refine v_aload_n X dX12_named_0 0 rfl rfl 1 rfl ?_
  refine v_iload_n X dX12_named_1 1 rfl rfl 2 rfl ?_
  obtain ⟨o1, ho1, hf⟩ := bnd hf
  refine v_callSi X (As := [.ref a_ga, .int v1]) (rest := []) (ws' := ([(a_ga, .inl (c9 0, 463, .inl ga))])) (c_X12_realmNamed l hG D c9 a_ga ga v1 ho1) 2 (gS wm_149 wm_150 wm_37 wm_151) rfl rfl rfl pd_X12_realmNamed ⟨Nat.le_of_ble_eq_true rfl, Nat.le_of_ble_eq_true rfl⟩ rfl rfl (Nat.le_of_ble_eq_true rfl) ⟨Nat.zero_le _, Nat.zero_le _⟩ [0] [] [0] rfl rfl rfl rfl dX12_named_2 5 rfl ?_
  refine v_istore_n X (lv' := [(2, .int o1), (0, .ref a_ga), (1, .int v1)]) dX12_named_5 rfl (by decide) rfl 6 rfl ?_
  refine v_iload_n X dX12_named_6 0 rfl rfl 7 rfl ?_
  refine v_iconst X dX12_named_7 ic_m1 8 rfl ?_
  refine v_icmp_eq X (tgt := 13) dX12_named_8 rfl 11 rfl hf (fun hf => ?_) (fun hf => ?_)
  · refine v_aload_n X dX12_named_13 1 rfl rfl 14 rfl ?_
    refine v_iload_n X dX12_named_14 2 rfl rfl 15 rfl ?_
    obtain ⟨o2, ho2, hf⟩ := bnd hf
    refine v_callSi X (As := [.ref a_ga, .int v1]) (rest := []) (ws' := ([(a_ga, .inl (c9 0, 463, .inl ga))])) (c_X12_userNamed l hG D c9 a_ga ga v1 ho2) 2 (gS wm_152 wm_153 wm_37 wm_154) rfl rfl rfl pd_X12_userNamed ⟨Nat.le_of_ble_eq_true rfl, Nat.le_of_ble_eq_true rfl⟩ rfl rfl (Nat.le_of_ble_eq_true rfl) ⟨Nat.zero_le _, Nat.zero_le _⟩ [0] [] [0] rfl rfl rfl rfl dX12_named_15 18 rfl ?_
    refine v_istore_n X (lv' := [(3, .int o2), (2, .int o1), (0, .ref a_ga), (1, .int v1)]) dX12_named_18 rfl (by decide) rfl 19 rfl ?_
    refine v_iload_n X dX12_named_19 0 rfl rfl 20 rfl ?_
    refine v_iconst X dX12_named_20 ic_m1 21 rfl ?_
    refine v_icmp_eq X (tgt := 29) dX12_named_21 rfl 24 rfl hf (fun hf => ?_) (fun hf => ?_)
    · refine v_aload_n X dX12_named_29 2 rfl rfl 30 rfl ?_
      refine v_iload_n X dX12_named_30 3 rfl rfl 31 rfl ?_
      obtain ⟨o3, ho3, hf⟩ := bnd hf
      refine v_callSi X (As := [.ref a_ga, .int v1]) (rest := []) (ws' := ([(a_ga, .inl (c9 0, 463, .inl ga))])) (c_X12_serviceNamed l hG D c9 a_ga ga v1 ho3) 2 (gS wm_155 wm_156 wm_37 wm_157) rfl rfl rfl pd_X12_serviceNamed ⟨Nat.le_of_ble_eq_true rfl, Nat.le_of_ble_eq_true rfl⟩ rfl rfl (Nat.le_of_ble_eq_true rfl) ⟨Nat.zero_le _, Nat.zero_le _⟩ [0] [] [0] rfl rfl rfl rfl dX12_named_31 34 rfl ?_
      refine v_istore X (lv' := [(4, .int o3), (3, .int o2), (2, .int o1), (0, .ref a_ga), (1, .int v1)]) dX12_named_34 (by decide) rfl 36 rfl ?_
      refine v_iload X dX12_named_36 0 rfl 38 rfl ?_
      refine v_iconst X dX12_named_38 ic_m1 39 rfl ?_
      refine v_icmp_ne X (tgt := 46) dX12_named_39 rfl 42 rfl hf (fun hf => ?_) (fun hf => ?_)
      · refine v_sipush X dX12_named_46 sp_200 49 rfl ?_
        refine v_iload X dX12_named_49 0 rfl 51 rfl ?_
        refine v_iadd X dX12_named_51 52 rfl ?_
        obtain rfl := Option.some.inj hf
        exact v_iret X (Nat.zero_le _) (Nat.zero_le _) dX12_named_52
      · refine v_iconst X dX12_named_42 ic_m1 43 rfl ?_
        refine v_goto X (tgt := 52) dX12_named_43 rfl ?_
        obtain rfl := Option.some.inj hf
        exact v_iret X (Nat.zero_le _) (Nat.zero_le _) dX12_named_52
    · refine v_bipush X dX12_named_24 bp_100 26 rfl ?_
      refine v_iload_n X dX12_named_26 0 rfl rfl 27 rfl ?_
      refine v_iadd X dX12_named_27 28 rfl ?_
      obtain rfl := Option.some.inj hf
      exact v_iret X (Nat.zero_le _) (Nat.zero_le _) dX12_named_28
  · refine v_iload_n X dX12_named_11 0 rfl rfl 12 rfl ?_
    obtain rfl := Option.some.inj hf
    exact v_iret X (Nat.zero_le _) (Nat.zero_le _) dX12_named_12
theorem pd_X12_named : yX12_named.cls ≠ "java/lang/invoke/MethodHandle" ∧ yX12_named.cls ≠ "java/lang/invoke/VarHandle" ∧ (parseMethodDescriptor yX12_named.desc).map (fun d => d.parameters.length) = some 2 := by decide +kernel
def f_X12_newName (m_inputLength : Int32) (m_position : Int32) (m_start : Int32) (m_token : Int32) (m_value : Int32) (m_letters : Int32) (m_code : Int32) (m_place : Int32) (m_parsed : Nat → Int32) (m_input : Nat → Int32) : Option (Int32 × Int32 × Int32 × Int32 × Int32 × Int32 × Int32 × Int32) :=
  Option.bind (if m_token = 3 then (
    some (1))
  else (
    some (0)) : Option (Int32)) fun j1 =>
  (f_X12_check m_start m_code m_place j1 1).bind fun o2 =>
  Option.bind (if o2.2.1 = 0 then (
    (f_X12_nameFrom m_input m_start m_letters).bind fun o4 =>
    some (o4))
  else (
    some (0)) : Option (Int32)) fun j3 =>
  Option.bind (if j3 = (-1) then (
    some (0))
  else (
    some (1)) : Option (Int32)) fun j5 =>
  (f_X12_check m_start o2.2.1 o2.2.2 j5 2).bind fun o6 =>
  Option.bind (if o6.2.1 = 0 then (
    (f_X12_named m_parsed j3).bind fun o8 =>
    if o8 = (-1) then (
      some (1))
    else (
      some (0)))
  else (
    some (1)) : Option (Int32)) fun j7 =>
  (f_X12_check m_start o6.2.1 o6.2.2 j7 3).bind fun o9 =>
  (f_X12_next m_inputLength m_position m_start m_token m_value m_letters o9.2.1 m_input).bind fun o10 =>
  some (j3, o10.1, o10.2.1, o10.2.2.1, o10.2.2.2.1, o10.2.2.2.2, o9.2.1, o9.2.2)
set_option maxRecDepth 100000 in
set_option maxHeartbeats 4000000 in
theorem c_X12_newName (l : Launch) {G : (Nat → Prop) → State → Heap → Prop} (hG : vG G) (D : va_G) (c9 : Nat → ClassId) (ad : Nat → Nat) (m_undoable : Int32) (m_undoStart : Int32) (m_thrown : Int32) (m_inputLength : Int32) (m_position : Int32) (m_start : Int32) (m_token : Int32) (m_value : Int32) (m_letters : Int32) (m_code : Int32) (m_place : Int32) (m_outputLength : Int32) (m_s : Nat → Int32) (m_parsed : Nat → Int32) (m_tried : Nat → Int32) (m_remembered : Nat → Int32) (m_slots : Nat → Int32) (m_kept : Nat → Int32) (m_away : Nat → Int32) (m_input : Nat → Int32) (m_halfway : Nat → Int32) (m_output : Nat → Int32)  {o : Int32 × Int32 × Int32 × Int32 × Int32 × Int32 × Int32 × Int32} (hf : f_X12_newName m_inputLength m_position m_start m_token m_value m_letters m_code m_place m_parsed m_input = some o) : mI l yX12_newName (wq yX12_newName cX12_newName 2 (some .int)) { frames := 4, cells := 0, slots := 0, locals := 83 } G D (tyA c9) [.ref (ad 0)] (wX12 ad c9 m_undoable m_undoStart m_thrown m_inputLength m_position m_start m_token m_value m_letters m_code m_place m_outputLength m_s m_parsed m_tried m_remembered m_slots m_kept m_away m_input m_halfway m_output) [] 0 0 o.1 (wX12 ad c9 m_undoable m_undoStart m_thrown m_inputLength o.2.1 o.2.2.1 o.2.2.2.1 o.2.2.2.2.1 o.2.2.2.2.2.1 o.2.2.2.2.2.2.1 o.2.2.2.2.2.2.2 m_outputLength m_s m_parsed m_tried m_remembered m_slots m_kept m_away m_input m_halfway m_output) := by
  refine mI_of hG (cc := cX12_newName) (maxL := 2) (ty := .int) (by decide) rfl (Nat.le_of_ble_eq_true rfl) ?_
  intro p e s m args below meth c A X
  have X : vX p s m args meth c cX12_newName 2 (some .int) RX12 (wq yX12_newName cX12_newName 2 (some .int)) D (tyA c9) G A := X
  refine v_eq (lv2 := [(0, .ref (ad 0))]) rfl rfl rfl rfl ?_
  rw [f_X12_newName] at hf
  refine v_aload_n X dX12_newName_0 0 rfl rfl 1 rfl ?_
  refine v_aload_n X dX12_newName_1 0 rfl rfl 2 rfl ?_
  refine v_get X (C := RX12) (T := TX12) (N := 22) (ci := 11) (v := _) dX12_newName_2 (lay_of laym_X12) 0 rfl rfl 14 (by decide) (mw wm_131) rfl rfl 5 rfl ?_
  refine v_iconst X dX12_newName_5 ic_3 6 rfl ?_
  obtain ⟨j1, hj1, hf⟩ := bnd hf
  have Jj1 : vW p l e { frames := 4, cells := 0, slots := 0, locals := 83 } s m args below meth c 2 D A [] 0 0 (MQ below (eI D (tyA c9) A o.1 ((wX12 ad c9 m_undoable m_undoStart m_thrown m_inputLength o.2.1 o.2.2.1 o.2.2.2.1 o.2.2.2.2.1 o.2.2.2.2.2.1 o.2.2.2.2.2.2.1 o.2.2.2.2.2.2.2 m_outputLength m_s m_parsed m_tried m_remembered m_slots m_kept m_away m_input m_halfway m_output) ++ [])) args s 0 0 A) (wX12 ad c9 m_undoable m_undoStart m_thrown m_inputLength m_position m_start m_token m_value m_letters m_code m_place m_outputLength m_s m_parsed m_tried m_remembered m_slots m_kept m_away m_input m_halfway m_output) 14 [(0, .ref (ad 0))] [.int j1, .ref (ad 0)] := by
    refine v_iconst X dX12_newName_14 ic_1 15 rfl ?_
    obtain ⟨o2, ho2, hf⟩ := bnd hf
    refine v_callVi X (ci := 11) (T := TX12) (C := RX12) (As := [.int j1, .int 1]) (rest := []) (ws' := (wX12 ad c9 m_undoable m_undoStart m_thrown m_inputLength m_position m_start m_token m_value m_letters o2.2.1 o2.2.2 m_outputLength m_s m_parsed m_tried m_remembered m_slots m_kept m_away m_input m_halfway m_output)) (c_X12_check l hG D c9 ad m_undoable m_undoStart m_thrown m_inputLength m_position m_start m_token m_value m_letters m_code m_place m_outputLength m_s m_parsed m_tried m_remembered m_slots m_kept m_away m_input m_halfway m_output j1 1 ho2) 2 (gV wm_137 wm_138 wm_139 wm_37 wm_140) rfl rfl rfl ⟨rfl, pd_X12_check⟩ ⟨Nat.le_of_ble_eq_true rfl, Nat.le_of_ble_eq_true rfl⟩ 0 rfl rfl rfl rfl (Nat.le_of_ble_eq_true rfl) ⟨Nat.zero_le _, Nat.zero_le _⟩ [0, 1, 2, 3, 4, 5, 6, 7, 8, 9, 10] [] [0, 1, 2, 3, 4, 5, 6, 7, 8, 9, 10] rfl rfl rfl rfl dX12_newName_15 18 rfl ?_
    refine v_pop X dX12_newName_18 rfl 19 rfl ?_
    refine v_aload_n X dX12_newName_19 0 rfl rfl 20 rfl ?_
    refine v_get X (C := RX12) (T := TX12) (N := 22) (ci := 11) (v := _) dX12_newName_20 (lay_of laym_X12) 0 rfl rfl 17 (by decide) (mw wm_118) rfl rfl 23 rfl ?_
    obtain ⟨j3, hj3, hf⟩ := bnd hf
    have Jj3 : vW p l e { frames := 4, cells := 0, slots := 0, locals := 83 } s m args below meth c 2 D A [] 0 0 (MQ below (eI D (tyA c9) A o.1 ((wX12 ad c9 m_undoable m_undoStart m_thrown m_inputLength o.2.1 o.2.2.1 o.2.2.2.1 o.2.2.2.2.1 o.2.2.2.2.2.1 o.2.2.2.2.2.2.1 o.2.2.2.2.2.2.2 m_outputLength m_s m_parsed m_tried m_remembered m_slots m_kept m_away m_input m_halfway m_output) ++ [])) args s 0 0 A) (wX12 ad c9 m_undoable m_undoStart m_thrown m_inputLength m_position m_start m_token m_value m_letters o2.2.1 o2.2.2 m_outputLength m_s m_parsed m_tried m_remembered m_slots m_kept m_away m_input m_halfway m_output) 42 [(0, .ref (ad 0))] [.int j3] := by
      refine v_istore_n X (lv' := [(1, .int j3), (0, .ref (ad 0))]) dX12_newName_42 rfl (by decide) rfl 43 rfl ?_
      refine v_aload_n X dX12_newName_43 1 rfl rfl 44 rfl ?_
      refine v_iload_n X dX12_newName_44 0 rfl rfl 45 rfl ?_
      refine v_iconst X dX12_newName_45 ic_m1 46 rfl ?_
      obtain ⟨j5, hj5, hf⟩ := bnd hf
      have Jj5 : vW p l e { frames := 4, cells := 0, slots := 0, locals := 83 } s m args below meth c 2 D A [] 0 0 (MQ below (eI D (tyA c9) A o.1 ((wX12 ad c9 m_undoable m_undoStart m_thrown m_inputLength o.2.1 o.2.2.1 o.2.2.2.1 o.2.2.2.2.1 o.2.2.2.2.2.1 o.2.2.2.2.2.2.1 o.2.2.2.2.2.2.2 m_outputLength m_s m_parsed m_tried m_remembered m_slots m_kept m_away m_input m_halfway m_output) ++ [])) args s 0 0 A) (wX12 ad c9 m_undoable m_undoStart m_thrown m_inputLength m_position m_start m_token m_value m_letters o2.2.1 o2.2.2 m_outputLength m_s m_parsed m_tried m_remembered m_slots m_kept m_away m_input m_halfway m_output) 54 [(0, .ref (ad 0)), (1, .int j3)] [.int j5, .ref (ad 0)] := by
        refine v_iconst X dX12_newName_54 ic_2 55 rfl ?_
        obtain ⟨o6, ho6, hf⟩ := bnd hf
        refine v_callVi X (ci := 11) (T := TX12) (C := RX12) (As := [.int j5, .int 2]) (rest := []) (ws' := (wX12 ad c9 m_undoable m_undoStart m_thrown m_inputLength m_position m_start m_token m_value m_letters o6.2.1 o6.2.2 m_outputLength m_s m_parsed m_tried m_remembered m_slots m_kept m_away m_input m_halfway m_output)) (c_X12_check l hG D c9 ad m_undoable m_undoStart m_thrown m_inputLength m_position m_start m_token m_value m_letters o2.2.1 o2.2.2 m_outputLength m_s m_parsed m_tried m_remembered m_slots m_kept m_away m_input m_halfway m_output j5 2 ho6) 2 (gV wm_137 wm_138 wm_139 wm_37 wm_140) rfl rfl rfl ⟨rfl, pd_X12_check⟩ ⟨Nat.le_of_ble_eq_true rfl, Nat.le_of_ble_eq_true rfl⟩ 0 rfl rfl rfl rfl (Nat.le_of_ble_eq_true rfl) ⟨Nat.zero_le _, Nat.zero_le _⟩ [0, 1, 2, 3, 4, 5, 6, 7, 8, 9, 10] [] [0, 1, 2, 3, 4, 5, 6, 7, 8, 9, 10] rfl rfl rfl rfl dX12_newName_55 58 rfl ?_
        refine v_pop X dX12_newName_58 rfl 59 rfl ?_
        refine v_aload_n X dX12_newName_59 0 rfl rfl 60 rfl ?_
        refine v_aload_n X dX12_newName_60 0 rfl rfl 61 rfl ?_
        refine v_get X (C := RX12) (T := TX12) (N := 22) (ci := 11) (v := _) dX12_newName_61 (lay_of laym_X12) 0 rfl rfl 17 (by decide) (mw wm_118) rfl rfl 64 rfl ?_
        obtain ⟨j7, hj7, hf⟩ := bnd hf
        have Jj7 : vW p l e { frames := 4, cells := 0, slots := 0, locals := 83 } s m args below meth c 2 D A [] 0 0 (MQ below (eI D (tyA c9) A o.1 ((wX12 ad c9 m_undoable m_undoStart m_thrown m_inputLength o.2.1 o.2.2.1 o.2.2.2.1 o.2.2.2.2.1 o.2.2.2.2.2.1 o.2.2.2.2.2.2.1 o.2.2.2.2.2.2.2 m_outputLength m_s m_parsed m_tried m_remembered m_slots m_kept m_away m_input m_halfway m_output) ++ [])) args s 0 0 A) (wX12 ad c9 m_undoable m_undoStart m_thrown m_inputLength m_position m_start m_token m_value m_letters o6.2.1 o6.2.2 m_outputLength m_s m_parsed m_tried m_remembered m_slots m_kept m_away m_input m_halfway m_output) 84 [(0, .ref (ad 0)), (1, .int j3)] [.int j7, .ref (ad 0)] := by
          refine v_iconst X dX12_newName_84 ic_3 85 rfl ?_
          obtain ⟨o9, ho9, hf⟩ := bnd hf
          refine v_callVi X (ci := 11) (T := TX12) (C := RX12) (As := [.int j7, .int 3]) (rest := []) (ws' := (wX12 ad c9 m_undoable m_undoStart m_thrown m_inputLength m_position m_start m_token m_value m_letters o9.2.1 o9.2.2 m_outputLength m_s m_parsed m_tried m_remembered m_slots m_kept m_away m_input m_halfway m_output)) (c_X12_check l hG D c9 ad m_undoable m_undoStart m_thrown m_inputLength m_position m_start m_token m_value m_letters o6.2.1 o6.2.2 m_outputLength m_s m_parsed m_tried m_remembered m_slots m_kept m_away m_input m_halfway m_output j7 3 ho9) 2 (gV wm_137 wm_138 wm_139 wm_37 wm_140) rfl rfl rfl ⟨rfl, pd_X12_check⟩ ⟨Nat.le_of_ble_eq_true rfl, Nat.le_of_ble_eq_true rfl⟩ 0 rfl rfl rfl rfl (Nat.le_of_ble_eq_true rfl) ⟨Nat.zero_le _, Nat.zero_le _⟩ [0, 1, 2, 3, 4, 5, 6, 7, 8, 9, 10] [] [0, 1, 2, 3, 4, 5, 6, 7, 8, 9, 10] rfl rfl rfl rfl dX12_newName_85 88 rfl ?_
          refine v_pop X dX12_newName_88 rfl 89 rfl ?_
          refine v_aload_n X dX12_newName_89 0 rfl rfl 90 rfl ?_
          obtain ⟨o10, ho10, hf⟩ := bnd hf
          refine v_callVv X (ci := 11) (T := TX12) (C := RX12) (As := []) (rest := []) (ws' := (wX12 ad c9 m_undoable m_undoStart m_thrown m_inputLength o10.1 o10.2.1 o10.2.2.1 o10.2.2.2.1 o10.2.2.2.2 o9.2.1 o9.2.2 m_outputLength m_s m_parsed m_tried m_remembered m_slots m_kept m_away m_input m_halfway m_output)) (c_X12_next l hG D c9 ad m_undoable m_undoStart m_thrown m_inputLength m_position m_start m_token m_value m_letters o9.2.1 o9.2.2 m_outputLength m_s m_parsed m_tried m_remembered m_slots m_kept m_away m_input m_halfway m_output ho10) 0 (gV wm_141 wm_142 wm_143 wm_37 wm_144) rfl rfl rfl ⟨rfl, pd_X12_next⟩ ⟨Nat.le_of_ble_eq_true rfl, Nat.le_of_ble_eq_true rfl⟩ 0 rfl rfl rfl rfl (Nat.le_of_ble_eq_true rfl) ⟨Nat.zero_le _, Nat.zero_le _⟩ [0, 1, 2, 3, 4, 5, 6, 7, 8, 9, 10] [] [0, 1, 2, 3, 4, 5, 6, 7, 8, 9, 10] rfl rfl rfl rfl dX12_newName_90 93 rfl ?_
          refine v_iload_n X dX12_newName_93 1 rfl rfl 94 rfl ?_
          obtain rfl := Option.some.inj hf
          exact v_iret X (Nat.zero_le _) (Nat.zero_le _) dX12_newName_94
        clear hf
        refine v_if_ne X (tgt := 79) dX12_newName_64 rfl 67 rfl hj7 (fun hf => ?_) (fun hf => ?_)
        · refine v_iconst X dX12_newName_79 ic_1 80 rfl ?_
          refine v_goto X (tgt := 84) dX12_newName_80 rfl ?_
          obtain rfl := Option.some.inj hf
          exact Jj7
        · refine v_aload_n X dX12_newName_67 0 rfl rfl 68 rfl ?_
          refine v_get X (C := RX12) (T := TX12) (N := 22) (ci := 11) (v := _) dX12_newName_68 (lay_of laym_X12) 0 rfl rfl 1 (by decide) (mw wm_162) rfl rfl 71 rfl ?_
          refine v_iload_n X dX12_newName_71 1 rfl rfl 72 rfl ?_
          obtain ⟨o8, ho8, hf⟩ := bnd hf
          refine v_callSi X (As := [.ref (ad 2), .int j3]) (rest := [.ref (ad 0)]) (ws' := (wX12 ad c9 m_undoable m_undoStart m_thrown m_inputLength m_position m_start m_token m_value m_letters o6.2.1 o6.2.2 m_outputLength m_s m_parsed m_tried m_remembered m_slots m_kept m_away m_input m_halfway m_output)) (c_X12_named l hG D c9 (ad 2) m_parsed j3 ho8) 2 (gS wm_163 wm_164 wm_37 wm_165) rfl rfl rfl pd_X12_named ⟨Nat.le_of_ble_eq_true rfl, Nat.le_of_ble_eq_true rfl⟩ rfl rfl (Nat.le_of_ble_eq_true rfl) ⟨Nat.zero_le _, Nat.zero_le _⟩ [2] [0, 1, 3, 4, 5, 6, 7, 8, 9, 10] [0, 1, 10, 2, 3, 4, 5, 6, 7, 8, 9] rfl rfl rfl rfl dX12_newName_72 75 rfl ?_
          refine v_iconst X dX12_newName_75 ic_m1 76 rfl ?_
          refine v_icmp_ne X (tgt := 83) dX12_newName_76 rfl 79 rfl hf (fun hf => ?_) (fun hf => ?_)
          · refine v_iconst X dX12_newName_83 ic_0 84 rfl ?_
            obtain rfl := Option.some.inj hf
            exact Jj7
          · refine v_iconst X dX12_newName_79 ic_1 80 rfl ?_
            refine v_goto X (tgt := 84) dX12_newName_80 rfl ?_
            obtain rfl := Option.some.inj hf
            exact Jj7
      clear hf
      refine v_icmp_eq X (tgt := 53) dX12_newName_46 rfl 49 rfl hj5 (fun hf => ?_) (fun hf => ?_)
      · refine v_iconst X dX12_newName_53 ic_0 54 rfl ?_
        obtain rfl := Option.some.inj hf
        refine v_sub (lv' := [(0, .ref (ad 0)), (1, .int j3)]) [1, 0] rfl ?_
        exact Jj5
      · refine v_iconst X dX12_newName_49 ic_1 50 rfl ?_
        refine v_goto X (tgt := 54) dX12_newName_50 rfl ?_
        obtain rfl := Option.some.inj hf
        refine v_sub (lv' := [(0, .ref (ad 0)), (1, .int j3)]) [1, 0] rfl ?_
        exact Jj5
    clear hf
    refine v_if_ne X (tgt := 41) dX12_newName_23 rfl 26 rfl hj3 (fun hf => ?_) (fun hf => ?_)
    · refine v_iconst X dX12_newName_41 ic_0 42 rfl ?_
      obtain rfl := Option.some.inj hf
      exact Jj3
    · refine v_aload_n X dX12_newName_26 0 rfl rfl 27 rfl ?_
      refine v_aload_n X dX12_newName_27 0 rfl rfl 28 rfl ?_
      refine v_get X (C := RX12) (T := TX12) (N := 22) (ci := 11) (v := _) dX12_newName_28 (lay_of laym_X12) 0 rfl rfl 13 (by decide) (mw wm_125) rfl rfl 31 rfl ?_
      refine v_aload_n X dX12_newName_31 0 rfl rfl 32 rfl ?_
      refine v_get X (C := RX12) (T := TX12) (N := 22) (ci := 11) (v := _) dX12_newName_32 (lay_of laym_X12) 0 rfl rfl 16 (by decide) (mw wm_126) rfl rfl 35 rfl ?_
      obtain ⟨o4, ho4, hf⟩ := bnd hf
      refine v_callVi X (ci := 11) (T := TX12) (C := RX12) (As := [.int m_start, .int m_letters]) (rest := []) (ws' := (wX12 ad c9 m_undoable m_undoStart m_thrown m_inputLength m_position m_start m_token m_value m_letters o2.2.1 o2.2.2 m_outputLength m_s m_parsed m_tried m_remembered m_slots m_kept m_away m_input m_halfway m_output)) (c_X12_nameFrom l hG D c9 ad m_undoable m_undoStart m_thrown m_inputLength m_position m_start m_token m_value m_letters o2.2.1 o2.2.2 m_outputLength m_s m_parsed m_tried m_remembered m_slots m_kept m_away m_input m_halfway m_output m_start m_letters ho4) 2 (gV wm_158 wm_159 wm_160 wm_37 wm_161) rfl rfl rfl ⟨rfl, pd_X12_nameFrom⟩ ⟨Nat.le_of_ble_eq_true rfl, Nat.le_of_ble_eq_true rfl⟩ 0 rfl rfl rfl rfl (Nat.le_of_ble_eq_true rfl) ⟨Nat.zero_le _, Nat.zero_le _⟩ [0, 1, 2, 3, 4, 5, 6, 7, 8, 9, 10] [] [0, 1, 2, 3, 4, 5, 6, 7, 8, 9, 10] rfl rfl rfl rfl dX12_newName_35 38 rfl ?_
      refine v_goto X (tgt := 42) dX12_newName_38 rfl ?_
      obtain rfl := Option.some.inj hf
      exact Jj3
  clear hf
  refine v_icmp_ne X (tgt := 13) dX12_newName_6 rfl 9 rfl hj1 (fun hf => ?_) (fun hf => ?_)
  · refine v_iconst X dX12_newName_13 ic_0 14 rfl ?_
    obtain rfl := Option.some.inj hf
    exact Jj1
  · refine v_iconst X dX12_newName_9 ic_1 10 rfl ?_
    refine v_goto X (tgt := 14) dX12_newName_10 rfl ?_
    obtain rfl := Option.some.inj hf
    exact Jj1
theorem pd_X12_newName : yX12_newName.cls ≠ "java/lang/invoke/MethodHandle" ∧ yX12_newName.cls ≠ "java/lang/invoke/VarHandle" ∧ (parseMethodDescriptor yX12_newName.desc).map (fun d => d.parameters.length) = some 0 := by decide +kernel
def f_X12_nameHere (m_start : Int32) (m_token : Int32) (m_letters : Int32) (m_code : Int32) (m_place : Int32) (m_input : Nat → Int32) : Option (Int32 × Int32 × Int32) :=
  Option.bind (if m_token = 3 then (
    some (1))
  else (
    some (0)) : Option (Int32)) fun j1 =>
  (f_X12_check m_start m_code m_place j1 1).bind fun o2 =>
  if o2.2.1 = 0 then (
    (f_X12_nameFrom m_input m_start m_letters).bind fun o3 =>
    some (o3, o2.2.1, o2.2.2))
  else (
    some (0, o2.2.1, o2.2.2))
set_option maxRecDepth 100000 in
set_option maxHeartbeats 4000000 in
theorem c_X12_nameHere (l : Launch) {G : (Nat → Prop) → State → Heap → Prop} (hG : vG G) (D : va_G) (c9 : Nat → ClassId) (ad : Nat → Nat) (m_undoable : Int32) (m_undoStart : Int32) (m_thrown : Int32) (m_inputLength : Int32) (m_position : Int32) (m_start : Int32) (m_token : Int32) (m_value : Int32) (m_letters : Int32) (m_code : Int32) (m_place : Int32) (m_outputLength : Int32) (m_s : Nat → Int32) (m_parsed : Nat → Int32) (m_tried : Nat → Int32) (m_remembered : Nat → Int32) (m_slots : Nat → Int32) (m_kept : Nat → Int32) (m_away : Nat → Int32) (m_input : Nat → Int32) (m_halfway : Nat → Int32) (m_output : Nat → Int32)  {o : Int32 × Int32 × Int32} (hf : f_X12_nameHere m_start m_token m_letters m_code m_place m_input = some o) : mI l yX12_nameHere (wq yX12_nameHere cX12_nameHere 1 (some .int)) { frames := 3, cells := 0, slots := 0, locals := 66 } G D (tyA c9) [.ref (ad 0)] (wX12 ad c9 m_undoable m_undoStart m_thrown m_inputLength m_position m_start m_token m_value m_letters m_code m_place m_outputLength m_s m_parsed m_tried m_remembered m_slots m_kept m_away m_input m_halfway m_output) [] 0 0 o.1 (wX12 ad c9 m_undoable m_undoStart m_thrown m_inputLength m_position m_start m_token m_value m_letters o.2.1 o.2.2 m_outputLength m_s m_parsed m_tried m_remembered m_slots m_kept m_away m_input m_halfway m_output) := by
  refine mI_of hG (cc := cX12_nameHere) (maxL := 1) (ty := .int) (by decide) rfl (Nat.le_of_ble_eq_true rfl) ?_
  intro p e s m args below meth c A X
  have X : vX p s m args meth c cX12_nameHere 1 (some .int) RX12 (wq yX12_nameHere cX12_nameHere 1 (some .int)) D (tyA c9) G A := X
  refine v_eq (lv2 := [(0, .ref (ad 0))]) rfl rfl rfl rfl ?_
  rw [f_X12_nameHere] at hf
  refine v_aload_n X dX12_nameHere_0 0 rfl rfl 1 rfl ?_
  refine v_aload_n X dX12_nameHere_1 0 rfl rfl 2 rfl ?_
  refine v_get X (C := RX12) (T := TX12) (N := 22) (ci := 11) (v := _) dX12_nameHere_2 (lay_of laym_X12) 0 rfl rfl 14 (by decide) (mw wm_131) rfl rfl 5 rfl ?_
  refine v_iconst X dX12_nameHere_5 ic_3 6 rfl ?_
  obtain ⟨j1, hj1, hf⟩ := bnd hf
  have Jj1 : vW p l e { frames := 3, cells := 0, slots := 0, locals := 66 } s m args below meth c 1 D A [] 0 0 (MQ below (eI D (tyA c9) A o.1 ((wX12 ad c9 m_undoable m_undoStart m_thrown m_inputLength m_position m_start m_token m_value m_letters o.2.1 o.2.2 m_outputLength m_s m_parsed m_tried m_remembered m_slots m_kept m_away m_input m_halfway m_output) ++ [])) args s 0 0 A) (wX12 ad c9 m_undoable m_undoStart m_thrown m_inputLength m_position m_start m_token m_value m_letters m_code m_place m_outputLength m_s m_parsed m_tried m_remembered m_slots m_kept m_away m_input m_halfway m_output) 14 [(0, .ref (ad 0))] [.int j1, .ref (ad 0)] := by
    refine v_iconst X dX12_nameHere_14 ic_1 15 rfl ?_
    obtain ⟨o2, ho2, hf⟩ := bnd hf
    refine v_callVi X (ci := 11) (T := TX12) (C := RX12) (As := [.int j1, .int 1]) (rest := []) (ws' := (wX12 ad c9 m_undoable m_undoStart m_thrown m_inputLength m_position m_start m_token m_value m_letters o2.2.1 o2.2.2 m_outputLength m_s m_parsed m_tried m_remembered m_slots m_kept m_away m_input m_halfway m_output)) (c_X12_check l hG D c9 ad m_undoable m_undoStart m_thrown m_inputLength m_position m_start m_token m_value m_letters m_code m_place m_outputLength m_s m_parsed m_tried m_remembered m_slots m_kept m_away m_input m_halfway m_output j1 1 ho2) 2 (gV wm_137 wm_138 wm_139 wm_37 wm_140) rfl rfl rfl ⟨rfl, pd_X12_check⟩ ⟨Nat.le_of_ble_eq_true rfl, Nat.le_of_ble_eq_true rfl⟩ 0 rfl rfl rfl rfl (Nat.le_of_ble_eq_true rfl) ⟨Nat.zero_le _, Nat.zero_le _⟩ [0, 1, 2, 3, 4, 5, 6, 7, 8, 9, 10] [] [0, 1, 2, 3, 4, 5, 6, 7, 8, 9, 10] rfl rfl rfl rfl dX12_nameHere_15 18 rfl ?_
    refine v_pop X dX12_nameHere_18 rfl 19 rfl ?_
    refine v_aload_n X dX12_nameHere_19 0 rfl rfl 20 rfl ?_
    refine v_get X (C := RX12) (T := TX12) (N := 22) (ci := 11) (v := _) dX12_nameHere_20 (lay_of laym_X12) 0 rfl rfl 17 (by decide) (mw wm_118) rfl rfl 23 rfl ?_
    refine v_if_ne X (tgt := 41) dX12_nameHere_23 rfl 26 rfl hf (fun hf => ?_) (fun hf => ?_)
    · refine v_iconst X dX12_nameHere_41 ic_0 42 rfl ?_
      obtain rfl := Option.some.inj hf
      exact v_iret X (Nat.zero_le _) (Nat.zero_le _) dX12_nameHere_42
    · refine v_aload_n X dX12_nameHere_26 0 rfl rfl 27 rfl ?_
      refine v_aload_n X dX12_nameHere_27 0 rfl rfl 28 rfl ?_
      refine v_get X (C := RX12) (T := TX12) (N := 22) (ci := 11) (v := _) dX12_nameHere_28 (lay_of laym_X12) 0 rfl rfl 13 (by decide) (mw wm_125) rfl rfl 31 rfl ?_
      refine v_aload_n X dX12_nameHere_31 0 rfl rfl 32 rfl ?_
      refine v_get X (C := RX12) (T := TX12) (N := 22) (ci := 11) (v := _) dX12_nameHere_32 (lay_of laym_X12) 0 rfl rfl 16 (by decide) (mw wm_126) rfl rfl 35 rfl ?_
      obtain ⟨o3, ho3, hf⟩ := bnd hf
      refine v_callVi X (ci := 11) (T := TX12) (C := RX12) (As := [.int m_start, .int m_letters]) (rest := []) (ws' := (wX12 ad c9 m_undoable m_undoStart m_thrown m_inputLength m_position m_start m_token m_value m_letters o2.2.1 o2.2.2 m_outputLength m_s m_parsed m_tried m_remembered m_slots m_kept m_away m_input m_halfway m_output)) (c_X12_nameFrom l hG D c9 ad m_undoable m_undoStart m_thrown m_inputLength m_position m_start m_token m_value m_letters o2.2.1 o2.2.2 m_outputLength m_s m_parsed m_tried m_remembered m_slots m_kept m_away m_input m_halfway m_output m_start m_letters ho3) 2 (gV wm_158 wm_159 wm_160 wm_37 wm_161) rfl rfl rfl ⟨rfl, pd_X12_nameFrom⟩ ⟨Nat.le_of_ble_eq_true rfl, Nat.le_of_ble_eq_true rfl⟩ 0 rfl rfl rfl rfl (Nat.le_of_ble_eq_true rfl) ⟨Nat.zero_le _, Nat.zero_le _⟩ [0, 1, 2, 3, 4, 5, 6, 7, 8, 9, 10] [] [0, 1, 2, 3, 4, 5, 6, 7, 8, 9, 10] rfl rfl rfl rfl dX12_nameHere_35 38 rfl ?_
      refine v_goto X (tgt := 42) dX12_nameHere_38 rfl ?_
      obtain rfl := Option.some.inj hf
      exact v_iret X (Nat.zero_le _) (Nat.zero_le _) dX12_nameHere_42
  clear hf
  refine v_icmp_ne X (tgt := 13) dX12_nameHere_6 rfl 9 rfl hj1 (fun hf => ?_) (fun hf => ?_)
  · refine v_iconst X dX12_nameHere_13 ic_0 14 rfl ?_
    obtain rfl := Option.some.inj hf
    exact Jj1
  · refine v_iconst X dX12_nameHere_9 ic_1 10 rfl ?_
    refine v_goto X (tgt := 14) dX12_nameHere_10 rfl ?_
    obtain rfl := Option.some.inj hf
    exact Jj1
theorem pd_X12_nameHere : yX12_nameHere.cls ≠ "java/lang/invoke/MethodHandle" ∧ yX12_nameHere.cls ≠ "java/lang/invoke/VarHandle" ∧ (parseMethodDescriptor yX12_nameHere.desc).map (fun d => d.parameters.length) = some 0 := by decide +kernel
def f_X12_exists (m_inputLength : Int32) (m_position : Int32) (m_start : Int32) (m_token : Int32) (m_value : Int32) (m_letters : Int32) (m_code : Int32) (m_place : Int32) (m_input : Nat → Int32) (v1 : Int32) : Option (Int32 × Int32 × Int32 × Int32 × Int32 × Int32 × Int32 × Int32) :=
  Option.bind (if m_code = 0 then (
    if v1 = (-1) then (
      some (0))
    else (
      some (1)))
  else (
    some (1)) : Option (Int32)) fun j1 =>
  (f_X12_check m_start m_code m_place j1 4).bind fun o2 =>
  (f_X12_next m_inputLength m_position m_start m_token m_value m_letters o2.2.1 m_input).bind fun o3 =>
  if o2.2.1 = 0 then (
    some (v1, o3.1, o3.2.1, o3.2.2.1, o3.2.2.2.1, o3.2.2.2.2, o2.2.1, o2.2.2))
  else (
    some (0, o3.1, o3.2.1, o3.2.2.1, o3.2.2.2.1, o3.2.2.2.2, o2.2.1, o2.2.2))
set_option maxRecDepth 100000 in
set_option maxHeartbeats 4000000 in
theorem c_X12_exists (l : Launch) {G : (Nat → Prop) → State → Heap → Prop} (hG : vG G) (D : va_G) (c9 : Nat → ClassId) (ad : Nat → Nat) (m_undoable : Int32) (m_undoStart : Int32) (m_thrown : Int32) (m_inputLength : Int32) (m_position : Int32) (m_start : Int32) (m_token : Int32) (m_value : Int32) (m_letters : Int32) (m_code : Int32) (m_place : Int32) (m_outputLength : Int32) (m_s : Nat → Int32) (m_parsed : Nat → Int32) (m_tried : Nat → Int32) (m_remembered : Nat → Int32) (m_slots : Nat → Int32) (m_kept : Nat → Int32) (m_away : Nat → Int32) (m_input : Nat → Int32) (m_halfway : Nat → Int32) (m_output : Nat → Int32) (v1 : Int32) {o : Int32 × Int32 × Int32 × Int32 × Int32 × Int32 × Int32 × Int32} (hf : f_X12_exists m_inputLength m_position m_start m_token m_value m_letters m_code m_place m_input v1 = some o) : mI l yX12_exists (wq yX12_exists cX12_exists 2 (some .int)) { frames := 4, cells := 0, slots := 0, locals := 83 } G D (tyA c9) [.ref (ad 0), .int v1] (wX12 ad c9 m_undoable m_undoStart m_thrown m_inputLength m_position m_start m_token m_value m_letters m_code m_place m_outputLength m_s m_parsed m_tried m_remembered m_slots m_kept m_away m_input m_halfway m_output) [] 0 0 o.1 (wX12 ad c9 m_undoable m_undoStart m_thrown m_inputLength o.2.1 o.2.2.1 o.2.2.2.1 o.2.2.2.2.1 o.2.2.2.2.2.1 o.2.2.2.2.2.2.1 o.2.2.2.2.2.2.2 m_outputLength m_s m_parsed m_tried m_remembered m_slots m_kept m_away m_input m_halfway m_output) := by
  refine mI_of hG (cc := cX12_exists) (maxL := 2) (ty := .int) (by decide) rfl (Nat.le_of_ble_eq_true rfl) ?_
  intro p e s m args below meth c A X
  have X : vX p s m args meth c cX12_exists 2 (some .int) RX12 (wq yX12_exists cX12_exists 2 (some .int)) D (tyA c9) G A := X
  refine v_eq (lv2 := [(0, .ref (ad 0)), (1, .int v1)]) rfl rfl rfl rfl ?_
  rw [f_X12_exists] at hf
  refine v_aload_n X dX12_exists_0 0 rfl rfl 1 rfl ?_
  refine v_aload_n X dX12_exists_1 0 rfl rfl 2 rfl ?_
  refine v_get X (C := RX12) (T := TX12) (N := 22) (ci := 11) (v := _) dX12_exists_2 (lay_of laym_X12) 0 rfl rfl 17 (by decide) (mw wm_118) rfl rfl 5 rfl ?_
  obtain ⟨j1, hj1, hf⟩ := bnd hf
  have Jj1 : vW p l e { frames := 4, cells := 0, slots := 0, locals := 83 } s m args below meth c 2 D A [] 0 0 (MQ below (eI D (tyA c9) A o.1 ((wX12 ad c9 m_undoable m_undoStart m_thrown m_inputLength o.2.1 o.2.2.1 o.2.2.2.1 o.2.2.2.2.1 o.2.2.2.2.2.1 o.2.2.2.2.2.2.1 o.2.2.2.2.2.2.2 m_outputLength m_s m_parsed m_tried m_remembered m_slots m_kept m_away m_input m_halfway m_output) ++ [])) args s 0 0 A) (wX12 ad c9 m_undoable m_undoStart m_thrown m_inputLength m_position m_start m_token m_value m_letters m_code m_place m_outputLength m_s m_parsed m_tried m_remembered m_slots m_kept m_away m_input m_halfway m_output) 18 [(0, .ref (ad 0)), (1, .int v1)] [.int j1, .ref (ad 0)] := by
    refine v_iconst X dX12_exists_18 ic_4 19 rfl ?_
    obtain ⟨o2, ho2, hf⟩ := bnd hf
    refine v_callVi X (ci := 11) (T := TX12) (C := RX12) (As := [.int j1, .int 4]) (rest := []) (ws' := (wX12 ad c9 m_undoable m_undoStart m_thrown m_inputLength m_position m_start m_token m_value m_letters o2.2.1 o2.2.2 m_outputLength m_s m_parsed m_tried m_remembered m_slots m_kept m_away m_input m_halfway m_output)) (c_X12_check l hG D c9 ad m_undoable m_undoStart m_thrown m_inputLength m_position m_start m_token m_value m_letters m_code m_place m_outputLength m_s m_parsed m_tried m_remembered m_slots m_kept m_away m_input m_halfway m_output j1 4 ho2) 2 (gV wm_137 wm_138 wm_139 wm_37 wm_140) rfl rfl rfl ⟨rfl, pd_X12_check⟩ ⟨Nat.le_of_ble_eq_true rfl, Nat.le_of_ble_eq_true rfl⟩ 0 rfl rfl rfl rfl (Nat.le_of_ble_eq_true rfl) ⟨Nat.zero_le _, Nat.zero_le _⟩ [0, 1, 2, 3, 4, 5, 6, 7, 8, 9, 10] [] [0, 1, 2, 3, 4, 5, 6, 7, 8, 9, 10] rfl rfl rfl rfl dX12_exists_19 22 rfl ?_
    refine v_pop X dX12_exists_22 rfl 23 rfl ?_
    refine v_aload_n X dX12_exists_23 0 rfl rfl 24 rfl ?_
    obtain ⟨o3, ho3, hf⟩ := bnd hf
    refine v_callVv X (ci := 11) (T := TX12) (C := RX12) (As := []) (rest := []) (ws' := (wX12 ad c9 m_undoable m_undoStart m_thrown m_inputLength o3.1 o3.2.1 o3.2.2.1 o3.2.2.2.1 o3.2.2.2.2 o2.2.1 o2.2.2 m_outputLength m_s m_parsed m_tried m_remembered m_slots m_kept m_away m_input m_halfway m_output)) (c_X12_next l hG D c9 ad m_undoable m_undoStart m_thrown m_inputLength m_position m_start m_token m_value m_letters o2.2.1 o2.2.2 m_outputLength m_s m_parsed m_tried m_remembered m_slots m_kept m_away m_input m_halfway m_output ho3) 0 (gV wm_141 wm_142 wm_143 wm_37 wm_144) rfl rfl rfl ⟨rfl, pd_X12_next⟩ ⟨Nat.le_of_ble_eq_true rfl, Nat.le_of_ble_eq_true rfl⟩ 0 rfl rfl rfl rfl (Nat.le_of_ble_eq_true rfl) ⟨Nat.zero_le _, Nat.zero_le _⟩ [0, 1, 2, 3, 4, 5, 6, 7, 8, 9, 10] [] [0, 1, 2, 3, 4, 5, 6, 7, 8, 9, 10] rfl rfl rfl rfl dX12_exists_24 27 rfl ?_
    refine v_aload_n X dX12_exists_27 0 rfl rfl 28 rfl ?_
    refine v_get X (C := RX12) (T := TX12) (N := 22) (ci := 11) (v := _) dX12_exists_28 (lay_of laym_X12) 0 rfl rfl 17 (by decide) (mw wm_118) rfl rfl 31 rfl ?_
    refine v_if_ne X (tgt := 38) dX12_exists_31 rfl 34 rfl hf (fun hf => ?_) (fun hf => ?_)
    · refine v_iconst X dX12_exists_38 ic_0 39 rfl ?_
      obtain rfl := Option.some.inj hf
      exact v_iret X (Nat.zero_le _) (Nat.zero_le _) dX12_exists_39
    · refine v_iload_n X dX12_exists_34 1 rfl rfl 35 rfl ?_
      refine v_goto X (tgt := 39) dX12_exists_35 rfl ?_
      obtain rfl := Option.some.inj hf
      exact v_iret X (Nat.zero_le _) (Nat.zero_le _) dX12_exists_39
  clear hf
  refine v_if_ne X (tgt := 13) dX12_exists_5 rfl 8 rfl hj1 (fun hf => ?_) (fun hf => ?_)
  · refine v_iconst X dX12_exists_13 ic_1 14 rfl ?_
    refine v_goto X (tgt := 18) dX12_exists_14 rfl ?_
    obtain rfl := Option.some.inj hf
    exact Jj1
  · refine v_iload_n X dX12_exists_8 1 rfl rfl 9 rfl ?_
    refine v_iconst X dX12_exists_9 ic_m1 10 rfl ?_
    refine v_icmp_eq X (tgt := 17) dX12_exists_10 rfl 13 rfl hf (fun hf => ?_) (fun hf => ?_)
    · refine v_iconst X dX12_exists_17 ic_0 18 rfl ?_
      obtain rfl := Option.some.inj hf
      exact Jj1
    · refine v_iconst X dX12_exists_13 ic_1 14 rfl ?_
      refine v_goto X (tgt := 18) dX12_exists_14 rfl ?_
      obtain rfl := Option.some.inj hf
      exact Jj1
theorem pd_X12_exists : yX12_exists.cls ≠ "java/lang/invoke/MethodHandle" ∧ yX12_exists.cls ≠ "java/lang/invoke/VarHandle" ∧ (parseMethodDescriptor yX12_exists.desc).map (fun d => d.parameters.length) = some 1 := by decide +kernel
def f_X12_realmHere (m_inputLength : Int32) (m_position : Int32) (m_start : Int32) (m_token : Int32) (m_value : Int32) (m_letters : Int32) (m_code : Int32) (m_place : Int32) (m_parsed : Nat → Int32) (m_input : Nat → Int32) : Option (Int32 × Int32 × Int32 × Int32 × Int32 × Int32 × Int32 × Int32) :=
  (f_X12_nameHere m_start m_token m_letters m_code m_place m_input).bind fun o1 =>
  (f_X12_realmNamed m_parsed o1.1).bind fun o2 =>
  (f_X12_exists m_inputLength m_position m_start m_token m_value m_letters o1.2.1 o1.2.2 m_input o2).bind fun o3 =>
  some (o3.1, o3.2.1, o3.2.2.1, o3.2.2.2.1, o3.2.2.2.2.1, o3.2.2.2.2.2.1, o3.2.2.2.2.2.2.1, o3.2.2.2.2.2.2.2)
set_option maxRecDepth 100000 in
set_option maxHeartbeats 4000000 in
theorem c_X12_realmHere (l : Launch) {G : (Nat → Prop) → State → Heap → Prop} (hG : vG G) (D : va_G) (c9 : Nat → ClassId) (ad : Nat → Nat) (m_undoable : Int32) (m_undoStart : Int32) (m_thrown : Int32) (m_inputLength : Int32) (m_position : Int32) (m_start : Int32) (m_token : Int32) (m_value : Int32) (m_letters : Int32) (m_code : Int32) (m_place : Int32) (m_outputLength : Int32) (m_s : Nat → Int32) (m_parsed : Nat → Int32) (m_tried : Nat → Int32) (m_remembered : Nat → Int32) (m_slots : Nat → Int32) (m_kept : Nat → Int32) (m_away : Nat → Int32) (m_input : Nat → Int32) (m_halfway : Nat → Int32) (m_output : Nat → Int32)  {o : Int32 × Int32 × Int32 × Int32 × Int32 × Int32 × Int32 × Int32} (hf : f_X12_realmHere m_inputLength m_position m_start m_token m_value m_letters m_code m_place m_parsed m_input = some o) : mI l yX12_realmHere (wq yX12_realmHere cX12_realmHere 1 (some .int)) { frames := 5, cells := 0, slots := 0, locals := 104 } G D (tyA c9) [.ref (ad 0)] (wX12 ad c9 m_undoable m_undoStart m_thrown m_inputLength m_position m_start m_token m_value m_letters m_code m_place m_outputLength m_s m_parsed m_tried m_remembered m_slots m_kept m_away m_input m_halfway m_output) [] 0 0 o.1 (wX12 ad c9 m_undoable m_undoStart m_thrown m_inputLength o.2.1 o.2.2.1 o.2.2.2.1 o.2.2.2.2.1 o.2.2.2.2.2.1 o.2.2.2.2.2.2.1 o.2.2.2.2.2.2.2 m_outputLength m_s m_parsed m_tried m_remembered m_slots m_kept m_away m_input m_halfway m_output) := by
  refine mI_of hG (cc := cX12_realmHere) (maxL := 1) (ty := .int) (by decide) rfl (Nat.le_of_ble_eq_true rfl) ?_
  intro p e s m args below meth c A X
  have X : vX p s m args meth c cX12_realmHere 1 (some .int) RX12 (wq yX12_realmHere cX12_realmHere 1 (some .int)) D (tyA c9) G A := X
  refine v_eq (lv2 := [(0, .ref (ad 0))]) rfl rfl rfl rfl ?_
  rw [f_X12_realmHere] at hf
  refine v_aload_n X dX12_realmHere_0 0 rfl rfl 1 rfl ?_
  refine v_aload_n X dX12_realmHere_1 0 rfl rfl 2 rfl ?_
  refine v_get X (C := RX12) (T := TX12) (N := 22) (ci := 11) (v := _) dX12_realmHere_2 (lay_of laym_X12) 0 rfl rfl 1 (by decide) (mw wm_162) rfl rfl 5 rfl ?_
  refine v_aload_n X dX12_realmHere_5 0 rfl rfl 6 rfl ?_
  obtain ⟨o1, ho1, hf⟩ := bnd hf
  refine v_callVi X (ci := 11) (T := TX12) (C := RX12) (As := []) (rest := [.ref (ad 2), .ref (ad 0)]) (ws' := (wX12 ad c9 m_undoable m_undoStart m_thrown m_inputLength m_position m_start m_token m_value m_letters o1.2.1 o1.2.2 m_outputLength m_s m_parsed m_tried m_remembered m_slots m_kept m_away m_input m_halfway m_output)) (c_X12_nameHere l hG D c9 ad m_undoable m_undoStart m_thrown m_inputLength m_position m_start m_token m_value m_letters m_code m_place m_outputLength m_s m_parsed m_tried m_remembered m_slots m_kept m_away m_input m_halfway m_output ho1) 0 (gV wm_166 wm_167 wm_168 wm_37 wm_169) rfl rfl rfl ⟨rfl, pd_X12_nameHere⟩ ⟨Nat.le_of_ble_eq_true rfl, Nat.le_of_ble_eq_true rfl⟩ 0 rfl rfl rfl rfl (Nat.le_of_ble_eq_true rfl) ⟨Nat.zero_le _, Nat.zero_le _⟩ [0, 1, 2, 3, 4, 5, 6, 7, 8, 9, 10] [] [0, 1, 2, 3, 4, 5, 6, 7, 8, 9, 10] rfl rfl rfl rfl dX12_realmHere_6 9 rfl ?_
  obtain ⟨o2, ho2, hf⟩ := bnd hf
  refine v_callSi X (As := [.ref (ad 2), .int o1.1]) (rest := [.ref (ad 0)]) (ws' := (wX12 ad c9 m_undoable m_undoStart m_thrown m_inputLength m_position m_start m_token m_value m_letters o1.2.1 o1.2.2 m_outputLength m_s m_parsed m_tried m_remembered m_slots m_kept m_away m_input m_halfway m_output)) (c_X12_realmNamed l hG D c9 (ad 2) m_parsed o1.1 ho2) 2 (gS wm_149 wm_150 wm_37 wm_151) rfl rfl rfl pd_X12_realmNamed ⟨Nat.le_of_ble_eq_true rfl, Nat.le_of_ble_eq_true rfl⟩ rfl rfl (Nat.le_of_ble_eq_true rfl) ⟨Nat.zero_le _, Nat.zero_le _⟩ [2] [0, 1, 3, 4, 5, 6, 7, 8, 9, 10] [0, 1, 10, 2, 3, 4, 5, 6, 7, 8, 9] rfl rfl rfl rfl dX12_realmHere_9 12 rfl ?_
  obtain ⟨o3, ho3, hf⟩ := bnd hf
  refine v_callVi X (ci := 11) (T := TX12) (C := RX12) (As := [.int o2]) (rest := []) (ws' := (wX12 ad c9 m_undoable m_undoStart m_thrown m_inputLength o3.2.1 o3.2.2.1 o3.2.2.2.1 o3.2.2.2.2.1 o3.2.2.2.2.2.1 o3.2.2.2.2.2.2.1 o3.2.2.2.2.2.2.2 m_outputLength m_s m_parsed m_tried m_remembered m_slots m_kept m_away m_input m_halfway m_output)) (c_X12_exists l hG D c9 ad m_undoable m_undoStart m_thrown m_inputLength m_position m_start m_token m_value m_letters o1.2.1 o1.2.2 m_outputLength m_s m_parsed m_tried m_remembered m_slots m_kept m_away m_input m_halfway m_output o2 ho3) 1 (gV wm_170 wm_171 wm_172 wm_37 wm_173) rfl rfl rfl ⟨rfl, pd_X12_exists⟩ ⟨Nat.le_of_ble_eq_true rfl, Nat.le_of_ble_eq_true rfl⟩ 0 rfl rfl rfl rfl (Nat.le_of_ble_eq_true rfl) ⟨Nat.zero_le _, Nat.zero_le _⟩ [0, 1, 2, 3, 4, 5, 6, 7, 8, 9, 10] [] [0, 1, 2, 3, 4, 5, 6, 7, 8, 9, 10] rfl rfl rfl rfl dX12_realmHere_12 15 rfl ?_
  obtain rfl := Option.some.inj hf
  exact v_iret X (Nat.zero_le _) (Nat.zero_le _) dX12_realmHere_15
theorem pd_X12_realmHere : yX12_realmHere.cls ≠ "java/lang/invoke/MethodHandle" ∧ yX12_realmHere.cls ≠ "java/lang/invoke/VarHandle" ∧ (parseMethodDescriptor yX12_realmHere.desc).map (fun d => d.parameters.length) = some 0 := by decide +kernel
def f_X12_userHere (m_inputLength : Int32) (m_position : Int32) (m_start : Int32) (m_token : Int32) (m_value : Int32) (m_letters : Int32) (m_code : Int32) (m_place : Int32) (m_parsed : Nat → Int32) (m_input : Nat → Int32) : Option (Int32 × Int32 × Int32 × Int32 × Int32 × Int32 × Int32 × Int32) :=
  (f_X12_nameHere m_start m_token m_letters m_code m_place m_input).bind fun o1 =>
  (f_X12_userNamed m_parsed o1.1).bind fun o2 =>
  (f_X12_exists m_inputLength m_position m_start m_token m_value m_letters o1.2.1 o1.2.2 m_input o2).bind fun o3 =>
  some (o3.1, o3.2.1, o3.2.2.1, o3.2.2.2.1, o3.2.2.2.2.1, o3.2.2.2.2.2.1, o3.2.2.2.2.2.2.1, o3.2.2.2.2.2.2.2)
set_option maxRecDepth 100000 in
set_option maxHeartbeats 4000000 in
theorem c_X12_userHere (l : Launch) {G : (Nat → Prop) → State → Heap → Prop} (hG : vG G) (D : va_G) (c9 : Nat → ClassId) (ad : Nat → Nat) (m_undoable : Int32) (m_undoStart : Int32) (m_thrown : Int32) (m_inputLength : Int32) (m_position : Int32) (m_start : Int32) (m_token : Int32) (m_value : Int32) (m_letters : Int32) (m_code : Int32) (m_place : Int32) (m_outputLength : Int32) (m_s : Nat → Int32) (m_parsed : Nat → Int32) (m_tried : Nat → Int32) (m_remembered : Nat → Int32) (m_slots : Nat → Int32) (m_kept : Nat → Int32) (m_away : Nat → Int32) (m_input : Nat → Int32) (m_halfway : Nat → Int32) (m_output : Nat → Int32)  {o : Int32 × Int32 × Int32 × Int32 × Int32 × Int32 × Int32 × Int32} (hf : f_X12_userHere m_inputLength m_position m_start m_token m_value m_letters m_code m_place m_parsed m_input = some o) : mI l yX12_userHere (wq yX12_userHere cX12_userHere 1 (some .int)) { frames := 5, cells := 0, slots := 0, locals := 104 } G D (tyA c9) [.ref (ad 0)] (wX12 ad c9 m_undoable m_undoStart m_thrown m_inputLength m_position m_start m_token m_value m_letters m_code m_place m_outputLength m_s m_parsed m_tried m_remembered m_slots m_kept m_away m_input m_halfway m_output) [] 0 0 o.1 (wX12 ad c9 m_undoable m_undoStart m_thrown m_inputLength o.2.1 o.2.2.1 o.2.2.2.1 o.2.2.2.2.1 o.2.2.2.2.2.1 o.2.2.2.2.2.2.1 o.2.2.2.2.2.2.2 m_outputLength m_s m_parsed m_tried m_remembered m_slots m_kept m_away m_input m_halfway m_output) := by
  refine mI_of hG (cc := cX12_userHere) (maxL := 1) (ty := .int) (by decide) rfl (Nat.le_of_ble_eq_true rfl) ?_
  intro p e s m args below meth c A X
  have X : vX p s m args meth c cX12_userHere 1 (some .int) RX12 (wq yX12_userHere cX12_userHere 1 (some .int)) D (tyA c9) G A := X
  refine v_eq (lv2 := [(0, .ref (ad 0))]) rfl rfl rfl rfl ?_
  rw [f_X12_userHere] at hf
  refine v_aload_n X dX12_userHere_0 0 rfl rfl 1 rfl ?_
  refine v_aload_n X dX12_userHere_1 0 rfl rfl 2 rfl ?_
  refine v_get X (C := RX12) (T := TX12) (N := 22) (ci := 11) (v := _) dX12_userHere_2 (lay_of laym_X12) 0 rfl rfl 1 (by decide) (mw wm_162) rfl rfl 5 rfl ?_
  refine v_aload_n X dX12_userHere_5 0 rfl rfl 6 rfl ?_
  obtain ⟨o1, ho1, hf⟩ := bnd hf
  refine v_callVi X (ci := 11) (T := TX12) (C := RX12) (As := []) (rest := [.ref (ad 2), .ref (ad 0)]) (ws' := (wX12 ad c9 m_undoable m_undoStart m_thrown m_inputLength m_position m_start m_token m_value m_letters o1.2.1 o1.2.2 m_outputLength m_s m_parsed m_tried m_remembered m_slots m_kept m_away m_input m_halfway m_output)) (c_X12_nameHere l hG D c9 ad m_undoable m_undoStart m_thrown m_inputLength m_position m_start m_token m_value m_letters m_code m_place m_outputLength m_s m_parsed m_tried m_remembered m_slots m_kept m_away m_input m_halfway m_output ho1) 0 (gV wm_166 wm_167 wm_168 wm_37 wm_169) rfl rfl rfl ⟨rfl, pd_X12_nameHere⟩ ⟨Nat.le_of_ble_eq_true rfl, Nat.le_of_ble_eq_true rfl⟩ 0 rfl rfl rfl rfl (Nat.le_of_ble_eq_true rfl) ⟨Nat.zero_le _, Nat.zero_le _⟩ [0, 1, 2, 3, 4, 5, 6, 7, 8, 9, 10] [] [0, 1, 2, 3, 4, 5, 6, 7, 8, 9, 10] rfl rfl rfl rfl dX12_userHere_6 9 rfl ?_
  obtain ⟨o2, ho2, hf⟩ := bnd hf
  refine v_callSi X (As := [.ref (ad 2), .int o1.1]) (rest := [.ref (ad 0)]) (ws' := (wX12 ad c9 m_undoable m_undoStart m_thrown m_inputLength m_position m_start m_token m_value m_letters o1.2.1 o1.2.2 m_outputLength m_s m_parsed m_tried m_remembered m_slots m_kept m_away m_input m_halfway m_output)) (c_X12_userNamed l hG D c9 (ad 2) m_parsed o1.1 ho2) 2 (gS wm_152 wm_153 wm_37 wm_154) rfl rfl rfl pd_X12_userNamed ⟨Nat.le_of_ble_eq_true rfl, Nat.le_of_ble_eq_true rfl⟩ rfl rfl (Nat.le_of_ble_eq_true rfl) ⟨Nat.zero_le _, Nat.zero_le _⟩ [2] [0, 1, 3, 4, 5, 6, 7, 8, 9, 10] [0, 1, 10, 2, 3, 4, 5, 6, 7, 8, 9] rfl rfl rfl rfl dX12_userHere_9 12 rfl ?_
  obtain ⟨o3, ho3, hf⟩ := bnd hf
  refine v_callVi X (ci := 11) (T := TX12) (C := RX12) (As := [.int o2]) (rest := []) (ws' := (wX12 ad c9 m_undoable m_undoStart m_thrown m_inputLength o3.2.1 o3.2.2.1 o3.2.2.2.1 o3.2.2.2.2.1 o3.2.2.2.2.2.1 o3.2.2.2.2.2.2.1 o3.2.2.2.2.2.2.2 m_outputLength m_s m_parsed m_tried m_remembered m_slots m_kept m_away m_input m_halfway m_output)) (c_X12_exists l hG D c9 ad m_undoable m_undoStart m_thrown m_inputLength m_position m_start m_token m_value m_letters o1.2.1 o1.2.2 m_outputLength m_s m_parsed m_tried m_remembered m_slots m_kept m_away m_input m_halfway m_output o2 ho3) 1 (gV wm_170 wm_171 wm_172 wm_37 wm_173) rfl rfl rfl ⟨rfl, pd_X12_exists⟩ ⟨Nat.le_of_ble_eq_true rfl, Nat.le_of_ble_eq_true rfl⟩ 0 rfl rfl rfl rfl (Nat.le_of_ble_eq_true rfl) ⟨Nat.zero_le _, Nat.zero_le _⟩ [0, 1, 2, 3, 4, 5, 6, 7, 8, 9, 10] [] [0, 1, 2, 3, 4, 5, 6, 7, 8, 9, 10] rfl rfl rfl rfl dX12_userHere_12 15 rfl ?_
  obtain rfl := Option.some.inj hf
  exact v_iret X (Nat.zero_le _) (Nat.zero_le _) dX12_userHere_15
theorem pd_X12_userHere : yX12_userHere.cls ≠ "java/lang/invoke/MethodHandle" ∧ yX12_userHere.cls ≠ "java/lang/invoke/VarHandle" ∧ (parseMethodDescriptor yX12_userHere.desc).map (fun d => d.parameters.length) = some 0 := by decide +kernel
def f_X12_serviceHere (m_inputLength : Int32) (m_position : Int32) (m_start : Int32) (m_token : Int32) (m_value : Int32) (m_letters : Int32) (m_code : Int32) (m_place : Int32) (m_parsed : Nat → Int32) (m_input : Nat → Int32) : Option (Int32 × Int32 × Int32 × Int32 × Int32 × Int32 × Int32 × Int32) :=
  (f_X12_nameHere m_start m_token m_letters m_code m_place m_input).bind fun o1 =>
  (f_X12_serviceNamed m_parsed o1.1).bind fun o2 =>
  (f_X12_exists m_inputLength m_position m_start m_token m_value m_letters o1.2.1 o1.2.2 m_input o2).bind fun o3 =>
  some (o3.1, o3.2.1, o3.2.2.1, o3.2.2.2.1, o3.2.2.2.2.1, o3.2.2.2.2.2.1, o3.2.2.2.2.2.2.1, o3.2.2.2.2.2.2.2)
set_option maxRecDepth 100000 in
set_option maxHeartbeats 4000000 in
theorem c_X12_serviceHere (l : Launch) {G : (Nat → Prop) → State → Heap → Prop} (hG : vG G) (D : va_G) (c9 : Nat → ClassId) (ad : Nat → Nat) (m_undoable : Int32) (m_undoStart : Int32) (m_thrown : Int32) (m_inputLength : Int32) (m_position : Int32) (m_start : Int32) (m_token : Int32) (m_value : Int32) (m_letters : Int32) (m_code : Int32) (m_place : Int32) (m_outputLength : Int32) (m_s : Nat → Int32) (m_parsed : Nat → Int32) (m_tried : Nat → Int32) (m_remembered : Nat → Int32) (m_slots : Nat → Int32) (m_kept : Nat → Int32) (m_away : Nat → Int32) (m_input : Nat → Int32) (m_halfway : Nat → Int32) (m_output : Nat → Int32)  {o : Int32 × Int32 × Int32 × Int32 × Int32 × Int32 × Int32 × Int32} (hf : f_X12_serviceHere m_inputLength m_position m_start m_token m_value m_letters m_code m_place m_parsed m_input = some o) : mI l yX12_serviceHere (wq yX12_serviceHere cX12_serviceHere 1 (some .int)) { frames := 5, cells := 0, slots := 0, locals := 104 } G D (tyA c9) [.ref (ad 0)] (wX12 ad c9 m_undoable m_undoStart m_thrown m_inputLength m_position m_start m_token m_value m_letters m_code m_place m_outputLength m_s m_parsed m_tried m_remembered m_slots m_kept m_away m_input m_halfway m_output) [] 0 0 o.1 (wX12 ad c9 m_undoable m_undoStart m_thrown m_inputLength o.2.1 o.2.2.1 o.2.2.2.1 o.2.2.2.2.1 o.2.2.2.2.2.1 o.2.2.2.2.2.2.1 o.2.2.2.2.2.2.2 m_outputLength m_s m_parsed m_tried m_remembered m_slots m_kept m_away m_input m_halfway m_output) := by
  refine mI_of hG (cc := cX12_serviceHere) (maxL := 1) (ty := .int) (by decide) rfl (Nat.le_of_ble_eq_true rfl) ?_
  intro p e s m args below meth c A X
  have X : vX p s m args meth c cX12_serviceHere 1 (some .int) RX12 (wq yX12_serviceHere cX12_serviceHere 1 (some .int)) D (tyA c9) G A := X
  refine v_eq (lv2 := [(0, .ref (ad 0))]) rfl rfl rfl rfl ?_
  rw [f_X12_serviceHere] at hf
  refine v_aload_n X dX12_serviceHere_0 0 rfl rfl 1 rfl ?_
  refine v_aload_n X dX12_serviceHere_1 0 rfl rfl 2 rfl ?_
  refine v_get X (C := RX12) (T := TX12) (N := 22) (ci := 11) (v := _) dX12_serviceHere_2 (lay_of laym_X12) 0 rfl rfl 1 (by decide) (mw wm_162) rfl rfl 5 rfl ?_
  refine v_aload_n X dX12_serviceHere_5 0 rfl rfl 6 rfl ?_
  obtain ⟨o1, ho1, hf⟩ := bnd hf
  refine v_callVi X (ci := 11) (T := TX12) (C := RX12) (As := []) (rest := [.ref (ad 2), .ref (ad 0)]) (ws' := (wX12 ad c9 m_undoable m_undoStart m_thrown m_inputLength m_position m_start m_token m_value m_letters o1.2.1 o1.2.2 m_outputLength m_s m_parsed m_tried m_remembered m_slots m_kept m_away m_input m_halfway m_output)) (c_X12_nameHere l hG D c9 ad m_undoable m_undoStart m_thrown m_inputLength m_position m_start m_token m_value m_letters m_code m_place m_outputLength m_s m_parsed m_tried m_remembered m_slots m_kept m_away m_input m_halfway m_output ho1) 0 (gV wm_166 wm_167 wm_168 wm_37 wm_169) rfl rfl rfl ⟨rfl, pd_X12_nameHere⟩ ⟨Nat.le_of_ble_eq_true rfl, Nat.le_of_ble_eq_true rfl⟩ 0 rfl rfl rfl rfl (Nat.le_of_ble_eq_true rfl) ⟨Nat.zero_le _, Nat.zero_le _⟩ [0, 1, 2, 3, 4, 5, 6, 7, 8, 9, 10] [] [0, 1, 2, 3, 4, 5, 6, 7, 8, 9, 10] rfl rfl rfl rfl dX12_serviceHere_6 9 rfl ?_
  obtain ⟨o2, ho2, hf⟩ := bnd hf
  refine v_callSi X (As := [.ref (ad 2), .int o1.1]) (rest := [.ref (ad 0)]) (ws' := (wX12 ad c9 m_undoable m_undoStart m_thrown m_inputLength m_position m_start m_token m_value m_letters o1.2.1 o1.2.2 m_outputLength m_s m_parsed m_tried m_remembered m_slots m_kept m_away m_input m_halfway m_output)) (c_X12_serviceNamed l hG D c9 (ad 2) m_parsed o1.1 ho2) 2 (gS wm_155 wm_156 wm_37 wm_157) rfl rfl rfl pd_X12_serviceNamed ⟨Nat.le_of_ble_eq_true rfl, Nat.le_of_ble_eq_true rfl⟩ rfl rfl (Nat.le_of_ble_eq_true rfl) ⟨Nat.zero_le _, Nat.zero_le _⟩ [2] [0, 1, 3, 4, 5, 6, 7, 8, 9, 10] [0, 1, 10, 2, 3, 4, 5, 6, 7, 8, 9] rfl rfl rfl rfl dX12_serviceHere_9 12 rfl ?_
  obtain ⟨o3, ho3, hf⟩ := bnd hf
  refine v_callVi X (ci := 11) (T := TX12) (C := RX12) (As := [.int o2]) (rest := []) (ws' := (wX12 ad c9 m_undoable m_undoStart m_thrown m_inputLength o3.2.1 o3.2.2.1 o3.2.2.2.1 o3.2.2.2.2.1 o3.2.2.2.2.2.1 o3.2.2.2.2.2.2.1 o3.2.2.2.2.2.2.2 m_outputLength m_s m_parsed m_tried m_remembered m_slots m_kept m_away m_input m_halfway m_output)) (c_X12_exists l hG D c9 ad m_undoable m_undoStart m_thrown m_inputLength m_position m_start m_token m_value m_letters o1.2.1 o1.2.2 m_outputLength m_s m_parsed m_tried m_remembered m_slots m_kept m_away m_input m_halfway m_output o2 ho3) 1 (gV wm_170 wm_171 wm_172 wm_37 wm_173) rfl rfl rfl ⟨rfl, pd_X12_exists⟩ ⟨Nat.le_of_ble_eq_true rfl, Nat.le_of_ble_eq_true rfl⟩ 0 rfl rfl rfl rfl (Nat.le_of_ble_eq_true rfl) ⟨Nat.zero_le _, Nat.zero_le _⟩ [0, 1, 2, 3, 4, 5, 6, 7, 8, 9, 10] [] [0, 1, 2, 3, 4, 5, 6, 7, 8, 9, 10] rfl rfl rfl rfl dX12_serviceHere_12 15 rfl ?_
  obtain rfl := Option.some.inj hf
  exact v_iret X (Nat.zero_le _) (Nat.zero_le _) dX12_serviceHere_15
theorem pd_X12_serviceHere : yX12_serviceHere.cls ≠ "java/lang/invoke/MethodHandle" ∧ yX12_serviceHere.cls ≠ "java/lang/invoke/VarHandle" ∧ (parseMethodDescriptor yX12_serviceHere.desc).map (fun d => d.parameters.length) = some 0 := by decide +kernel
def f_X12_ticketHere (m_inputLength : Int32) (m_position : Int32) (m_start : Int32) (m_token : Int32) (m_value : Int32) (m_letters : Int32) (m_code : Int32) (m_place : Int32) (m_parsed : Nat → Int32) (m_input : Nat → Int32) : Option (Int32 × Int32 × Int32 × Int32 × Int32 × Int32 × Int32 × Int32) :=
  Option.bind (if m_token = 2 then (
    some (1))
  else (
    some (0)) : Option (Int32)) fun j1 =>
  (f_X12_check m_start m_code m_place j1 1).bind fun o2 =>
  if o2.2.1 = 0 then (
    (f_X12_find m_parsed m_value).bind fun o4 =>
    (f_X12_exists m_inputLength m_position m_start m_token m_value m_letters o2.2.1 o2.2.2 m_input o4).bind fun o5 =>
    some (o5.1, o5.2.1, o5.2.2.1, o5.2.2.2.1, o5.2.2.2.2.1, o5.2.2.2.2.2.1, o5.2.2.2.2.2.2.1, o5.2.2.2.2.2.2.2))
  else (
    (f_X12_exists m_inputLength m_position m_start m_token m_value m_letters o2.2.1 o2.2.2 m_input 0).bind fun o3 =>
    some (o3.1, o3.2.1, o3.2.2.1, o3.2.2.2.1, o3.2.2.2.2.1, o3.2.2.2.2.2.1, o3.2.2.2.2.2.2.1, o3.2.2.2.2.2.2.2))
set_option maxRecDepth 100000 in
set_option maxHeartbeats 4000000 in
theorem c_X12_ticketHere (l : Launch) {G : (Nat → Prop) → State → Heap → Prop} (hG : vG G) (D : va_G) (c9 : Nat → ClassId) (ad : Nat → Nat) (m_undoable : Int32) (m_undoStart : Int32) (m_thrown : Int32) (m_inputLength : Int32) (m_position : Int32) (m_start : Int32) (m_token : Int32) (m_value : Int32) (m_letters : Int32) (m_code : Int32) (m_place : Int32) (m_outputLength : Int32) (m_s : Nat → Int32) (m_parsed : Nat → Int32) (m_tried : Nat → Int32) (m_remembered : Nat → Int32) (m_slots : Nat → Int32) (m_kept : Nat → Int32) (m_away : Nat → Int32) (m_input : Nat → Int32) (m_halfway : Nat → Int32) (m_output : Nat → Int32)  {o : Int32 × Int32 × Int32 × Int32 × Int32 × Int32 × Int32 × Int32} (hf : f_X12_ticketHere m_inputLength m_position m_start m_token m_value m_letters m_code m_place m_parsed m_input = some o) : mI l yX12_ticketHere (wq yX12_ticketHere cX12_ticketHere 1 (some .int)) { frames := 5, cells := 0, slots := 0, locals := 104 } G D (tyA c9) [.ref (ad 0)] (wX12 ad c9 m_undoable m_undoStart m_thrown m_inputLength m_position m_start m_token m_value m_letters m_code m_place m_outputLength m_s m_parsed m_tried m_remembered m_slots m_kept m_away m_input m_halfway m_output) [] 0 0 o.1 (wX12 ad c9 m_undoable m_undoStart m_thrown m_inputLength o.2.1 o.2.2.1 o.2.2.2.1 o.2.2.2.2.1 o.2.2.2.2.2.1 o.2.2.2.2.2.2.1 o.2.2.2.2.2.2.2 m_outputLength m_s m_parsed m_tried m_remembered m_slots m_kept m_away m_input m_halfway m_output) := by
  refine mI_of hG (cc := cX12_ticketHere) (maxL := 1) (ty := .int) (by decide) rfl (Nat.le_of_ble_eq_true rfl) ?_
  intro p e s m args below meth c A X
  have X : vX p s m args meth c cX12_ticketHere 1 (some .int) RX12 (wq yX12_ticketHere cX12_ticketHere 1 (some .int)) D (tyA c9) G A := X
  refine v_eq (lv2 := [(0, .ref (ad 0))]) rfl rfl rfl rfl ?_
  rw [f_X12_ticketHere] at hf
  refine v_aload_n X dX12_ticketHere_0 0 rfl rfl 1 rfl ?_
  refine v_aload_n X dX12_ticketHere_1 0 rfl rfl 2 rfl ?_
  refine v_get X (C := RX12) (T := TX12) (N := 22) (ci := 11) (v := _) dX12_ticketHere_2 (lay_of laym_X12) 0 rfl rfl 14 (by decide) (mw wm_131) rfl rfl 5 rfl ?_
  refine v_iconst X dX12_ticketHere_5 ic_2 6 rfl ?_
  obtain ⟨j1, hj1, hf⟩ := bnd hf
  have Jj1 : vW p l e { frames := 5, cells := 0, slots := 0, locals := 104 } s m args below meth c 1 D A [] 0 0 (MQ below (eI D (tyA c9) A o.1 ((wX12 ad c9 m_undoable m_undoStart m_thrown m_inputLength o.2.1 o.2.2.1 o.2.2.2.1 o.2.2.2.2.1 o.2.2.2.2.2.1 o.2.2.2.2.2.2.1 o.2.2.2.2.2.2.2 m_outputLength m_s m_parsed m_tried m_remembered m_slots m_kept m_away m_input m_halfway m_output) ++ [])) args s 0 0 A) (wX12 ad c9 m_undoable m_undoStart m_thrown m_inputLength m_position m_start m_token m_value m_letters m_code m_place m_outputLength m_s m_parsed m_tried m_remembered m_slots m_kept m_away m_input m_halfway m_output) 14 [(0, .ref (ad 0))] [.int j1, .ref (ad 0)] := by
    refine v_iconst X dX12_ticketHere_14 ic_1 15 rfl ?_
    obtain ⟨o2, ho2, hf⟩ := bnd hf
    refine v_callVi X (ci := 11) (T := TX12) (C := RX12) (As := [.int j1, .int 1]) (rest := []) (ws' := (wX12 ad c9 m_undoable m_undoStart m_thrown m_inputLength m_position m_start m_token m_value m_letters o2.2.1 o2.2.2 m_outputLength m_s m_parsed m_tried m_remembered m_slots m_kept m_away m_input m_halfway m_output)) (c_X12_check l hG D c9 ad m_undoable m_undoStart m_thrown m_inputLength m_position m_start m_token m_value m_letters m_code m_place m_outputLength m_s m_parsed m_tried m_remembered m_slots m_kept m_away m_input m_halfway m_output j1 1 ho2) 2 (gV wm_137 wm_138 wm_139 wm_37 wm_140) rfl rfl rfl ⟨rfl, pd_X12_check⟩ ⟨Nat.le_of_ble_eq_true rfl, Nat.le_of_ble_eq_true rfl⟩ 0 rfl rfl rfl rfl (Nat.le_of_ble_eq_true rfl) ⟨Nat.zero_le _, Nat.zero_le _⟩ [0, 1, 2, 3, 4, 5, 6, 7, 8, 9, 10] [] [0, 1, 2, 3, 4, 5, 6, 7, 8, 9, 10] rfl rfl rfl rfl dX12_ticketHere_15 18 rfl ?_
    refine v_pop X dX12_ticketHere_18 rfl 19 rfl ?_
    refine v_aload_n X dX12_ticketHere_19 0 rfl rfl 20 rfl ?_
    refine v_aload_n X dX12_ticketHere_20 0 rfl rfl 21 rfl ?_
    refine v_get X (C := RX12) (T := TX12) (N := 22) (ci := 11) (v := _) dX12_ticketHere_21 (lay_of laym_X12) 0 rfl rfl 17 (by decide) (mw wm_118) rfl rfl 24 rfl ?_
    refine v_if_ne X (tgt := 41) dX12_ticketHere_24 rfl 27 rfl hf (fun hf => ?_) (fun hf => ?_)
    · refine v_iconst X dX12_ticketHere_41 ic_0 42 rfl ?_
      obtain ⟨o3, ho3, hf⟩ := bnd hf
      refine v_callVi X (ci := 11) (T := TX12) (C := RX12) (As := [.int 0]) (rest := []) (ws' := (wX12 ad c9 m_undoable m_undoStart m_thrown m_inputLength o3.2.1 o3.2.2.1 o3.2.2.2.1 o3.2.2.2.2.1 o3.2.2.2.2.2.1 o3.2.2.2.2.2.2.1 o3.2.2.2.2.2.2.2 m_outputLength m_s m_parsed m_tried m_remembered m_slots m_kept m_away m_input m_halfway m_output)) (c_X12_exists l hG D c9 ad m_undoable m_undoStart m_thrown m_inputLength m_position m_start m_token m_value m_letters o2.2.1 o2.2.2 m_outputLength m_s m_parsed m_tried m_remembered m_slots m_kept m_away m_input m_halfway m_output 0 ho3) 1 (gV wm_170 wm_171 wm_172 wm_37 wm_173) rfl rfl rfl ⟨rfl, pd_X12_exists⟩ ⟨Nat.le_of_ble_eq_true rfl, Nat.le_of_ble_eq_true rfl⟩ 0 rfl rfl rfl rfl (Nat.le_of_ble_eq_true rfl) ⟨Nat.zero_le _, Nat.zero_le _⟩ [0, 1, 2, 3, 4, 5, 6, 7, 8, 9, 10] [] [0, 1, 2, 3, 4, 5, 6, 7, 8, 9, 10] rfl rfl rfl rfl dX12_ticketHere_42 45 rfl ?_
      obtain rfl := Option.some.inj hf
      exact v_iret X (Nat.zero_le _) (Nat.zero_le _) dX12_ticketHere_45
    · refine v_aload_n X dX12_ticketHere_27 0 rfl rfl 28 rfl ?_
      refine v_get X (C := RX12) (T := TX12) (N := 22) (ci := 11) (v := _) dX12_ticketHere_28 (lay_of laym_X12) 0 rfl rfl 1 (by decide) (mw wm_162) rfl rfl 31 rfl ?_
      refine v_aload_n X dX12_ticketHere_31 0 rfl rfl 32 rfl ?_
      refine v_get X (C := RX12) (T := TX12) (N := 22) (ci := 11) (v := _) dX12_ticketHere_32 (lay_of laym_X12) 0 rfl rfl 15 (by decide) (mw wm_127) rfl rfl 35 rfl ?_
      obtain ⟨o4, ho4, hf⟩ := bnd hf
      refine v_callSi X (As := [.ref (ad 2), .int m_value]) (rest := [.ref (ad 0)]) (ws' := (wX12 ad c9 m_undoable m_undoStart m_thrown m_inputLength m_position m_start m_token m_value m_letters o2.2.1 o2.2.2 m_outputLength m_s m_parsed m_tried m_remembered m_slots m_kept m_away m_input m_halfway m_output)) (c_X12_find l hG D c9 (ad 2) m_parsed m_value ho4) 2 (gS wm_174 wm_175 wm_37 wm_176) rfl rfl rfl pd_X12_find ⟨Nat.le_of_ble_eq_true rfl, Nat.le_of_ble_eq_true rfl⟩ rfl rfl (Nat.le_of_ble_eq_true rfl) ⟨Nat.zero_le _, Nat.zero_le _⟩ [2] [0, 1, 3, 4, 5, 6, 7, 8, 9, 10] [0, 1, 10, 2, 3, 4, 5, 6, 7, 8, 9] rfl rfl rfl rfl dX12_ticketHere_35 38 rfl ?_
      refine v_goto X (tgt := 42) dX12_ticketHere_38 rfl ?_
      obtain ⟨o5, ho5, hf⟩ := bnd hf
      refine v_callVi X (ci := 11) (T := TX12) (C := RX12) (As := [.int o4]) (rest := []) (ws' := (wX12 ad c9 m_undoable m_undoStart m_thrown m_inputLength o5.2.1 o5.2.2.1 o5.2.2.2.1 o5.2.2.2.2.1 o5.2.2.2.2.2.1 o5.2.2.2.2.2.2.1 o5.2.2.2.2.2.2.2 m_outputLength m_s m_parsed m_tried m_remembered m_slots m_kept m_away m_input m_halfway m_output)) (c_X12_exists l hG D c9 ad m_undoable m_undoStart m_thrown m_inputLength m_position m_start m_token m_value m_letters o2.2.1 o2.2.2 m_outputLength m_s m_parsed m_tried m_remembered m_slots m_kept m_away m_input m_halfway m_output o4 ho5) 1 (gV wm_170 wm_171 wm_172 wm_37 wm_173) rfl rfl rfl ⟨rfl, pd_X12_exists⟩ ⟨Nat.le_of_ble_eq_true rfl, Nat.le_of_ble_eq_true rfl⟩ 0 rfl rfl rfl rfl (Nat.le_of_ble_eq_true rfl) ⟨Nat.zero_le _, Nat.zero_le _⟩ [0, 1, 2, 3, 4, 5, 6, 7, 8, 9, 10] [] [0, 1, 2, 3, 4, 5, 6, 7, 8, 9, 10] rfl rfl rfl rfl dX12_ticketHere_42 45 rfl ?_
      obtain rfl := Option.some.inj hf
      exact v_iret X (Nat.zero_le _) (Nat.zero_le _) dX12_ticketHere_45
  clear hf
  refine v_icmp_ne X (tgt := 13) dX12_ticketHere_6 rfl 9 rfl hj1 (fun hf => ?_) (fun hf => ?_)
  · refine v_iconst X dX12_ticketHere_13 ic_0 14 rfl ?_
    obtain rfl := Option.some.inj hf
    exact Jj1
  · refine v_iconst X dX12_ticketHere_9 ic_1 10 rfl ?_
    refine v_goto X (tgt := 14) dX12_ticketHere_10 rfl ?_
    obtain rfl := Option.some.inj hf
    exact Jj1
theorem pd_X12_ticketHere : yX12_ticketHere.cls ≠ "java/lang/invoke/MethodHandle" ∧ yX12_ticketHere.cls ≠ "java/lang/invoke/VarHandle" ∧ (parseMethodDescriptor yX12_ticketHere.desc).map (fun d => d.parameters.length) = some 0 := by decide +kernel
def f_X12_clockHere (m_inputLength : Int32) (m_position : Int32) (m_start : Int32) (m_token : Int32) (m_value : Int32) (m_letters : Int32) (m_code : Int32) (m_place : Int32) (m_input : Nat → Int32) : Option (Int32 × Int32 × Int32 × Int32 × Int32 × Int32 × Int32 × Int32) :=
  (f_X12_is m_start m_token m_letters m_input 6).bind fun o1 =>
  (f_X12_is m_start m_token m_letters m_input 7).bind fun o2 =>
  Option.bind (if o1 = 0 then (
    if o2 = 0 then (
      (f_X12_is m_start m_token m_letters m_input 8).bind fun o4 =>
      if o4 = 0 then (
        some (0))
      else (
        some (1)))
    else (
      some (1)))
  else (
    some (1)) : Option (Int32)) fun j3 =>
  (f_X12_check m_start m_code m_place j3 1).bind fun o5 =>
  (f_X12_next m_inputLength m_position m_start m_token m_value m_letters o5.2.1 m_input).bind fun o6 =>
  Option.bind (if o2 = 0 then (
    (f_X12_number m_inputLength o6.1 o6.2.1 o6.2.2.1 o6.2.2.2.1 o6.2.2.2.2 o5.2.1 o5.2.2 m_input 1 9).bind fun o8 =>
    some (o8.1, o8.2.1, o8.2.2.1, o8.2.2.2.1, o8.2.2.2.2.1, o8.2.2.2.2.2.1, o8.2.2.2.2.2.2.1, o8.2.2.2.2.2.2.2))
  else (
    some (0, o6.1, o6.2.1, o6.2.2.1, o6.2.2.2.1, o6.2.2.2.2, o5.2.1, o5.2.2)) : Option (Int32 × Int32 × Int32 × Int32 × Int32 × Int32 × Int32 × Int32)) fun j7 =>
  if o1 = 0 then (
    some ((-j7.1), j7.2.1, j7.2.2.1, j7.2.2.2.1, j7.2.2.2.2.1, j7.2.2.2.2.2.1, j7.2.2.2.2.2.2.1, j7.2.2.2.2.2.2.2))
  else (
    some (j7.1, j7.2.1, j7.2.2.1, j7.2.2.2.1, j7.2.2.2.2.1, j7.2.2.2.2.2.1, j7.2.2.2.2.2.2.1, j7.2.2.2.2.2.2.2))
set_option maxRecDepth 100000 in
set_option maxHeartbeats 4000000 in
theorem c_X12_clockHere (l : Launch) {G : (Nat → Prop) → State → Heap → Prop} (hG : vG G) (D : va_G) (c9 : Nat → ClassId) (sk sv : Nat → Nat) (hGU : ∀ (A : Nat → Prop) (U : State) (H : Heap), G A U H → vU sk sv A U H) (ad : Nat → Nat) (m_undoable : Int32) (m_undoStart : Int32) (m_thrown : Int32) (m_inputLength : Int32) (m_position : Int32) (m_start : Int32) (m_token : Int32) (m_value : Int32) (m_letters : Int32) (m_code : Int32) (m_place : Int32) (m_outputLength : Int32) (m_s : Nat → Int32) (m_parsed : Nat → Int32) (m_tried : Nat → Int32) (m_remembered : Nat → Int32) (m_slots : Nat → Int32) (m_kept : Nat → Int32) (m_away : Nat → Int32) (m_input : Nat → Int32) (m_halfway : Nat → Int32) (m_output : Nat → Int32)  {o : Int32 × Int32 × Int32 × Int32 × Int32 × Int32 × Int32 × Int32} (hf : f_X12_clockHere m_inputLength m_position m_start m_token m_value m_letters m_code m_place m_input = some o) : mI l yX12_clockHere (wq yX12_clockHere cX12_clockHere 4 (some .int)) { frames := 6, cells := 0, slots := 0, locals := 172 } G D (tyA c9) [.ref (ad 0)] (wX12 ad c9 m_undoable m_undoStart m_thrown m_inputLength m_position m_start m_token m_value m_letters m_code m_place m_outputLength m_s m_parsed m_tried m_remembered m_slots m_kept m_away m_input m_halfway m_output) [] 0 0 o.1 (wX12 ad c9 m_undoable m_undoStart m_thrown m_inputLength o.2.1 o.2.2.1 o.2.2.2.1 o.2.2.2.2.1 o.2.2.2.2.2.1 o.2.2.2.2.2.2.1 o.2.2.2.2.2.2.2 m_outputLength m_s m_parsed m_tried m_remembered m_slots m_kept m_away m_input m_halfway m_output) := by
  refine mI_of hG (cc := cX12_clockHere) (maxL := 4) (ty := .int) (by decide) rfl (Nat.le_of_ble_eq_true rfl) ?_
  intro p e s m args below meth c A X
  have X : vX p s m args meth c cX12_clockHere 4 (some .int) RX12 (wq yX12_clockHere cX12_clockHere 4 (some .int)) D (tyA c9) G A := X
  refine v_eq (lv2 := [(0, .ref (ad 0))]) rfl rfl rfl rfl ?_
  rw [f_X12_clockHere] at hf
  refine v_aload_n X dX12_clockHere_0 0 rfl rfl 1 rfl ?_
  refine v_lds X hGU (i := 6) dX12_clockHere_1 js_RX12_229 3 rfl ?_
  obtain ⟨o1, ho1, hf⟩ := bnd hf
  refine v_callVi X (ci := 11) (T := TX12) (C := RX12) (As := [.ref (sk 6)]) (rest := []) (ws' := (wX12 ad c9 m_undoable m_undoStart m_thrown m_inputLength m_position m_start m_token m_value m_letters m_code m_place m_outputLength m_s m_parsed m_tried m_remembered m_slots m_kept m_away m_input m_halfway m_output)) (c_X12_is l hG D c9 sk sv hGU ad m_undoable m_undoStart m_thrown m_inputLength m_position m_start m_token m_value m_letters m_code m_place m_outputLength m_s m_parsed m_tried m_remembered m_slots m_kept m_away m_input m_halfway m_output 6 (by decide) ho1) 1 (gV wm_177 wm_178 wm_179 wm_37 wm_180) rfl rfl rfl ⟨rfl, pd_X12_is⟩ ⟨Nat.le_of_ble_eq_true rfl, Nat.le_of_ble_eq_true rfl⟩ 0 rfl rfl rfl rfl (Nat.le_of_ble_eq_true rfl) ⟨Nat.zero_le _, Nat.zero_le _⟩ [0, 1, 2, 3, 4, 5, 6, 7, 8, 9, 10] [] [0, 1, 2, 3, 4, 5, 6, 7, 8, 9, 10] rfl rfl rfl rfl dX12_clockHere_3 6 rfl ?_
  refine v_istore_n X (lv' := [(1, .int o1), (0, .ref (ad 0))]) dX12_clockHere_6 rfl (by decide) rfl 7 rfl ?_
  refine v_aload_n X dX12_clockHere_7 1 rfl rfl 8 rfl ?_
  refine v_lds X hGU (i := 7) dX12_clockHere_8 js_RX12_235 10 rfl ?_
  obtain ⟨o2, ho2, hf⟩ := bnd hf
  refine v_callVi X (ci := 11) (T := TX12) (C := RX12) (As := [.ref (sk 7)]) (rest := []) (ws' := (wX12 ad c9 m_undoable m_undoStart m_thrown m_inputLength m_position m_start m_token m_value m_letters m_code m_place m_outputLength m_s m_parsed m_tried m_remembered m_slots m_kept m_away m_input m_halfway m_output)) (c_X12_is l hG D c9 sk sv hGU ad m_undoable m_undoStart m_thrown m_inputLength m_position m_start m_token m_value m_letters m_code m_place m_outputLength m_s m_parsed m_tried m_remembered m_slots m_kept m_away m_input m_halfway m_output 7 (by decide) ho2) 1 (gV wm_177 wm_178 wm_179 wm_37 wm_180) rfl rfl rfl ⟨rfl, pd_X12_is⟩ ⟨Nat.le_of_ble_eq_true rfl, Nat.le_of_ble_eq_true rfl⟩ 0 rfl rfl rfl rfl (Nat.le_of_ble_eq_true rfl) ⟨Nat.zero_le _, Nat.zero_le _⟩ [0, 1, 2, 3, 4, 5, 6, 7, 8, 9, 10] [] [0, 1, 2, 3, 4, 5, 6, 7, 8, 9, 10] rfl rfl rfl rfl dX12_clockHere_10 13 rfl ?_
  refine v_istore_n X (lv' := [(2, .int o2), (1, .int o1), (0, .ref (ad 0))]) dX12_clockHere_13 rfl (by decide) rfl 14 rfl ?_
  refine v_aload_n X dX12_clockHere_14 2 rfl rfl 15 rfl ?_
  refine v_iload_n X dX12_clockHere_15 1 rfl rfl 16 rfl ?_
  obtain ⟨j3, hj3, hf⟩ := bnd hf
  have Jj3 : vW p l e { frames := 6, cells := 0, slots := 0, locals := 172 } s m args below meth c 4 D A [] 0 0 (MQ below (eI D (tyA c9) A o.1 ((wX12 ad c9 m_undoable m_undoStart m_thrown m_inputLength o.2.1 o.2.2.1 o.2.2.2.1 o.2.2.2.2.1 o.2.2.2.2.2.1 o.2.2.2.2.2.2.1 o.2.2.2.2.2.2.2 m_outputLength m_s m_parsed m_tried m_remembered m_slots m_kept m_away m_input m_halfway m_output) ++ [])) args s 0 0 A) (wX12 ad c9 m_undoable m_undoStart m_thrown m_inputLength m_position m_start m_token m_value m_letters m_code m_place m_outputLength m_s m_parsed m_tried m_remembered m_slots m_kept m_away m_input m_halfway m_output) 37 [(0, .ref (ad 0)), (1, .int o1), (2, .int o2)] [.int j3, .ref (ad 0)] := by
    refine v_iconst X dX12_clockHere_37 ic_1 38 rfl ?_
    obtain ⟨o5, ho5, hf⟩ := bnd hf
    refine v_callVi X (ci := 11) (T := TX12) (C := RX12) (As := [.int j3, .int 1]) (rest := []) (ws' := (wX12 ad c9 m_undoable m_undoStart m_thrown m_inputLength m_position m_start m_token m_value m_letters o5.2.1 o5.2.2 m_outputLength m_s m_parsed m_tried m_remembered m_slots m_kept m_away m_input m_halfway m_output)) (c_X12_check l hG D c9 ad m_undoable m_undoStart m_thrown m_inputLength m_position m_start m_token m_value m_letters m_code m_place m_outputLength m_s m_parsed m_tried m_remembered m_slots m_kept m_away m_input m_halfway m_output j3 1 ho5) 2 (gV wm_137 wm_138 wm_139 wm_37 wm_140) rfl rfl rfl ⟨rfl, pd_X12_check⟩ ⟨Nat.le_of_ble_eq_true rfl, Nat.le_of_ble_eq_true rfl⟩ 0 rfl rfl rfl rfl (Nat.le_of_ble_eq_true rfl) ⟨Nat.zero_le _, Nat.zero_le _⟩ [0, 1, 2, 3, 4, 5, 6, 7, 8, 9, 10] [] [0, 1, 2, 3, 4, 5, 6, 7, 8, 9, 10] rfl rfl rfl rfl dX12_clockHere_38 41 rfl ?_
    refine v_pop X dX12_clockHere_41 rfl 42 rfl ?_
    refine v_aload_n X dX12_clockHere_42 0 rfl rfl 43 rfl ?_
    obtain ⟨o6, ho6, hf⟩ := bnd hf
    refine v_callVv X (ci := 11) (T := TX12) (C := RX12) (As := []) (rest := []) (ws' := (wX12 ad c9 m_undoable m_undoStart m_thrown m_inputLength o6.1 o6.2.1 o6.2.2.1 o6.2.2.2.1 o6.2.2.2.2 o5.2.1 o5.2.2 m_outputLength m_s m_parsed m_tried m_remembered m_slots m_kept m_away m_input m_halfway m_output)) (c_X12_next l hG D c9 ad m_undoable m_undoStart m_thrown m_inputLength m_position m_start m_token m_value m_letters o5.2.1 o5.2.2 m_outputLength m_s m_parsed m_tried m_remembered m_slots m_kept m_away m_input m_halfway m_output ho6) 0 (gV wm_141 wm_142 wm_143 wm_37 wm_144) rfl rfl rfl ⟨rfl, pd_X12_next⟩ ⟨Nat.le_of_ble_eq_true rfl, Nat.le_of_ble_eq_true rfl⟩ 0 rfl rfl rfl rfl (Nat.le_of_ble_eq_true rfl) ⟨Nat.zero_le _, Nat.zero_le _⟩ [0, 1, 2, 3, 4, 5, 6, 7, 8, 9, 10] [] [0, 1, 2, 3, 4, 5, 6, 7, 8, 9, 10] rfl rfl rfl rfl dX12_clockHere_43 46 rfl ?_
    refine v_iload_n X dX12_clockHere_46 2 rfl rfl 47 rfl ?_
    obtain ⟨j7, hj7, hf⟩ := bnd hf
    have Jj7 : vW p l e { frames := 6, cells := 0, slots := 0, locals := 172 } s m args below meth c 4 D A [] 0 0 (MQ below (eI D (tyA c9) A o.1 ((wX12 ad c9 m_undoable m_undoStart m_thrown m_inputLength o.2.1 o.2.2.1 o.2.2.2.1 o.2.2.2.2.1 o.2.2.2.2.2.1 o.2.2.2.2.2.2.1 o.2.2.2.2.2.2.2 m_outputLength m_s m_parsed m_tried m_remembered m_slots m_kept m_away m_input m_halfway m_output) ++ [])) args s 0 0 A) (wX12 ad c9 m_undoable m_undoStart m_thrown m_inputLength j7.2.1 j7.2.2.1 j7.2.2.2.1 j7.2.2.2.2.1 j7.2.2.2.2.2.1 j7.2.2.2.2.2.2.1 j7.2.2.2.2.2.2.2 m_outputLength m_s m_parsed m_tried m_remembered m_slots m_kept m_away m_input m_halfway m_output) 61 [(1, .int o1)] [.int j7.1] := by
      refine v_istore_n X (lv' := [(3, .int j7.1), (1, .int o1)]) dX12_clockHere_61 rfl (by decide) rfl 62 rfl ?_
      refine v_iload_n X dX12_clockHere_62 1 rfl rfl 63 rfl ?_
      refine v_if_eq X (tgt := 70) dX12_clockHere_63 rfl 66 rfl hf (fun hf => ?_) (fun hf => ?_)
      · refine v_iload_n X dX12_clockHere_70 0 rfl rfl 71 rfl ?_
        refine v_ineg X dX12_clockHere_71 72 rfl ?_
        obtain rfl := Option.some.inj hf
        exact v_iret X (Nat.zero_le _) (Nat.zero_le _) dX12_clockHere_72
      · refine v_iload_n X dX12_clockHere_66 0 rfl rfl 67 rfl ?_
        refine v_goto X (tgt := 72) dX12_clockHere_67 rfl ?_
        obtain rfl := Option.some.inj hf
        exact v_iret X (Nat.zero_le _) (Nat.zero_le _) dX12_clockHere_72
    clear hf
    refine v_if_eq X (tgt := 54) dX12_clockHere_47 rfl 50 rfl hj7 (fun hf => ?_) (fun hf => ?_)
    · refine v_aload_n X dX12_clockHere_54 0 rfl rfl 55 rfl ?_
      refine v_iconst X dX12_clockHere_55 ic_1 56 rfl ?_
      refine v_bipush X dX12_clockHere_56 bp_9 58 rfl ?_
      obtain ⟨o8, ho8, hf⟩ := bnd hf
      refine v_callVi X (ci := 11) (T := TX12) (C := RX12) (As := [.int 1, .int 9]) (rest := []) (ws' := (wX12 ad c9 m_undoable m_undoStart m_thrown m_inputLength o8.2.1 o8.2.2.1 o8.2.2.2.1 o8.2.2.2.2.1 o8.2.2.2.2.2.1 o8.2.2.2.2.2.2.1 o8.2.2.2.2.2.2.2 m_outputLength m_s m_parsed m_tried m_remembered m_slots m_kept m_away m_input m_halfway m_output)) (c_X12_number l hG D c9 ad m_undoable m_undoStart m_thrown m_inputLength o6.1 o6.2.1 o6.2.2.1 o6.2.2.2.1 o6.2.2.2.2 o5.2.1 o5.2.2 m_outputLength m_s m_parsed m_tried m_remembered m_slots m_kept m_away m_input m_halfway m_output 1 9 ho8) 2 (gV wm_181 wm_182 wm_183 wm_37 wm_184) rfl rfl rfl ⟨rfl, pd_X12_number⟩ ⟨Nat.le_of_ble_eq_true rfl, Nat.le_of_ble_eq_true rfl⟩ 0 rfl rfl rfl rfl (Nat.le_of_ble_eq_true rfl) ⟨Nat.zero_le _, Nat.zero_le _⟩ [0, 1, 2, 3, 4, 5, 6, 7, 8, 9, 10] [] [0, 1, 2, 3, 4, 5, 6, 7, 8, 9, 10] rfl rfl rfl rfl dX12_clockHere_58 61 rfl ?_
      obtain rfl := Option.some.inj hf
      refine v_sub (lv' := [(1, .int o1)]) [1] rfl ?_
      exact Jj7
    · refine v_iconst X dX12_clockHere_50 ic_0 51 rfl ?_
      refine v_goto X (tgt := 61) dX12_clockHere_51 rfl ?_
      obtain rfl := Option.some.inj hf
      refine v_sub (lv' := [(1, .int o1)]) [1] rfl ?_
      exact Jj7
  clear hf
  refine v_if_ne X (tgt := 32) dX12_clockHere_16 rfl 19 rfl hj3 (fun hf => ?_) (fun hf => ?_)
  · refine v_iconst X dX12_clockHere_32 ic_1 33 rfl ?_
    refine v_goto X (tgt := 37) dX12_clockHere_33 rfl ?_
    obtain rfl := Option.some.inj hf
    refine v_sub (lv' := [(0, .ref (ad 0)), (1, .int o1), (2, .int o2)]) [2, 1, 0] rfl ?_
    exact Jj3
  · refine v_iload_n X dX12_clockHere_19 0 rfl rfl 20 rfl ?_
    refine v_if_ne X (tgt := 32) dX12_clockHere_20 rfl 23 rfl hf (fun hf => ?_) (fun hf => ?_)
    · refine v_iconst X dX12_clockHere_32 ic_1 33 rfl ?_
      refine v_goto X (tgt := 37) dX12_clockHere_33 rfl ?_
      obtain rfl := Option.some.inj hf
      refine v_sub (lv' := [(0, .ref (ad 0)), (1, .int o1), (2, .int o2)]) [2, 1, 0] rfl ?_
      exact Jj3
    · refine v_aload_n X dX12_clockHere_23 2 rfl rfl 24 rfl ?_
      refine v_lds X hGU (i := 8) dX12_clockHere_24 js_RX12_237 26 rfl ?_
      obtain ⟨o4, ho4, hf⟩ := bnd hf
      refine v_callVi X (ci := 11) (T := TX12) (C := RX12) (As := [.ref (sk 8)]) (rest := [.ref (ad 0)]) (ws' := (wX12 ad c9 m_undoable m_undoStart m_thrown m_inputLength m_position m_start m_token m_value m_letters m_code m_place m_outputLength m_s m_parsed m_tried m_remembered m_slots m_kept m_away m_input m_halfway m_output)) (c_X12_is l hG D c9 sk sv hGU ad m_undoable m_undoStart m_thrown m_inputLength m_position m_start m_token m_value m_letters m_code m_place m_outputLength m_s m_parsed m_tried m_remembered m_slots m_kept m_away m_input m_halfway m_output 8 (by decide) ho4) 1 (gV wm_177 wm_178 wm_179 wm_37 wm_180) rfl rfl rfl ⟨rfl, pd_X12_is⟩ ⟨Nat.le_of_ble_eq_true rfl, Nat.le_of_ble_eq_true rfl⟩ 0 rfl rfl rfl rfl (Nat.le_of_ble_eq_true rfl) ⟨Nat.zero_le _, Nat.zero_le _⟩ [0, 1, 2, 3, 4, 5, 6, 7, 8, 9, 10] [] [0, 1, 2, 3, 4, 5, 6, 7, 8, 9, 10] rfl rfl rfl rfl dX12_clockHere_26 29 rfl ?_
      refine v_if_eq X (tgt := 36) dX12_clockHere_29 rfl 32 rfl hf (fun hf => ?_) (fun hf => ?_)
      · refine v_iconst X dX12_clockHere_36 ic_0 37 rfl ?_
        obtain rfl := Option.some.inj hf
        refine v_sub (lv' := [(0, .ref (ad 0)), (1, .int o1), (2, .int o2)]) [2, 1, 0] rfl ?_
        exact Jj3
      · refine v_iconst X dX12_clockHere_32 ic_1 33 rfl ?_
        refine v_goto X (tgt := 37) dX12_clockHere_33 rfl ?_
        obtain rfl := Option.some.inj hf
        refine v_sub (lv' := [(0, .ref (ad 0)), (1, .int o1), (2, .int o2)]) [2, 1, 0] rfl ?_
        exact Jj3
theorem pd_X12_clockHere : yX12_clockHere.cls ≠ "java/lang/invoke/MethodHandle" ∧ yX12_clockHere.cls ≠ "java/lang/invoke/VarHandle" ∧ (parseMethodDescriptor yX12_clockHere.desc).map (fun d => d.parameters.length) = some 0 := by decide +kernel
def f_X12_readRealm (m_inputLength : Int32) (m_position : Int32) (m_start : Int32) (m_token : Int32) (m_value : Int32) (m_letters : Int32) (m_code : Int32) (m_place : Int32) (m_parsed : Nat → Int32) (m_input : Nat → Int32) : Option (Int32 × Int32 × Int32 × Int32 × Int32 × Int32 × Int32 × (Nat → Int32)) :=
  (rd m_parsed 463 3).bind fun x1 =>
  Option.bind (if 5 ≤ x1 then (
    some (0))
  else (
    some (1)) : Option (Int32)) fun j2 =>
  (f_X12_check m_start m_code m_place j2 5).bind fun o3 =>
  (f_X12_next m_inputLength m_position m_start m_token m_value m_letters o3.2.1 m_input).bind fun o4 =>
  (f_X12_newName m_inputLength o4.1 o4.2.1 o4.2.2.1 o4.2.2.2.1 o4.2.2.2.2 o3.2.1 o3.2.2 m_parsed m_input).bind fun o5 =>
  (f_X12_number m_inputLength o5.2.1 o5.2.2.1 o5.2.2.2.1 o5.2.2.2.2.1 o5.2.2.2.2.2.1 o5.2.2.2.2.2.2.1 o5.2.2.2.2.2.2.2 m_input 1 999).bind fun o6 =>
  (f_X12_number m_inputLength o6.2.1 o6.2.2.1 o6.2.2.2.1 o6.2.2.2.2.1 o6.2.2.2.2.2.1 o6.2.2.2.2.2.2.1 o6.2.2.2.2.2.2.2 m_input 0 9999).bind fun o7 =>
  (f_X12_clockHere m_inputLength o7.2.1 o7.2.2.1 o7.2.2.2.1 o7.2.2.2.2.1 o7.2.2.2.2.2.1 o7.2.2.2.2.2.2.1 o7.2.2.2.2.2.2.2 m_input).bind fun o8 =>
  (f_X12_finish m_inputLength o8.2.1 o8.2.2.1 o8.2.2.2.1 o8.2.2.2.2.1 o8.2.2.2.2.2.1 o8.2.2.2.2.2.2.1 o8.2.2.2.2.2.2.2 m_input).bind fun o9 =>
  if o9.2.2.2.2.2.1 = 0 then (
    (rd m_parsed 463 3).bind fun x10 =>
    (f_X12_ofRealm x10).bind fun o11 =>
    (wr m_parsed 463 (o11 + 0) o5.1).bind fun g12 =>
    (wr g12 463 (o11 + 1) o6.1).bind fun g13 =>
    (wr g13 463 (o11 + 2) o7.1).bind fun g14 =>
    (wr g14 463 (o11 + 3) o8.1).bind fun g15 =>
    (rd g15 463 3).bind fun x16 =>
    (wr g15 463 3 (x16 + 1)).bind fun g17 =>
    some (o9.1, o9.2.1, o9.2.2.1, o9.2.2.2.1, o9.2.2.2.2.1, o9.2.2.2.2.2.1, o9.2.2.2.2.2.2, g17))
  else (
    some (o9.1, o9.2.1, o9.2.2.1, o9.2.2.2.1, o9.2.2.2.2.1, o9.2.2.2.2.2.1, o9.2.2.2.2.2.2, m_parsed))
set_option maxRecDepth 100000 in
set_option maxHeartbeats 4000000 in
theorem c_X12_readRealm (l : Launch) {G : (Nat → Prop) → State → Heap → Prop} (hG : vG G) (D : va_G) (c9 : Nat → ClassId) (sk sv : Nat → Nat) (hGU : ∀ (A : Nat → Prop) (U : State) (H : Heap), G A U H → vU sk sv A U H) (ad : Nat → Nat) (m_undoable : Int32) (m_undoStart : Int32) (m_thrown : Int32) (m_inputLength : Int32) (m_position : Int32) (m_start : Int32) (m_token : Int32) (m_value : Int32) (m_letters : Int32) (m_code : Int32) (m_place : Int32) (m_outputLength : Int32) (m_s : Nat → Int32) (m_parsed : Nat → Int32) (m_tried : Nat → Int32) (m_remembered : Nat → Int32) (m_slots : Nat → Int32) (m_kept : Nat → Int32) (m_away : Nat → Int32) (m_input : Nat → Int32) (m_halfway : Nat → Int32) (m_output : Nat → Int32)  {o : Int32 × Int32 × Int32 × Int32 × Int32 × Int32 × Int32 × (Nat → Int32)} (hf : f_X12_readRealm m_inputLength m_position m_start m_token m_value m_letters m_code m_place m_parsed m_input = some o) : mV l yX12_readRealm (wq yX12_readRealm cX12_readRealm 6 none) { frames := 7, cells := 0, slots := 0, locals := 195 } G D (tyA c9) [.ref (ad 0)] (wX12 ad c9 m_undoable m_undoStart m_thrown m_inputLength m_position m_start m_token m_value m_letters m_code m_place m_outputLength m_s m_parsed m_tried m_remembered m_slots m_kept m_away m_input m_halfway m_output) [] 0 0 (wX12 ad c9 m_undoable m_undoStart m_thrown m_inputLength o.1 o.2.1 o.2.2.1 o.2.2.2.1 o.2.2.2.2.1 o.2.2.2.2.2.1 o.2.2.2.2.2.2.1 m_outputLength m_s o.2.2.2.2.2.2.2 m_tried m_remembered m_slots m_kept m_away m_input m_halfway m_output) := by
  refine mV_of hG (cc := cX12_readRealm) (maxL := 6) (by decide) rfl (Nat.le_of_ble_eq_true rfl) ?_
  intro p e s m args below meth c A hnm X
  have X : vX p s m args meth c cX12_readRealm 6 none RX12 (wq yX12_readRealm cX12_readRealm 6 none) D (tyA c9) G A := X
  refine v_eq (lv2 := [(0, .ref (ad 0))]) rfl rfl rfl rfl ?_
  rw [f_X12_readRealm] at hf
  refine v_aload_n X dX12_readRealm_0 0 rfl rfl 1 rfl ?_
  refine v_aload_n X dX12_readRealm_1 0 rfl rfl 2 rfl ?_
  refine v_get X (C := RX12) (T := TX12) (N := 22) (ci := 11) (v := _) dX12_readRealm_2 (lay_of laym_X12) 0 rfl rfl 1 (by decide) (mw wm_162) rfl rfl 5 rfl ?_
  refine v_iconst X dX12_readRealm_5 ic_3 6 rfl ?_
  obtain ⟨x1, hx1, hf⟩ := bnd hf
  refine v_iald X dX12_readRealm_6 2 0 rfl rfl hx1 7 rfl ?_
  refine v_iconst X dX12_readRealm_7 ic_5 8 rfl ?_
  obtain ⟨j2, hj2, hf⟩ := bnd hf
  have Jj2 : vW p l e { frames := 7, cells := 0, slots := 0, locals := 195 } s m args below meth c 6 D A [] 0 0 (MQ below (eV D (tyA c9) A ((wX12 ad c9 m_undoable m_undoStart m_thrown m_inputLength o.1 o.2.1 o.2.2.1 o.2.2.2.1 o.2.2.2.2.1 o.2.2.2.2.2.1 o.2.2.2.2.2.2.1 m_outputLength m_s o.2.2.2.2.2.2.2 m_tried m_remembered m_slots m_kept m_away m_input m_halfway m_output) ++ [])) args s 0 0 A) (wX12 ad c9 m_undoable m_undoStart m_thrown m_inputLength m_position m_start m_token m_value m_letters m_code m_place m_outputLength m_s m_parsed m_tried m_remembered m_slots m_kept m_away m_input m_halfway m_output) 16 [(0, .ref (ad 0))] [.int j2, .ref (ad 0)] := by
    refine v_iconst X dX12_readRealm_16 ic_5 17 rfl ?_
    obtain ⟨o3, ho3, hf⟩ := bnd hf
    refine v_callVi X (ci := 11) (T := TX12) (C := RX12) (As := [.int j2, .int 5]) (rest := []) (ws' := (wX12 ad c9 m_undoable m_undoStart m_thrown m_inputLength m_position m_start m_token m_value m_letters o3.2.1 o3.2.2 m_outputLength m_s m_parsed m_tried m_remembered m_slots m_kept m_away m_input m_halfway m_output)) (c_X12_check l hG D c9 ad m_undoable m_undoStart m_thrown m_inputLength m_position m_start m_token m_value m_letters m_code m_place m_outputLength m_s m_parsed m_tried m_remembered m_slots m_kept m_away m_input m_halfway m_output j2 5 ho3) 2 (gV wm_137 wm_138 wm_139 wm_37 wm_140) rfl rfl rfl ⟨rfl, pd_X12_check⟩ ⟨Nat.le_of_ble_eq_true rfl, Nat.le_of_ble_eq_true rfl⟩ 0 rfl rfl rfl rfl (Nat.le_of_ble_eq_true rfl) ⟨Nat.zero_le _, Nat.zero_le _⟩ [0, 1, 2, 3, 4, 5, 6, 7, 8, 9, 10] [] [0, 1, 2, 3, 4, 5, 6, 7, 8, 9, 10] rfl rfl rfl rfl dX12_readRealm_17 20 rfl ?_
    refine v_pop X dX12_readRealm_20 rfl 21 rfl ?_
    refine v_aload_n X dX12_readRealm_21 0 rfl rfl 22 rfl ?_
    obtain ⟨o4, ho4, hf⟩ := bnd hf
    refine v_callVv X (ci := 11) (T := TX12) (C := RX12) (As := []) (rest := []) (ws' := (wX12 ad c9 m_undoable m_undoStart m_thrown m_inputLength o4.1 o4.2.1 o4.2.2.1 o4.2.2.2.1 o4.2.2.2.2 o3.2.1 o3.2.2 m_outputLength m_s m_parsed m_tried m_remembered m_slots m_kept m_away m_input m_halfway m_output)) (c_X12_next l hG D c9 ad m_undoable m_undoStart m_thrown m_inputLength m_position m_start m_token m_value m_letters o3.2.1 o3.2.2 m_outputLength m_s m_parsed m_tried m_remembered m_slots m_kept m_away m_input m_halfway m_output ho4) 0 (gV wm_141 wm_142 wm_143 wm_37 wm_144) rfl rfl rfl ⟨rfl, pd_X12_next⟩ ⟨Nat.le_of_ble_eq_true rfl, Nat.le_of_ble_eq_true rfl⟩ 0 rfl rfl rfl rfl (Nat.le_of_ble_eq_true rfl) ⟨Nat.zero_le _, Nat.zero_le _⟩ [0, 1, 2, 3, 4, 5, 6, 7, 8, 9, 10] [] [0, 1, 2, 3, 4, 5, 6, 7, 8, 9, 10] rfl rfl rfl rfl dX12_readRealm_22 25 rfl ?_
    refine v_aload_n X dX12_readRealm_25 0 rfl rfl 26 rfl ?_
    obtain ⟨o5, ho5, hf⟩ := bnd hf
    refine v_callVi X (ci := 11) (T := TX12) (C := RX12) (As := []) (rest := []) (ws' := (wX12 ad c9 m_undoable m_undoStart m_thrown m_inputLength o5.2.1 o5.2.2.1 o5.2.2.2.1 o5.2.2.2.2.1 o5.2.2.2.2.2.1 o5.2.2.2.2.2.2.1 o5.2.2.2.2.2.2.2 m_outputLength m_s m_parsed m_tried m_remembered m_slots m_kept m_away m_input m_halfway m_output)) (c_X12_newName l hG D c9 ad m_undoable m_undoStart m_thrown m_inputLength o4.1 o4.2.1 o4.2.2.1 o4.2.2.2.1 o4.2.2.2.2 o3.2.1 o3.2.2 m_outputLength m_s m_parsed m_tried m_remembered m_slots m_kept m_away m_input m_halfway m_output ho5) 0 (gV wm_185 wm_186 wm_187 wm_37 wm_188) rfl rfl rfl ⟨rfl, pd_X12_newName⟩ ⟨Nat.le_of_ble_eq_true rfl, Nat.le_of_ble_eq_true rfl⟩ 0 rfl rfl rfl rfl (Nat.le_of_ble_eq_true rfl) ⟨Nat.zero_le _, Nat.zero_le _⟩ [0, 1, 2, 3, 4, 5, 6, 7, 8, 9, 10] [] [0, 1, 2, 3, 4, 5, 6, 7, 8, 9, 10] rfl rfl rfl rfl dX12_readRealm_26 29 rfl ?_
    refine v_istore_n X (lv' := [(1, .int o5.1), (0, .ref (ad 0))]) dX12_readRealm_29 rfl (by decide) rfl 30 rfl ?_
    refine v_aload_n X dX12_readRealm_30 1 rfl rfl 31 rfl ?_
    refine v_iconst X dX12_readRealm_31 ic_1 32 rfl ?_
    refine v_sipush X dX12_readRealm_32 sp_999 35 rfl ?_
    obtain ⟨o6, ho6, hf⟩ := bnd hf
    refine v_callVi X (ci := 11) (T := TX12) (C := RX12) (As := [.int 1, .int 999]) (rest := []) (ws' := (wX12 ad c9 m_undoable m_undoStart m_thrown m_inputLength o6.2.1 o6.2.2.1 o6.2.2.2.1 o6.2.2.2.2.1 o6.2.2.2.2.2.1 o6.2.2.2.2.2.2.1 o6.2.2.2.2.2.2.2 m_outputLength m_s m_parsed m_tried m_remembered m_slots m_kept m_away m_input m_halfway m_output)) (c_X12_number l hG D c9 ad m_undoable m_undoStart m_thrown m_inputLength o5.2.1 o5.2.2.1 o5.2.2.2.1 o5.2.2.2.2.1 o5.2.2.2.2.2.1 o5.2.2.2.2.2.2.1 o5.2.2.2.2.2.2.2 m_outputLength m_s m_parsed m_tried m_remembered m_slots m_kept m_away m_input m_halfway m_output 1 999 ho6) 2 (gV wm_181 wm_182 wm_183 wm_37 wm_184) rfl rfl rfl ⟨rfl, pd_X12_number⟩ ⟨Nat.le_of_ble_eq_true rfl, Nat.le_of_ble_eq_true rfl⟩ 0 rfl rfl rfl rfl (Nat.le_of_ble_eq_true rfl) ⟨Nat.zero_le _, Nat.zero_le _⟩ [0, 1, 2, 3, 4, 5, 6, 7, 8, 9, 10] [] [0, 1, 2, 3, 4, 5, 6, 7, 8, 9, 10] rfl rfl rfl rfl dX12_readRealm_35 38 rfl ?_
    refine v_istore_n X (lv' := [(2, .int o6.1), (1, .int o5.1), (0, .ref (ad 0))]) dX12_readRealm_38 rfl (by decide) rfl 39 rfl ?_
    refine v_aload_n X dX12_readRealm_39 2 rfl rfl 40 rfl ?_
    refine v_iconst X dX12_readRealm_40 ic_0 41 rfl ?_
    refine v_sipush X dX12_readRealm_41 sp_9999 44 rfl ?_
    obtain ⟨o7, ho7, hf⟩ := bnd hf
    refine v_callVi X (ci := 11) (T := TX12) (C := RX12) (As := [.int 0, .int 9999]) (rest := []) (ws' := (wX12 ad c9 m_undoable m_undoStart m_thrown m_inputLength o7.2.1 o7.2.2.1 o7.2.2.2.1 o7.2.2.2.2.1 o7.2.2.2.2.2.1 o7.2.2.2.2.2.2.1 o7.2.2.2.2.2.2.2 m_outputLength m_s m_parsed m_tried m_remembered m_slots m_kept m_away m_input m_halfway m_output)) (c_X12_number l hG D c9 ad m_undoable m_undoStart m_thrown m_inputLength o6.2.1 o6.2.2.1 o6.2.2.2.1 o6.2.2.2.2.1 o6.2.2.2.2.2.1 o6.2.2.2.2.2.2.1 o6.2.2.2.2.2.2.2 m_outputLength m_s m_parsed m_tried m_remembered m_slots m_kept m_away m_input m_halfway m_output 0 9999 ho7) 2 (gV wm_181 wm_182 wm_183 wm_37 wm_184) rfl rfl rfl ⟨rfl, pd_X12_number⟩ ⟨Nat.le_of_ble_eq_true rfl, Nat.le_of_ble_eq_true rfl⟩ 0 rfl rfl rfl rfl (Nat.le_of_ble_eq_true rfl) ⟨Nat.zero_le _, Nat.zero_le _⟩ [0, 1, 2, 3, 4, 5, 6, 7, 8, 9, 10] [] [0, 1, 2, 3, 4, 5, 6, 7, 8, 9, 10] rfl rfl rfl rfl dX12_readRealm_44 47 rfl ?_
    refine v_istore_n X (lv' := [(3, .int o7.1), (2, .int o6.1), (1, .int o5.1), (0, .ref (ad 0))]) dX12_readRealm_47 rfl (by decide) rfl 48 rfl ?_
    refine v_aload_n X dX12_readRealm_48 3 rfl rfl 49 rfl ?_
    obtain ⟨o8, ho8, hf⟩ := bnd hf
    refine v_callVi X (ci := 11) (T := TX12) (C := RX12) (As := []) (rest := []) (ws' := (wX12 ad c9 m_undoable m_undoStart m_thrown m_inputLength o8.2.1 o8.2.2.1 o8.2.2.2.1 o8.2.2.2.2.1 o8.2.2.2.2.2.1 o8.2.2.2.2.2.2.1 o8.2.2.2.2.2.2.2 m_outputLength m_s m_parsed m_tried m_remembered m_slots m_kept m_away m_input m_halfway m_output)) (c_X12_clockHere l hG D c9 sk sv hGU ad m_undoable m_undoStart m_thrown m_inputLength o7.2.1 o7.2.2.1 o7.2.2.2.1 o7.2.2.2.2.1 o7.2.2.2.2.2.1 o7.2.2.2.2.2.2.1 o7.2.2.2.2.2.2.2 m_outputLength m_s m_parsed m_tried m_remembered m_slots m_kept m_away m_input m_halfway m_output ho8) 0 (gV wm_189 wm_190 wm_191 wm_37 wm_192) rfl rfl rfl ⟨rfl, pd_X12_clockHere⟩ ⟨Nat.le_of_ble_eq_true rfl, Nat.le_of_ble_eq_true rfl⟩ 0 rfl rfl rfl rfl (Nat.le_of_ble_eq_true rfl) ⟨Nat.zero_le _, Nat.zero_le _⟩ [0, 1, 2, 3, 4, 5, 6, 7, 8, 9, 10] [] [0, 1, 2, 3, 4, 5, 6, 7, 8, 9, 10] rfl rfl rfl rfl dX12_readRealm_49 52 rfl ?_
    refine v_istore X (lv' := [(4, .int o8.1), (3, .int o7.1), (2, .int o6.1), (1, .int o5.1), (0, .ref (ad 0))]) dX12_readRealm_52 (by decide) rfl 54 rfl ?_
    refine v_aload_n X dX12_readRealm_54 4 rfl rfl 55 rfl ?_
    obtain ⟨o9, ho9, hf⟩ := bnd hf
    refine v_callVv X (ci := 11) (T := TX12) (C := RX12) (As := []) (rest := []) (ws' := (wX12 ad c9 m_undoable m_undoStart m_thrown m_inputLength o9.1 o9.2.1 o9.2.2.1 o9.2.2.2.1 o9.2.2.2.2.1 o9.2.2.2.2.2.1 o9.2.2.2.2.2.2 m_outputLength m_s m_parsed m_tried m_remembered m_slots m_kept m_away m_input m_halfway m_output)) (c_X12_finish l hG D c9 ad m_undoable m_undoStart m_thrown m_inputLength o8.2.1 o8.2.2.1 o8.2.2.2.1 o8.2.2.2.2.1 o8.2.2.2.2.2.1 o8.2.2.2.2.2.2.1 o8.2.2.2.2.2.2.2 m_outputLength m_s m_parsed m_tried m_remembered m_slots m_kept m_away m_input m_halfway m_output ho9) 0 (gV wm_193 wm_194 wm_195 wm_37 wm_196) rfl rfl rfl ⟨rfl, pd_X12_finish⟩ ⟨Nat.le_of_ble_eq_true rfl, Nat.le_of_ble_eq_true rfl⟩ 0 rfl rfl rfl rfl (Nat.le_of_ble_eq_true rfl) ⟨Nat.zero_le _, Nat.zero_le _⟩ [0, 1, 2, 3, 4, 5, 6, 7, 8, 9, 10] [] [0, 1, 2, 3, 4, 5, 6, 7, 8, 9, 10] rfl rfl rfl rfl dX12_readRealm_55 58 rfl ?_
    refine v_aload_n X dX12_readRealm_58 4 rfl rfl 59 rfl ?_
    refine v_get X (C := RX12) (T := TX12) (N := 22) (ci := 11) (v := _) dX12_readRealm_59 (lay_of laym_X12) 0 rfl rfl 17 (by decide) (mw wm_118) rfl rfl 62 rfl ?_
    refine v_if_ne X (tgt := 127) dX12_readRealm_62 rfl 65 rfl hf (fun hf => ?_) (fun hf => ?_)
    · obtain rfl := Option.some.inj hf
      exact v_vret X (Nat.zero_le _) (Nat.zero_le _) dX12_readRealm_127
    · refine v_aload_n X dX12_readRealm_65 4 rfl rfl 66 rfl ?_
      refine v_get X (C := RX12) (T := TX12) (N := 22) (ci := 11) (v := _) dX12_readRealm_66 (lay_of laym_X12) 0 rfl rfl 1 (by decide) (mw wm_162) rfl rfl 69 rfl ?_
      refine v_iconst X dX12_readRealm_69 ic_3 70 rfl ?_
      obtain ⟨x10, hx10, hf⟩ := bnd hf
      refine v_iald X dX12_readRealm_70 2 0 rfl rfl hx10 71 rfl ?_
      obtain ⟨o11, ho11, hf⟩ := bnd hf
      refine v_callSi X (As := [.int x10]) (rest := []) (ws' := (wX12 ad c9 m_undoable m_undoStart m_thrown m_inputLength o9.1 o9.2.1 o9.2.2.1 o9.2.2.2.1 o9.2.2.2.2.1 o9.2.2.2.2.2.1 o9.2.2.2.2.2.2 m_outputLength m_s m_parsed m_tried m_remembered m_slots m_kept m_away m_input m_halfway m_output)) (c_X12_ofRealm l hG D c9 x10 ho11) 1 (gS wm_49 wm_50 wm_37 wm_51) rfl rfl rfl pd_X12_ofRealm ⟨Nat.le_of_ble_eq_true rfl, Nat.le_of_ble_eq_true rfl⟩ rfl rfl (Nat.le_of_ble_eq_true rfl) ⟨Nat.zero_le _, Nat.zero_le _⟩ [] [0, 1, 2, 3, 4, 5, 6, 7, 8, 9, 10] [0, 1, 2, 3, 4, 5, 6, 7, 8, 9, 10] rfl rfl rfl rfl dX12_readRealm_71 74 rfl ?_
      refine v_istore X (lv' := [(5, .int o11), (4, .int o8.1), (3, .int o7.1), (2, .int o6.1), (1, .int o5.1), (0, .ref (ad 0))]) dX12_readRealm_74 (by decide) rfl 76 rfl ?_
      refine v_aload_n X dX12_readRealm_76 5 rfl rfl 77 rfl ?_
      refine v_get X (C := RX12) (T := TX12) (N := 22) (ci := 11) (v := _) dX12_readRealm_77 (lay_of laym_X12) 0 rfl rfl 1 (by decide) (mw wm_162) rfl rfl 80 rfl ?_
      refine v_iload X dX12_readRealm_80 0 rfl 82 rfl ?_
      refine v_iconst X dX12_readRealm_82 ic_0 83 rfl ?_
      refine v_iadd X dX12_readRealm_83 84 rfl ?_
      refine v_iload_n X dX12_readRealm_84 4 rfl rfl 85 rfl ?_
      obtain ⟨g12, hg12, hf⟩ := bnd hf
      refine v_iast X (ws' := (wX12 ad c9 m_undoable m_undoStart m_thrown m_inputLength o9.1 o9.2.1 o9.2.2.1 o9.2.2.2.1 o9.2.2.2.2.1 o9.2.2.2.2.2.1 o9.2.2.2.2.2.2 m_outputLength m_s g12 m_tried m_remembered m_slots m_kept m_away m_input m_halfway m_output)) dX12_readRealm_85 2 0 rfl rfl hg12 rfl 86 rfl ?_
      refine v_aload_n X dX12_readRealm_86 5 rfl rfl 87 rfl ?_
      refine v_get X (C := RX12) (T := TX12) (N := 22) (ci := 11) (v := _) dX12_readRealm_87 (lay_of laym_X12) 0 rfl rfl 1 (by decide) (mw wm_162) rfl rfl 90 rfl ?_
      refine v_iload X dX12_readRealm_90 0 rfl 92 rfl ?_
      refine v_iconst X dX12_readRealm_92 ic_1 93 rfl ?_
      refine v_iadd X dX12_readRealm_93 94 rfl ?_
      refine v_iload_n X dX12_readRealm_94 3 rfl rfl 95 rfl ?_
      obtain ⟨g13, hg13, hf⟩ := bnd hf
      refine v_iast X (ws' := (wX12 ad c9 m_undoable m_undoStart m_thrown m_inputLength o9.1 o9.2.1 o9.2.2.1 o9.2.2.2.1 o9.2.2.2.2.1 o9.2.2.2.2.2.1 o9.2.2.2.2.2.2 m_outputLength m_s g13 m_tried m_remembered m_slots m_kept m_away m_input m_halfway m_output)) dX12_readRealm_95 2 0 rfl rfl hg13 rfl 96 rfl ?_
      refine v_aload_n X dX12_readRealm_96 5 rfl rfl 97 rfl ?_
      refine v_get X (C := RX12) (T := TX12) (N := 22) (ci := 11) (v := _) dX12_readRealm_97 (lay_of laym_X12) 0 rfl rfl 1 (by decide) (mw wm_162) rfl rfl 100 rfl ?_
      refine v_iload X dX12_readRealm_100 0 rfl 102 rfl ?_
      refine v_iconst X dX12_readRealm_102 ic_2 103 rfl ?_
      refine v_iadd X dX12_readRealm_103 104 rfl ?_
      refine v_iload_n X dX12_readRealm_104 2 rfl rfl 105 rfl ?_
      obtain ⟨g14, hg14, hf⟩ := bnd hf
      refine v_iast X (ws' := (wX12 ad c9 m_undoable m_undoStart m_thrown m_inputLength o9.1 o9.2.1 o9.2.2.1 o9.2.2.2.1 o9.2.2.2.2.1 o9.2.2.2.2.2.1 o9.2.2.2.2.2.2 m_outputLength m_s g14 m_tried m_remembered m_slots m_kept m_away m_input m_halfway m_output)) dX12_readRealm_105 2 0 rfl rfl hg14 rfl 106 rfl ?_
      refine v_aload_n X dX12_readRealm_106 5 rfl rfl 107 rfl ?_
      refine v_get X (C := RX12) (T := TX12) (N := 22) (ci := 11) (v := _) dX12_readRealm_107 (lay_of laym_X12) 0 rfl rfl 1 (by decide) (mw wm_162) rfl rfl 110 rfl ?_
      refine v_iload X dX12_readRealm_110 0 rfl 112 rfl ?_
      refine v_iconst X dX12_readRealm_112 ic_3 113 rfl ?_
      refine v_iadd X dX12_readRealm_113 114 rfl ?_
      refine v_iload X dX12_readRealm_114 1 rfl 116 rfl ?_
      obtain ⟨g15, hg15, hf⟩ := bnd hf
      refine v_iast X (ws' := (wX12 ad c9 m_undoable m_undoStart m_thrown m_inputLength o9.1 o9.2.1 o9.2.2.1 o9.2.2.2.1 o9.2.2.2.2.1 o9.2.2.2.2.2.1 o9.2.2.2.2.2.2 m_outputLength m_s g15 m_tried m_remembered m_slots m_kept m_away m_input m_halfway m_output)) dX12_readRealm_116 2 0 rfl rfl hg15 rfl 117 rfl ?_
      refine v_aload_n X dX12_readRealm_117 5 rfl rfl 118 rfl ?_
      refine v_get X (C := RX12) (T := TX12) (N := 22) (ci := 11) (v := _) dX12_readRealm_118 (lay_of laym_X12) 0 rfl rfl 1 (by decide) (mw wm_162) rfl rfl 121 rfl ?_
      refine v_iconst X dX12_readRealm_121 ic_3 122 rfl ?_
      refine v_dup2 X dX12_readRealm_122 rfl rfl 123 rfl ?_
      obtain ⟨x16, hx16, hf⟩ := bnd hf
      refine v_iald X dX12_readRealm_123 2 0 rfl rfl hx16 124 rfl ?_
      refine v_iconst X dX12_readRealm_124 ic_1 125 rfl ?_
      refine v_iadd X dX12_readRealm_125 126 rfl ?_
      obtain ⟨g17, hg17, hf⟩ := bnd hf
      refine v_iast X (ws' := (wX12 ad c9 m_undoable m_undoStart m_thrown m_inputLength o9.1 o9.2.1 o9.2.2.1 o9.2.2.2.1 o9.2.2.2.2.1 o9.2.2.2.2.2.1 o9.2.2.2.2.2.2 m_outputLength m_s g17 m_tried m_remembered m_slots m_kept m_away m_input m_halfway m_output)) dX12_readRealm_126 2 0 rfl rfl hg17 rfl 127 rfl ?_
      obtain rfl := Option.some.inj hf
      exact v_vret X (Nat.zero_le _) (Nat.zero_le _) dX12_readRealm_127
  clear hf
  refine v_icmp_ge X (tgt := 15) dX12_readRealm_8 rfl 11 rfl hj2 (fun hf => ?_) (fun hf => ?_)
  · refine v_iconst X dX12_readRealm_15 ic_0 16 rfl ?_
    obtain rfl := Option.some.inj hf
    exact Jj2
  · refine v_iconst X dX12_readRealm_11 ic_1 12 rfl ?_
    refine v_goto X (tgt := 16) dX12_readRealm_12 rfl ?_
    obtain rfl := Option.some.inj hf
    exact Jj2
theorem pd_X12_readRealm : yX12_readRealm.cls ≠ "java/lang/invoke/MethodHandle" ∧ yX12_readRealm.cls ≠ "java/lang/invoke/VarHandle" ∧ (parseMethodDescriptor yX12_readRealm.desc).map (fun d => d.parameters.length) = some 0 := by decide +kernel
