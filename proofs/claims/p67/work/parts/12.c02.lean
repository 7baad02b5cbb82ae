theorem pd_X6_get_UX2_hasTrust_19 : "TicketGate$Table" ≠ "java/lang/invoke/MethodHandle" ∧ "TicketGate$Table" ≠ "java/lang/invoke/VarHandle" ∧ (parseMethodDescriptor "(II)I").map (fun d => d.parameters.length) = some 2 := by decide +kernel
def f_X2_hasTrust (t_rows : Int32) (t_cells : Nat → Int32) (v1 : Int32) (v2 : Int32) : Option (Int32) :=
  (f_X6_get 25 5 t_rows t_cells v1 4).bind fun o1 =>
  if ((o1 >>> (v2 &&& 31)) &&& 1) = 1 then (
    some (1))
  else (
    some (0))
set_option maxRecDepth 100000 in
set_option maxHeartbeats 4000000 in
theorem c_X2_hasTrust (l : Launch) {G : (Nat → Prop) → State → Heap → Prop} (hG : vG G) (D : va_G) (c9 : Nat → ClassId) (ad : Nat → Nat) (t_rows : Int32) (t_cells : Nat → Int32) (v1 : Int32) (v2 : Int32) {o : Int32} (hf : f_X2_hasTrust t_rows t_cells v1 v2 = some o) : mI l yX2_hasTrust (wq yX2_hasTrust cX2_hasTrust 3 (some .boolean)) { frames := 1, cells := 0, slots := 0, locals := 24 } G D (tyA c9) [.ref (ad 0), .int v1, .int v2] (wX2 ad c9 t_rows t_cells) [] 0 0 o (wX2 ad c9 t_rows t_cells) := by
  refine mI_of hG (cc := cX2_hasTrust) (maxL := 3) (ty := .boolean) (by decide) rfl (Nat.le_of_ble_eq_true rfl) ?_
  intro p e s m args below meth c A X
  have X : vX p s m args meth c cX2_hasTrust 3 (some .boolean) RX2 (wq yX2_hasTrust cX2_hasTrust 3 (some .boolean)) D (tyA c9) G A := X
  refine v_eq (lv2 := [(0, .ref (ad 0)), (1, .int v1), (2, .int v2)]) rfl rfl rfl rfl ?_
  rw [f_X2_hasTrust] at hf
  refine v_aload_n X dX2_hasTrust_0 0 rfl rfl 1 rfl ?_
  refine v_iload_n X dX2_hasTrust_1 1 rfl rfl 2 rfl ?_
  refine v_iconst X dX2_hasTrust_2 ic_4 3 rfl ?_
  obtain ⟨o1, ho1, hf⟩ := bnd hf
  refine v_callUi X (ci := 4) (T := TX2) (C := RX2) (owner := "TicketGate$Table") (As := [.int v1, .int 4]) (rest := []) (ws' := (wX2 ad c9 t_rows t_cells)) (c_X6_get l hG D c9 ad 25 4 RX2 rfl layc_X2 5 5 t_rows t_cells v1 4 ho1) 2 (gU wc_55 wc_56 wc_57 wc_33 wc_34 wc_35) rfl rfl rfl rfl pd_X6_get_UX2_hasTrust_19 ⟨Nat.le_of_ble_eq_true rfl, Nat.le_of_ble_eq_true rfl⟩ 0 rfl rfl rfl rfl (Nat.le_of_ble_eq_true rfl) ⟨Nat.zero_le _, Nat.zero_le _⟩ [0, 1] [] [0, 1] rfl rfl rfl rfl dX2_hasTrust_3 6 rfl ?_
  refine v_iload_n X dX2_hasTrust_6 2 rfl rfl 7 rfl ?_
  refine v_ishr X dX2_hasTrust_7 8 rfl ?_
  refine v_iconst X dX2_hasTrust_8 ic_1 9 rfl ?_
  refine v_iand X dX2_hasTrust_9 10 rfl ?_
  refine v_iconst X dX2_hasTrust_10 ic_1 11 rfl ?_
  refine v_icmp_ne X (tgt := 18) dX2_hasTrust_11 rfl 14 rfl hf (fun hf => ?_) (fun hf => ?_)
  · refine v_iconst X dX2_hasTrust_18 ic_0 19 rfl ?_
    obtain rfl := Option.some.inj hf
    exact v_zret X (Nat.zero_le _) (Nat.zero_le _) nz0 dX2_hasTrust_19
  · refine v_iconst X dX2_hasTrust_14 ic_1 15 rfl ?_
    refine v_goto X (tgt := 19) dX2_hasTrust_15 rfl ?_
    obtain rfl := Option.some.inj hf
    exact v_zret X (Nat.zero_le _) (Nat.zero_le _) nz1 dX2_hasTrust_19
theorem pd_X2_hasTrust : yX2_hasTrust.cls ≠ "java/lang/invoke/MethodHandle" ∧ yX2_hasTrust.cls ≠ "java/lang/invoke/VarHandle" ∧ (parseMethodDescriptor yX2_hasTrust.desc).map (fun d => d.parameters.length) = some 2 := by decide +kernel
theorem pd_X6_size_UX2_trustedBySome_27 : "TicketGate$Table" ≠ "java/lang/invoke/MethodHandle" ∧ "TicketGate$Table" ≠ "java/lang/invoke/VarHandle" ∧ (parseMethodDescriptor "()I").map (fun d => d.parameters.length) = some 0 := by decide +kernel
theorem pd_X6_get_UX2_trustedBySome_19 : "TicketGate$Table" ≠ "java/lang/invoke/MethodHandle" ∧ "TicketGate$Table" ≠ "java/lang/invoke/VarHandle" ∧ (parseMethodDescriptor "(II)I").map (fun d => d.parameters.length) = some 2 := by decide +kernel
def f_X2_trustedBySome_L4 (t_rows : Int32) (t_cells : Nat → Int32) (v1 : Int32) : Nat → Int32 → Int32 → Option (Int32)
  | 0, _, _ => none
  | n + 1, v2, v3 =>
    (f_X6_size 25 t_rows).bind fun o1 =>
    if o1 ≤ v3 then (
      some (v2))
    else (
      if ((v1 >>> (v3 &&& 31)) &&& 1) = 1 then (
        (f_X6_get 25 5 t_rows t_cells v3 4).bind fun o2 =>
        f_X2_trustedBySome_L4 t_rows t_cells v1 n  (v2 ||| o2) (v3 + 1))
      else (
        f_X2_trustedBySome_L4 t_rows t_cells v1 n  v2 (v3 + 1)))
def f_X2_trustedBySome (t_rows : Int32) (t_cells : Nat → Int32) (v1 : Int32) : Option (Int32) :=
  (f_X2_trustedBySome_L4 t_rows t_cells v1 5000 0 0).bind fun o3 =>
  some (o3)
set_option maxRecDepth 100000 in
set_option maxHeartbeats 4000000 in
theorem l_X2_trustedBySome_L4 (l : Launch) {G : (Nat → Prop) → State → Heap → Prop} (hG : vG G) (D : va_G) (c9 : Nat → ClassId) (ad : Nat → Nat) (t_rows : Int32) (t_cells : Nat → Int32) (v1 : Int32) {p : Program} {e : Env} {s : State} {m : MethodId} {args : Array Value} {below : List Frame} {meth : Method} {c : Code} {A : Nat → Prop} {F : va_W} (X : vX p s m args meth c cX2_trustedBySome 4 (some .int) RX2 (wq yX2_trustedBySome cX2_trustedBySome 4 (some .int)) D (tyA c9) G A) {Q : State → Prop} (o : Int32) (K : vW p l e { frames := 1, cells := 0, slots := 0, locals := 24 } s m args below meth c 4 D A F 0 0 Q (wX2 ad c9 t_rows t_cells) 36 [(2, .int o)] []) :
    ∀ (n : Nat) (v2 : Int32) (v3 : Int32), f_X2_trustedBySome_L4 t_rows t_cells v1 n v2 v3 = some o → vW p l e { frames := 1, cells := 0, slots := 0, locals := 24 } s m args below meth c 4 D A F 0 0 Q (wX2 ad c9 t_rows t_cells) 4 [(0, .ref (ad 0)), (1, .int v1), (2, .int v2), (3, .int v3)] [] := by
  intro n
  induction n with
  | zero =>
    intro v2 v3 hf
    rw [f_X2_trustedBySome_L4] at hf
    cases hf
  | succ n ih =>
    intro v2 v3 hf
    rw [f_X2_trustedBySome_L4] at hf
    refine v_iload_n X dX2_trustedBySome_4 3 rfl rfl 5 rfl ?_
    refine v_aload_n X dX2_trustedBySome_5 0 rfl rfl 6 rfl ?_
    obtain ⟨o1, ho1, hf⟩ := bnd hf
    refine v_callUi X (ci := 4) (T := TX2) (C := RX2) (owner := "TicketGate$Table") (As := []) (rest := [.int v3]) (ws' := (wX2 ad c9 t_rows t_cells)) (c_X6_size l hG D c9 ad 25 4 RX2 rfl layc_X2 5 5 t_rows t_cells ho1) 0 (gU wc_58 wc_59 wc_60 wc_61 wc_34 wc_62) rfl rfl rfl rfl pd_X6_size_UX2_trustedBySome_27 ⟨Nat.le_of_ble_eq_true rfl, Nat.le_of_ble_eq_true rfl⟩ 0 rfl rfl rfl rfl (Nat.le_of_ble_eq_true rfl) ⟨Nat.zero_le _, Nat.zero_le _⟩ [0, 1] [] [0, 1] rfl rfl rfl rfl dX2_trustedBySome_6 9 rfl ?_
    refine v_icmp_ge X (tgt := 36) dX2_trustedBySome_9 rfl 12 rfl hf (fun hf => ?_) (fun hf => ?_)
    · obtain rfl := Option.some.inj hf
      refine v_sub (lv' := [(2, .int v2)]) [2] rfl ?_
      exact K
    · refine v_iload_n X dX2_trustedBySome_12 1 rfl rfl 13 rfl ?_
      refine v_iload_n X dX2_trustedBySome_13 3 rfl rfl 14 rfl ?_
      refine v_ishr X dX2_trustedBySome_14 15 rfl ?_
      refine v_iconst X dX2_trustedBySome_15 ic_1 16 rfl ?_
      refine v_iand X dX2_trustedBySome_16 17 rfl ?_
      refine v_iconst X dX2_trustedBySome_17 ic_1 18 rfl ?_
      refine v_icmp_ne X (tgt := 30) dX2_trustedBySome_18 rfl 21 rfl hf (fun hf => ?_) (fun hf => ?_)
      · refine v_iinc X (lv' := [(3, .int (v3 + 1)), (0, .ref (ad 0)), (1, .int v1), (2, .int v2)]) dX2_trustedBySome_30 3 rfl ic_1 (by decide) rfl 33 rfl ?_
        refine v_goto X (tgt := 4) dX2_trustedBySome_33 rfl ?_
        refine v_sub (lv' := [(0, .ref (ad 0)), (1, .int v1), (2, .int v2), (3, .int (v3 + 1))]) [1, 2, 3, 0] rfl ?_
        exact ih v2 (v3 + 1) hf
      · refine v_iload_n X dX2_trustedBySome_21 2 rfl rfl 22 rfl ?_
        refine v_aload_n X dX2_trustedBySome_22 0 rfl rfl 23 rfl ?_
        refine v_iload_n X dX2_trustedBySome_23 3 rfl rfl 24 rfl ?_
        refine v_iconst X dX2_trustedBySome_24 ic_4 25 rfl ?_
        obtain ⟨o2, ho2, hf⟩ := bnd hf
        refine v_callUi X (ci := 4) (T := TX2) (C := RX2) (owner := "TicketGate$Table") (As := [.int v3, .int 4]) (rest := [.int v2]) (ws' := (wX2 ad c9 t_rows t_cells)) (c_X6_get l hG D c9 ad 25 4 RX2 rfl layc_X2 5 5 t_rows t_cells v3 4 ho2) 2 (gU wc_55 wc_56 wc_57 wc_33 wc_34 wc_35) rfl rfl rfl rfl pd_X6_get_UX2_trustedBySome_19 ⟨Nat.le_of_ble_eq_true rfl, Nat.le_of_ble_eq_true rfl⟩ 0 rfl rfl rfl rfl (Nat.le_of_ble_eq_true rfl) ⟨Nat.zero_le _, Nat.zero_le _⟩ [0, 1] [] [0, 1] rfl rfl rfl rfl dX2_trustedBySome_25 28 rfl ?_
        refine v_ior X dX2_trustedBySome_28 29 rfl ?_
        refine v_istore_n X (lv' := [(2, .int (v2 ||| o2)), (0, .ref (ad 0)), (1, .int v1), (3, .int v3)]) dX2_trustedBySome_29 rfl (by decide) rfl 30 rfl ?_
        refine v_iinc X (lv' := [(3, .int (v3 + 1)), (2, .int (v2 ||| o2)), (0, .ref (ad 0)), (1, .int v1)]) dX2_trustedBySome_30 3 rfl ic_1 (by decide) rfl 33 rfl ?_
        refine v_goto X (tgt := 4) dX2_trustedBySome_33 rfl ?_
        refine v_sub (lv' := [(0, .ref (ad 0)), (1, .int v1), (2, .int (v2 ||| o2)), (3, .int (v3 + 1))]) [2, 3, 1, 0] rfl ?_
        exact ih (v2 ||| o2) (v3 + 1) hf
set_option maxRecDepth 100000 in
set_option maxHeartbeats 4000000 in
theorem c_X2_trustedBySome (l : Launch) {G : (Nat → Prop) → State → Heap → Prop} (hG : vG G) (D : va_G) (c9 : Nat → ClassId) (ad : Nat → Nat) (t_rows : Int32) (t_cells : Nat → Int32) (v1 : Int32) {o : Int32} (hf : f_X2_trustedBySome t_rows t_cells v1 = some o) : mI l yX2_trustedBySome (wq yX2_trustedBySome cX2_trustedBySome 4 (some .int)) { frames := 1, cells := 0, slots := 0, locals := 24 } G D (tyA c9) [.ref (ad 0), .int v1] (wX2 ad c9 t_rows t_cells) [] 0 0 o (wX2 ad c9 t_rows t_cells) := by
  refine mI_of hG (cc := cX2_trustedBySome) (maxL := 4) (ty := .int) (by decide) rfl (Nat.le_of_ble_eq_true rfl) ?_
  intro p e s m args below meth c A X
  have X : vX p s m args meth c cX2_trustedBySome 4 (some .int) RX2 (wq yX2_trustedBySome cX2_trustedBySome 4 (some .int)) D (tyA c9) G A := X
  refine v_eq (lv2 := [(0, .ref (ad 0)), (1, .int v1)]) rfl rfl rfl rfl ?_
  rw [f_X2_trustedBySome] at hf
  refine v_iconst X dX2_trustedBySome_0 ic_0 1 rfl ?_
  refine v_istore_n X (lv' := [(2, .int 0), (0, .ref (ad 0)), (1, .int v1)]) dX2_trustedBySome_1 rfl (by decide) rfl 2 rfl ?_
  refine v_iconst X dX2_trustedBySome_2 ic_0 3 rfl ?_
  refine v_istore_n X (lv' := [(3, .int 0), (2, .int 0), (0, .ref (ad 0)), (1, .int v1)]) dX2_trustedBySome_3 rfl (by decide) rfl 4 rfl ?_
  obtain ⟨o3, ho3, hf⟩ := bnd hf
  refine v_sub (lv' := [(0, .ref (ad 0)), (1, .int v1), (2, .int 0), (3, .int 0)]) [2, 3, 1, 0] rfl ?_
  refine l_X2_trustedBySome_L4 l hG D c9 ad t_rows t_cells v1 X o3 ?_ 5000 0 0 ho3
  refine v_iload_n X dX2_trustedBySome_36 0 rfl rfl 37 rfl ?_
  obtain rfl := Option.some.inj hf
  exact v_iret X (Nat.zero_le _) (Nat.zero_le _) dX2_trustedBySome_37
theorem pd_X2_trustedBySome : yX2_trustedBySome.cls ≠ "java/lang/invoke/MethodHandle" ∧ yX2_trustedBySome.cls ≠ "java/lang/invoke/VarHandle" ∧ (parseMethodDescriptor yX2_trustedBySome.desc).map (fun d => d.parameters.length) = some 1 := by decide +kernel
def f_X2_referrals_L7 (t_rows : Int32) (t_cells : Nat → Int32) (v2 : Int32) : Nat → Int32 → Int32 → Option (Int32)
  | 0, _, _ => none
  | n + 1, v3, v4 =>
    if 5 ≤ v4 then (
      some ((-1)))
    else (
      if ((v3 >>> (v2 &&& 31)) &&& 1) = 1 then (
        some (v4))
      else (
        (f_X2_trustedBySome t_rows t_cells v3).bind fun o1 =>
        f_X2_referrals_L7 t_rows t_cells v2 n  (v3 ||| o1) (v4 + 1)))
def f_X2_referrals (t_rows : Int32) (t_cells : Nat → Int32) (v1 : Int32) (v2 : Int32) : Option (Int32) :=
  f_X2_referrals_L7 t_rows t_cells v2 5000 (1 <<< (v1 &&& 31)) 0
set_option maxRecDepth 100000 in
set_option maxHeartbeats 4000000 in
theorem l_X2_referrals_L7 (l : Launch) {G : (Nat → Prop) → State → Heap → Prop} (hG : vG G) (D : va_G) (c9 : Nat → ClassId) (ad : Nat → Nat) (t_rows : Int32) (t_cells : Nat → Int32) (v2 : Int32) {p : Program} {e : Env} {s : State} {m : MethodId} {args : Array Value} {below : List Frame} {meth : Method} {c : Code} {A : Nat → Prop} {F : va_W} (X : vX p s m args meth c cX2_referrals 5 (some .int) RX2 (wq yX2_referrals cX2_referrals 5 (some .int)) D (tyA c9) G A) (o : Int32) :
    ∀ (n : Nat) (v3 : Int32) (v4 : Int32), f_X2_referrals_L7 t_rows t_cells v2 n v3 v4 = some o → vW p l e { frames := 2, cells := 0, slots := 0, locals := 47 } s m args below meth c 5 D A F 0 0 (MQ below (eI D (tyA c9) A o ((wX2 ad c9 t_rows t_cells) ++ F)) args s 0 0 A) (wX2 ad c9 t_rows t_cells) 7 [(0, .ref (ad 0)), (2, .int v2), (3, .int v3), (4, .int v4)] [] := by
  intro n
  induction n with
  | zero =>
    intro v3 v4 hf
    rw [f_X2_referrals_L7] at hf
    cases hf
  | succ n ih =>
    intro v3 v4 hf
    rw [f_X2_referrals_L7] at hf
    refine v_iload X dX2_referrals_7 3 rfl 9 rfl ?_
    refine v_iconst X dX2_referrals_9 ic_5 10 rfl ?_
    refine v_icmp_ge X (tgt := 39) dX2_referrals_10 rfl 13 rfl hf (fun hf => ?_) (fun hf => ?_)
    · refine v_iconst X dX2_referrals_39 ic_m1 40 rfl ?_
      obtain rfl := Option.some.inj hf
      exact v_iret X (Nat.zero_le _) (Nat.zero_le _) dX2_referrals_40
    · refine v_iload_n X dX2_referrals_13 2 rfl rfl 14 rfl ?_
      refine v_iload_n X dX2_referrals_14 1 rfl rfl 15 rfl ?_
      refine v_ishr X dX2_referrals_15 16 rfl ?_
      refine v_iconst X dX2_referrals_16 ic_1 17 rfl ?_
      refine v_iand X dX2_referrals_17 18 rfl ?_
      refine v_iconst X dX2_referrals_18 ic_1 19 rfl ?_
      refine v_icmp_ne X (tgt := 25) dX2_referrals_19 rfl 22 rfl hf (fun hf => ?_) (fun hf => ?_)
      · refine v_iload_n X dX2_referrals_25 2 rfl rfl 26 rfl ?_
        refine v_aload_n X dX2_referrals_26 0 rfl rfl 27 rfl ?_
        refine v_iload_n X dX2_referrals_27 2 rfl rfl 28 rfl ?_
        obtain ⟨o1, ho1, hf⟩ := bnd hf
        refine v_callVi X (ci := 4) (T := TX2) (C := RX2) (As := [.int v3]) (rest := [.int v3]) (ws' := (wX2 ad c9 t_rows t_cells)) (c_X2_trustedBySome l hG D c9 ad t_rows t_cells v3 ho1) 1 (gV wc_63 wc_64 wc_65 wc_66 wc_67) rfl rfl rfl ⟨rfl, pd_X2_trustedBySome⟩ ⟨Nat.le_of_ble_eq_true rfl, Nat.le_of_ble_eq_true rfl⟩ 0 rfl rfl rfl rfl (Nat.le_of_ble_eq_true rfl) ⟨Nat.zero_le _, Nat.zero_le _⟩ [0, 1] [] [0, 1] rfl rfl rfl rfl dX2_referrals_28 31 rfl ?_
        refine v_ior X dX2_referrals_31 32 rfl ?_
        refine v_istore_n X (lv' := [(3, .int (v3 ||| o1)), (0, .ref (ad 0)), (2, .int v2), (4, .int v4)]) dX2_referrals_32 rfl (by decide) rfl 33 rfl ?_
        refine v_iinc X (lv' := [(4, .int (v4 + 1)), (3, .int (v3 ||| o1)), (0, .ref (ad 0)), (2, .int v2)]) dX2_referrals_33 3 rfl ic_1 (by decide) rfl 36 rfl ?_
        refine v_goto X (tgt := 7) dX2_referrals_36 rfl ?_
        refine v_sub (lv' := [(0, .ref (ad 0)), (2, .int v2), (3, .int (v3 ||| o1)), (4, .int (v4 + 1))]) [2, 3, 1, 0] rfl ?_
        exact ih (v3 ||| o1) (v4 + 1) hf
      · refine v_iload X dX2_referrals_22 3 rfl 24 rfl ?_
        obtain rfl := Option.some.inj hf
        exact v_iret X (Nat.zero_le _) (Nat.zero_le _) dX2_referrals_24
set_option maxRecDepth 100000 in
set_option maxHeartbeats 4000000 in
theorem c_X2_referrals (l : Launch) {G : (Nat → Prop) → State → Heap → Prop} (hG : vG G) (D : va_G) (c9 : Nat → ClassId) (ad : Nat → Nat) (t_rows : Int32) (t_cells : Nat → Int32) (v1 : Int32) (v2 : Int32) {o : Int32} (hf : f_X2_referrals t_rows t_cells v1 v2 = some o) : mI l yX2_referrals (wq yX2_referrals cX2_referrals 5 (some .int)) { frames := 2, cells := 0, slots := 0, locals := 47 } G D (tyA c9) [.ref (ad 0), .int v1, .int v2] (wX2 ad c9 t_rows t_cells) [] 0 0 o (wX2 ad c9 t_rows t_cells) := by
  refine mI_of hG (cc := cX2_referrals) (maxL := 5) (ty := .int) (by decide) rfl (Nat.le_of_ble_eq_true rfl) ?_
  intro p e s m args below meth c A X
  have X : vX p s m args meth c cX2_referrals 5 (some .int) RX2 (wq yX2_referrals cX2_referrals 5 (some .int)) D (tyA c9) G A := X
  refine v_eq (lv2 := [(0, .ref (ad 0)), (1, .int v1), (2, .int v2)]) rfl rfl rfl rfl ?_
  rw [f_X2_referrals] at hf
  refine v_iconst X dX2_referrals_0 ic_1 1 rfl ?_
  refine v_iload_n X dX2_referrals_1 1 rfl rfl 2 rfl ?_
  refine v_ishl X dX2_referrals_2 3 rfl ?_
  refine v_istore_n X (lv' := [(3, .int (1 <<< (v1 &&& 31))), (0, .ref (ad 0)), (1, .int v1), (2, .int v2)]) dX2_referrals_3 rfl (by decide) rfl 4 rfl ?_
  refine v_iconst X dX2_referrals_4 ic_0 5 rfl ?_
  refine v_istore X (lv' := [(4, .int 0), (3, .int (1 <<< (v1 &&& 31))), (0, .ref (ad 0)), (1, .int v1), (2, .int v2)]) dX2_referrals_5 (by decide) rfl 7 rfl ?_
  refine v_sub (lv' := [(0, .ref (ad 0)), (2, .int v2), (3, .int (1 <<< (v1 &&& 31))), (4, .int 0)]) [2, 4, 1, 0] rfl ?_
  exact l_X2_referrals_L7 l hG D c9 ad t_rows t_cells v2 X _ 5000 (1 <<< (v1 &&& 31)) 0 hf
theorem pd_X2_referrals : yX2_referrals.cls ≠ "java/lang/invoke/MethodHandle" ∧ yX2_referrals.cls ≠ "java/lang/invoke/VarHandle" ∧ (parseMethodDescriptor yX2_referrals.desc).map (fun d => d.parameters.length) = some 2 := by decide +kernel
theorem pd_X6_addRow_UX3_addService_11 : "TicketGate$Table" ≠ "java/lang/invoke/MethodHandle" ∧ "TicketGate$Table" ≠ "java/lang/invoke/VarHandle" ∧ (parseMethodDescriptor "()I").map (fun d => d.parameters.length) = some 0 := by decide +kernel
theorem pd_X6_set_UX3_addService_15 : "TicketGate$Table" ≠ "java/lang/invoke/MethodHandle" ∧ "TicketGate$Table" ≠ "java/lang/invoke/VarHandle" ∧ (parseMethodDescriptor "(III)V").map (fun d => d.parameters.length) = some 3 := by decide +kernel
def f_X3_addService (t_rows : Int32) (t_cells : Nat → Int32) (v1 : Int32) (v2 : Int32) (v3 : Int32) : Option (Int32 × (Nat → Int32)) :=
  (f_X6_addRow 18 6 t_rows).bind fun o1 =>
  (f_X6_set 18 3 o1.2 t_cells o1.1 0 v1).bind fun o2 =>
  (f_X6_set 18 3 o1.2 o2 o1.1 1 v2).bind fun o3 =>
  (f_X6_set 18 3 o1.2 o3 o1.1 2 v3).bind fun o4 =>
  some (o1.2, o4)
set_option maxRecDepth 100000 in
set_option maxHeartbeats 4000000 in
theorem c_X3_addService (l : Launch) {G : (Nat → Prop) → State → Heap → Prop} (hG : vG G) (D : va_G) (c9 : Nat → ClassId) (ad : Nat → Nat) (t_rows : Int32) (t_cells : Nat → Int32) (v1 : Int32) (v2 : Int32) (v3 : Int32) {o : Int32 × (Nat → Int32)} (hf : f_X3_addService t_rows t_cells v1 v2 v3 = some o) : mV l yX3_addService (wq yX3_addService cX3_addService 5 none) { frames := 1, cells := 0, slots := 0, locals := 24 } G D (tyA c9) [.ref (ad 0), .int v1, .int v2, .int v3] (wX3 ad c9 t_rows t_cells) [] 0 0 (wX3 ad c9 o.1 o.2) := by
  refine mV_of hG (cc := cX3_addService) (maxL := 5) (by decide) rfl (Nat.le_of_ble_eq_true rfl) ?_
  intro p e s m args below meth c A hnm X
  have X : vX p s m args meth c cX3_addService 5 none RX3 (wq yX3_addService cX3_addService 5 none) D (tyA c9) G A := X
  refine v_eq (lv2 := [(0, .ref (ad 0)), (1, .int v1), (2, .int v2), (3, .int v3)]) rfl rfl rfl rfl ?_
  rw [f_X3_addService] at hf
  refine v_aload_n X dX3_addService_0 0 rfl rfl 1 rfl ?_
  obtain ⟨o1, ho1, hf⟩ := bnd hf
  refine v_callUi X (ci := 5) (T := TX3) (C := RX3) (owner := "TicketGate$Table") (As := []) (rest := []) (ws' := (wX3 ad c9 o1.2 t_cells)) (c_X6_addRow l hG D c9 ad 18 5 RX3 rfl layc_X3 6 3 t_rows t_cells ho1) 0 (gU wc_72 wc_73 wc_74 wc_48 wc_34 wc_49) rfl rfl rfl rfl pd_X6_addRow_UX3_addService_11 ⟨Nat.le_of_ble_eq_true rfl, Nat.le_of_ble_eq_true rfl⟩ 0 rfl rfl rfl rfl (Nat.le_of_ble_eq_true rfl) ⟨Nat.zero_le _, Nat.zero_le _⟩ [0, 1] [] [0, 1] rfl rfl rfl rfl dX3_addService_1 4 rfl ?_
  refine v_istore X (lv' := [(4, .int o1.1), (0, .ref (ad 0)), (1, .int v1), (2, .int v2), (3, .int v3)]) dX3_addService_4 (by decide) rfl 6 rfl ?_
  refine v_aload_n X dX3_addService_6 1 rfl rfl 7 rfl ?_
  refine v_iload X dX3_addService_7 0 rfl 9 rfl ?_
  refine v_iconst X dX3_addService_9 ic_0 10 rfl ?_
  refine v_iload_n X dX3_addService_10 2 rfl rfl 11 rfl ?_
  obtain ⟨o2, ho2, hf⟩ := bnd hf
  refine v_callUv X (ci := 5) (T := TX3) (C := RX3) (owner := "TicketGate$Table") (As := [.int o1.1, .int 0, .int v1]) (rest := []) (ws' := (wX3 ad c9 o1.2 o2)) (c_X6_set l hG D c9 ad 18 5 RX3 rfl layc_X3 6 3 o1.2 t_cells o1.1 0 v1 ho2) 3 (gU wc_75 wc_76 wc_77 wc_53 wc_34 wc_54) rfl rfl rfl rfl pd_X6_set_UX3_addService_15 ⟨Nat.le_of_ble_eq_true rfl, Nat.le_of_ble_eq_true rfl⟩ 0 rfl rfl rfl rfl (Nat.le_of_ble_eq_true rfl) ⟨Nat.zero_le _, Nat.zero_le _⟩ [0, 1] [] [0, 1] rfl rfl rfl rfl dX3_addService_11 14 rfl ?_
  refine v_aload_n X dX3_addService_14 1 rfl rfl 15 rfl ?_
  refine v_iload X dX3_addService_15 0 rfl 17 rfl ?_
  refine v_iconst X dX3_addService_17 ic_1 18 rfl ?_
  refine v_iload_n X dX3_addService_18 3 rfl rfl 19 rfl ?_
  obtain ⟨o3, ho3, hf⟩ := bnd hf
  refine v_callUv X (ci := 5) (T := TX3) (C := RX3) (owner := "TicketGate$Table") (As := [.int o1.1, .int 1, .int v2]) (rest := []) (ws' := (wX3 ad c9 o1.2 o3)) (c_X6_set l hG D c9 ad 18 5 RX3 rfl layc_X3 6 3 o1.2 o2 o1.1 1 v2 ho3) 3 (gU wc_75 wc_76 wc_77 wc_53 wc_34 wc_54) rfl rfl rfl rfl pd_X6_set_UX3_addService_15 ⟨Nat.le_of_ble_eq_true rfl, Nat.le_of_ble_eq_true rfl⟩ 0 rfl rfl rfl rfl (Nat.le_of_ble_eq_true rfl) ⟨Nat.zero_le _, Nat.zero_le _⟩ [0, 1] [] [0, 1] rfl rfl rfl rfl dX3_addService_19 22 rfl ?_
  refine v_aload_n X dX3_addService_22 1 rfl rfl 23 rfl ?_
  refine v_iload X dX3_addService_23 0 rfl 25 rfl ?_
  refine v_iconst X dX3_addService_25 ic_2 26 rfl ?_
  refine v_iload_n X dX3_addService_26 4 rfl rfl 27 rfl ?_
  obtain ⟨o4, ho4, hf⟩ := bnd hf
  refine v_callUv X (ci := 5) (T := TX3) (C := RX3) (owner := "TicketGate$Table") (As := [.int o1.1, .int 2, .int v3]) (rest := []) (ws' := (wX3 ad c9 o1.2 o4)) (c_X6_set l hG D c9 ad 18 5 RX3 rfl layc_X3 6 3 o1.2 o3 o1.1 2 v3 ho4) 3 (gU wc_75 wc_76 wc_77 wc_53 wc_34 wc_54) rfl rfl rfl rfl pd_X6_set_UX3_addService_15 ⟨Nat.le_of_ble_eq_true rfl, Nat.le_of_ble_eq_true rfl⟩ 0 rfl rfl rfl rfl (Nat.le_of_ble_eq_true rfl) ⟨Nat.zero_le _, Nat.zero_le _⟩ [0, 1] [] [0, 1] rfl rfl rfl rfl dX3_addService_27 30 rfl ?_
  obtain rfl := Option.some.inj hf
  exact v_vret X (Nat.zero_le _) (Nat.zero_le _) dX3_addService_30
theorem pd_X3_addService : yX3_addService.cls ≠ "java/lang/invoke/MethodHandle" ∧ yX3_addService.cls ≠ "java/lang/invoke/VarHandle" ∧ (parseMethodDescriptor yX3_addService.desc).map (fun d => d.parameters.length) = some 3 := by decide +kernel
theorem pd_X6_get_UX7_canBeRenewed_11 : "TicketGate$Table" ≠ "java/lang/invoke/MethodHandle" ∧ "TicketGate$Table" ≠ "java/lang/invoke/VarHandle" ∧ (parseMethodDescriptor "(II)I").map (fun d => d.parameters.length) = some 2 := by decide +kernel
def f_X7_canBeRenewed (t_rows : Int32) (t_cells : Nat → Int32) (v1 : Int32) : Option (Int32) :=
  (f_X6_get 240 10 t_rows t_cells v1 9).bind fun o1 =>
  if o1 = 1 then (
    some (1))
  else (
    some (0))
set_option maxRecDepth 100000 in
set_option maxHeartbeats 4000000 in
theorem c_X7_canBeRenewed (l : Launch) {G : (Nat → Prop) → State → Heap → Prop} (hG : vG G) (D : va_G) (c9 : Nat → ClassId) (ad : Nat → Nat) (t_rows : Int32) (t_cells : Nat → Int32) (v1 : Int32) {o : Int32} (hf : f_X7_canBeRenewed t_rows t_cells v1 = some o) : mI l yX7_canBeRenewed (wq yX7_canBeRenewed cX7_canBeRenewed 2 (some .boolean)) { frames := 1, cells := 0, slots := 0, locals := 24 } G D (tyA c9) [.ref (ad 0), .int v1] (wX7 ad c9 t_rows t_cells) [] 0 0 o (wX7 ad c9 t_rows t_cells) := by
  refine mI_of hG (cc := cX7_canBeRenewed) (maxL := 2) (ty := .boolean) (by decide) rfl (Nat.le_of_ble_eq_true rfl) ?_
  intro p e s m args below meth c A X
  have X : vX p s m args meth c cX7_canBeRenewed 2 (some .boolean) RX7 (wq yX7_canBeRenewed cX7_canBeRenewed 2 (some .boolean)) D (tyA c9) G A := X
  refine v_eq (lv2 := [(0, .ref (ad 0)), (1, .int v1)]) rfl rfl rfl rfl ?_
  rw [f_X7_canBeRenewed] at hf
  refine v_aload_n X dX7_canBeRenewed_0 0 rfl rfl 1 rfl ?_
  refine v_iload_n X dX7_canBeRenewed_1 1 rfl rfl 2 rfl ?_
  refine v_bipush X dX7_canBeRenewed_2 bp_9 4 rfl ?_
  obtain ⟨o1, ho1, hf⟩ := bnd hf
  refine v_callUi X (ci := 8) (T := TX7) (C := RX7) (owner := "TicketGate$Table") (As := [.int v1, .int 9]) (rest := []) (ws' := (wX7 ad c9 t_rows t_cells)) (c_X6_get l hG D c9 ad 240 8 RX7 rfl layc_X7 24 10 t_rows t_cells v1 9 ho1) 2 (gU wc_82 wc_83 wc_84 wc_33 wc_34 wc_35) rfl rfl rfl rfl pd_X6_get_UX7_canBeRenewed_11 ⟨Nat.le_of_ble_eq_true rfl, Nat.le_of_ble_eq_true rfl⟩ 0 rfl rfl rfl rfl (Nat.le_of_ble_eq_true rfl) ⟨Nat.zero_le _, Nat.zero_le _⟩ [0, 1] [] [0, 1] rfl rfl rfl rfl dX7_canBeRenewed_4 7 rfl ?_
  refine v_iconst X dX7_canBeRenewed_7 ic_1 8 rfl ?_
  refine v_icmp_ne X (tgt := 15) dX7_canBeRenewed_8 rfl 11 rfl hf (fun hf => ?_) (fun hf => ?_)
  · refine v_iconst X dX7_canBeRenewed_15 ic_0 16 rfl ?_
    obtain rfl := Option.some.inj hf
    exact v_zret X (Nat.zero_le _) (Nat.zero_le _) nz0 dX7_canBeRenewed_16
  · refine v_iconst X dX7_canBeRenewed_11 ic_1 12 rfl ?_
    refine v_goto X (tgt := 16) dX7_canBeRenewed_12 rfl ?_
    obtain rfl := Option.some.inj hf
    exact v_zret X (Nat.zero_le _) (Nat.zero_le _) nz1 dX7_canBeRenewed_16
theorem pd_X7_canBeRenewed : yX7_canBeRenewed.cls ≠ "java/lang/invoke/MethodHandle" ∧ yX7_canBeRenewed.cls ≠ "java/lang/invoke/VarHandle" ∧ (parseMethodDescriptor yX7_canBeRenewed.desc).map (fun d => d.parameters.length) = some 1 := by decide +kernel
theorem pd_X6_get_UX7_isAlive_11 : "TicketGate$Table" ≠ "java/lang/invoke/MethodHandle" ∧ "TicketGate$Table" ≠ "java/lang/invoke/VarHandle" ∧ (parseMethodDescriptor "(II)I").map (fun d => d.parameters.length) = some 2 := by decide +kernel
def f_X7_isAlive (t_rows : Int32) (t_cells : Nat → Int32) (v1 : Int32) (v2 : Int32) : Option (Int32) :=
  (f_X6_get 240 10 t_rows t_cells v1 6).bind fun o1 =>
  if o1 ≤ v2 then (
    some (0))
  else (
    some (1))
set_option maxRecDepth 100000 in
set_option maxHeartbeats 4000000 in
theorem c_X7_isAlive (l : Launch) {G : (Nat → Prop) → State → Heap → Prop} (hG : vG G) (D : va_G) (c9 : Nat → ClassId) (ad : Nat → Nat) (t_rows : Int32) (t_cells : Nat → Int32) (v1 : Int32) (v2 : Int32) {o : Int32} (hf : f_X7_isAlive t_rows t_cells v1 v2 = some o) : mI l yX7_isAlive (wq yX7_isAlive cX7_isAlive 3 (some .boolean)) { frames := 1, cells := 0, slots := 0, locals := 24 } G D (tyA c9) [.ref (ad 0), .int v1, .int v2] (wX7 ad c9 t_rows t_cells) [] 0 0 o (wX7 ad c9 t_rows t_cells) := by
  refine mI_of hG (cc := cX7_isAlive) (maxL := 3) (ty := .boolean) (by decide) rfl (Nat.le_of_ble_eq_true rfl) ?_
  intro p e s m args below meth c A X
  have X : vX p s m args meth c cX7_isAlive 3 (some .boolean) RX7 (wq yX7_isAlive cX7_isAlive 3 (some .boolean)) D (tyA c9) G A := X
  refine v_eq (lv2 := [(0, .ref (ad 0)), (1, .int v1), (2, .int v2)]) rfl rfl rfl rfl ?_
  rw [f_X7_isAlive] at hf
  refine v_iload_n X dX7_isAlive_0 2 rfl rfl 1 rfl ?_
  refine v_aload_n X dX7_isAlive_1 0 rfl rfl 2 rfl ?_
  refine v_iload_n X dX7_isAlive_2 1 rfl rfl 3 rfl ?_
  refine v_bipush X dX7_isAlive_3 bp_6 5 rfl ?_
  obtain ⟨o1, ho1, hf⟩ := bnd hf
  refine v_callUi X (ci := 8) (T := TX7) (C := RX7) (owner := "TicketGate$Table") (As := [.int v1, .int 6]) (rest := [.int v2]) (ws' := (wX7 ad c9 t_rows t_cells)) (c_X6_get l hG D c9 ad 240 8 RX7 rfl layc_X7 24 10 t_rows t_cells v1 6 ho1) 2 (gU wc_82 wc_83 wc_84 wc_33 wc_34 wc_35) rfl rfl rfl rfl pd_X6_get_UX7_isAlive_11 ⟨Nat.le_of_ble_eq_true rfl, Nat.le_of_ble_eq_true rfl⟩ 0 rfl rfl rfl rfl (Nat.le_of_ble_eq_true rfl) ⟨Nat.zero_le _, Nat.zero_le _⟩ [0, 1] [] [0, 1] rfl rfl rfl rfl dX7_isAlive_5 8 rfl ?_
  refine v_icmp_ge X (tgt := 15) dX7_isAlive_8 rfl 11 rfl hf (fun hf => ?_) (fun hf => ?_)
  · refine v_iconst X dX7_isAlive_15 ic_0 16 rfl ?_
    obtain rfl := Option.some.inj hf
    exact v_zret X (Nat.zero_le _) (Nat.zero_le _) nz0 dX7_isAlive_16
  · refine v_iconst X dX7_isAlive_11 ic_1 12 rfl ?_
    refine v_goto X (tgt := 16) dX7_isAlive_12 rfl ?_
    obtain rfl := Option.some.inj hf
    exact v_zret X (Nat.zero_le _) (Nat.zero_le _) nz1 dX7_isAlive_16
theorem pd_X7_isAlive : yX7_isAlive.cls ≠ "java/lang/invoke/MethodHandle" ∧ yX7_isAlive.cls ≠ "java/lang/invoke/VarHandle" ∧ (parseMethodDescriptor yX7_isAlive.desc).map (fun d => d.parameters.length) = some 2 := by decide +kernel
theorem pd_X6_size_UX7_countAlive_15 : "TicketGate$Table" ≠ "java/lang/invoke/MethodHandle" ∧ "TicketGate$Table" ≠ "java/lang/invoke/VarHandle" ∧ (parseMethodDescriptor "()I").map (fun d => d.parameters.length) = some 0 := by decide +kernel
def f_X7_countAlive_L4 (t_rows : Int32) (t_cells : Nat → Int32) (v1 : Int32) : Nat → Int32 → Int32 → Option (Int32)
  | 0, _, _ => none
  | n + 1, v2, v3 =>
    (f_X6_size 240 t_rows).bind fun o1 =>
    if o1 ≤ v3 then (
      some (v2))
    else (
      (f_X7_isAlive t_rows t_cells v3 v1).bind fun o2 =>
      Option.bind (if o2 = 0 then (
        some (0))
      else (
        some (1)) : Option (Int32)) fun j3 =>
      f_X7_countAlive_L4 t_rows t_cells v1 n  (v2 + j3) (v3 + 1))
def f_X7_countAlive (t_rows : Int32) (t_cells : Nat → Int32) (v1 : Int32) : Option (Int32) :=
  (f_X7_countAlive_L4 t_rows t_cells v1 5000 0 0).bind fun o4 =>
  some (o4)
set_option maxRecDepth 100000 in
set_option maxHeartbeats 4000000 in
theorem l_X7_countAlive_L4 (l : Launch) {G : (Nat → Prop) → State → Heap → Prop} (hG : vG G) (D : va_G) (c9 : Nat → ClassId) (ad : Nat → Nat) (t_rows : Int32) (t_cells : Nat → Int32) (v1 : Int32) {p : Program} {e : Env} {s : State} {m : MethodId} {args : Array Value} {below : List Frame} {meth : Method} {c : Code} {A : Nat → Prop} {F : va_W} (X : vX p s m args meth c cX7_countAlive 4 (some .int) RX7 (wq yX7_countAlive cX7_countAlive 4 (some .int)) D (tyA c9) G A) {Q : State → Prop} (o : Int32) (K : vW p l e { frames := 2, cells := 0, slots := 0, locals := 46 } s m args below meth c 4 D A F 0 0 Q (wX7 ad c9 t_rows t_cells) 35 [(2, .int o)] []) :
    ∀ (n : Nat) (v2 : Int32) (v3 : Int32), f_X7_countAlive_L4 t_rows t_cells v1 n v2 v3 = some o → vW p l e { frames := 2, cells := 0, slots := 0, locals := 46 } s m args below meth c 4 D A F 0 0 Q (wX7 ad c9 t_rows t_cells) 4 [(0, .ref (ad 0)), (1, .int v1), (2, .int v2), (3, .int v3)] [] := by
  intro n
  induction n with
  | zero =>
    intro v2 v3 hf
    rw [f_X7_countAlive_L4] at hf
    cases hf
  | succ n ih =>
    intro v2 v3 hf
    rw [f_X7_countAlive_L4] at hf
    refine v_iload_n X dX7_countAlive_4 3 rfl rfl 5 rfl ?_
    refine v_aload_n X dX7_countAlive_5 0 rfl rfl 6 rfl ?_
    obtain ⟨o1, ho1, hf⟩ := bnd hf
    refine v_callUi X (ci := 8) (T := TX7) (C := RX7) (owner := "TicketGate$Table") (As := []) (rest := [.int v3]) (ws' := (wX7 ad c9 t_rows t_cells)) (c_X6_size l hG D c9 ad 240 8 RX7 rfl layc_X7 24 10 t_rows t_cells ho1) 0 (gU wc_85 wc_86 wc_87 wc_61 wc_34 wc_62) rfl rfl rfl rfl pd_X6_size_UX7_countAlive_15 ⟨Nat.le_of_ble_eq_true rfl, Nat.le_of_ble_eq_true rfl⟩ 0 rfl rfl rfl rfl (Nat.le_of_ble_eq_true rfl) ⟨Nat.zero_le _, Nat.zero_le _⟩ [0, 1] [] [0, 1] rfl rfl rfl rfl dX7_countAlive_6 9 rfl ?_
    refine v_icmp_ge X (tgt := 35) dX7_countAlive_9 rfl 12 rfl hf (fun hf => ?_) (fun hf => ?_)
    · obtain rfl := Option.some.inj hf
      refine v_sub (lv' := [(2, .int v2)]) [2] rfl ?_
      exact K
    · refine v_iload_n X dX7_countAlive_12 2 rfl rfl 13 rfl ?_
      refine v_aload_n X dX7_countAlive_13 0 rfl rfl 14 rfl ?_
      refine v_iload_n X dX7_countAlive_14 3 rfl rfl 15 rfl ?_
      refine v_iload_n X dX7_countAlive_15 1 rfl rfl 16 rfl ?_
      obtain ⟨o2, ho2, hf⟩ := bnd hf
      refine v_callVi X (ci := 8) (T := TX7) (C := RX7) (As := [.int v3, .int v1]) (rest := [.int v2]) (ws' := (wX7 ad c9 t_rows t_cells)) (c_X7_isAlive l hG D c9 ad t_rows t_cells v3 v1 ho2) 2 (gV wc_88 wc_89 wc_90 wc_91 wc_92) rfl rfl rfl ⟨rfl, pd_X7_isAlive⟩ ⟨Nat.le_of_ble_eq_true rfl, Nat.le_of_ble_eq_true rfl⟩ 0 rfl rfl rfl rfl (Nat.le_of_ble_eq_true rfl) ⟨Nat.zero_le _, Nat.zero_le _⟩ [0, 1] [] [0, 1] rfl rfl rfl rfl dX7_countAlive_16 19 rfl ?_
      obtain ⟨j3, hj3, hf⟩ := bnd hf
      have Jj3 : vW p l e { frames := 2, cells := 0, slots := 0, locals := 46 } s m args below meth c 4 D A F 0 0 Q (wX7 ad c9 t_rows t_cells) 27 [(0, .ref (ad 0)), (1, .int v1), (3, .int v3)] [.int j3, .int v2] := by
        refine v_iadd X dX7_countAlive_27 28 rfl ?_
        refine v_istore_n X (lv' := [(2, .int (v2 + j3)), (0, .ref (ad 0)), (1, .int v1), (3, .int v3)]) dX7_countAlive_28 rfl (by decide) rfl 29 rfl ?_
        refine v_iinc X (lv' := [(3, .int (v3 + 1)), (2, .int (v2 + j3)), (0, .ref (ad 0)), (1, .int v1)]) dX7_countAlive_29 3 rfl ic_1 (by decide) rfl 32 rfl ?_
        refine v_goto X (tgt := 4) dX7_countAlive_32 rfl ?_
        refine v_sub (lv' := [(0, .ref (ad 0)), (1, .int v1), (2, .int (v2 + j3)), (3, .int (v3 + 1))]) [2, 3, 1, 0] rfl ?_
        exact ih (v2 + j3) (v3 + 1) hf
      clear hf
      refine v_if_eq X (tgt := 26) dX7_countAlive_19 rfl 22 rfl hj3 (fun hf => ?_) (fun hf => ?_)
      · refine v_iconst X dX7_countAlive_26 ic_0 27 rfl ?_
        obtain rfl := Option.some.inj hf
        refine v_sub (lv' := [(0, .ref (ad 0)), (1, .int v1), (3, .int v3)]) [0, 1, 3] rfl ?_
        exact Jj3
      · refine v_iconst X dX7_countAlive_22 ic_1 23 rfl ?_
        refine v_goto X (tgt := 27) dX7_countAlive_23 rfl ?_
        obtain rfl := Option.some.inj hf
        refine v_sub (lv' := [(0, .ref (ad 0)), (1, .int v1), (3, .int v3)]) [0, 1, 3] rfl ?_
        exact Jj3
set_option maxRecDepth 100000 in
set_option maxHeartbeats 4000000 in
theorem c_X7_countAlive (l : Launch) {G : (Nat → Prop) → State → Heap → Prop} (hG : vG G) (D : va_G) (c9 : Nat → ClassId) (ad : Nat → Nat) (t_rows : Int32) (t_cells : Nat → Int32) (v1 : Int32) {o : Int32} (hf : f_X7_countAlive t_rows t_cells v1 = some o) : mI l yX7_countAlive (wq yX7_countAlive cX7_countAlive 4 (some .int)) { frames := 2, cells := 0, slots := 0, locals := 46 } G D (tyA c9) [.ref (ad 0), .int v1] (wX7 ad c9 t_rows t_cells) [] 0 0 o (wX7 ad c9 t_rows t_cells) := by
  refine mI_of hG (cc := cX7_countAlive) (maxL := 4) (ty := .int) (by decide) rfl (Nat.le_of_ble_eq_true rfl) ?_
  intro p e s m args below meth c A X
  have X : vX p s m args meth c cX7_countAlive 4 (some .int) RX7 (wq yX7_countAlive cX7_countAlive 4 (some .int)) D (tyA c9) G A := X
  refine v_eq (lv2 := [(0, .ref (ad 0)), (1, .int v1)]) rfl rfl rfl rfl ?_
  rw [f_X7_countAlive] at hf
  refine v_iconst X dX7_countAlive_0 ic_0 1 rfl ?_
  refine v_istore_n X (lv' := [(2, .int 0), (0, .ref (ad 0)), (1, .int v1)]) dX7_countAlive_1 rfl (by decide) rfl 2 rfl ?_
  refine v_iconst X dX7_countAlive_2 ic_0 3 rfl ?_
  refine v_istore_n X (lv' := [(3, .int 0), (2, .int 0), (0, .ref (ad 0)), (1, .int v1)]) dX7_countAlive_3 rfl (by decide) rfl 4 rfl ?_
  obtain ⟨o4, ho4, hf⟩ := bnd hf
  refine v_sub (lv' := [(0, .ref (ad 0)), (1, .int v1), (2, .int 0), (3, .int 0)]) [2, 3, 1, 0] rfl ?_
  refine l_X7_countAlive_L4 l hG D c9 ad t_rows t_cells v1 X o4 ?_ 5000 0 0 ho4
  refine v_iload_n X dX7_countAlive_35 0 rfl rfl 36 rfl ?_
  obtain rfl := Option.some.inj hf
  exact v_iret X (Nat.zero_le _) (Nat.zero_le _) dX7_countAlive_36
theorem pd_X7_countAlive : yX7_countAlive.cls ≠ "java/lang/invoke/MethodHandle" ∧ yX7_countAlive.cls ≠ "java/lang/invoke/VarHandle" ∧ (parseMethodDescriptor yX7_countAlive.desc).map (fun d => d.parameters.length) = some 1 := by decide +kernel
theorem pd_X6_size_UX7_countLifeErrors_15 : "TicketGate$Table" ≠ "java/lang/invoke/MethodHandle" ∧ "TicketGate$Table" ≠ "java/lang/invoke/VarHandle" ∧ (parseMethodDescriptor "()I").map (fun d => d.parameters.length) = some 0 := by decide +kernel
theorem pd_X6_get_UX7_countLifeErrors_11 : "TicketGate$Table" ≠ "java/lang/invoke/MethodHandle" ∧ "TicketGate$Table" ≠ "java/lang/invoke/VarHandle" ∧ (parseMethodDescriptor "(II)I").map (fun d => d.parameters.length) = some 2 := by decide +kernel
def f_X7_countLifeErrors_L4 (t_rows : Int32) (t_cells : Nat → Int32) : Nat → Int32 → Int32 → Option (Int32)
  | 0, _, _ => none
  | n + 1, v1, v2 =>
    (f_X6_size 240 t_rows).bind fun o1 =>
    if o1 ≤ v2 then (
      some (v1))
    else (
      (f_X6_get 240 10 t_rows t_cells v2 6).bind fun o2 =>
      (f_X6_get 240 10 t_rows t_cells v2 5).bind fun o3 =>
      Option.bind (if o2 ≤ o3 then (
        some (1))
      else (
        (f_X6_get 240 10 t_rows t_cells v2 7).bind fun o5 =>
        if o2 ≤ o5 then (
          some (0))
        else (
          some (1))) : Option (Int32)) fun j4 =>
      f_X7_countLifeErrors_L4 t_rows t_cells n  (v1 + j4) (v2 + 1))
def f_X7_countLifeErrors (t_rows : Int32) (t_cells : Nat → Int32) : Option (Int32) :=
  (f_X7_countLifeErrors_L4 t_rows t_cells 5000 0 0).bind fun o6 =>
  some (o6)
set_option maxRecDepth 100000 in
set_option maxHeartbeats 4000000 in
theorem l_X7_countLifeErrors_L4 (l : Launch) {G : (Nat → Prop) → State → Heap → Prop} (hG : vG G) (D : va_G) (c9 : Nat → ClassId) (ad : Nat → Nat) (t_rows : Int32) (t_cells : Nat → Int32) {p : Program} {e : Env} {s : State} {m : MethodId} {args : Array Value} {below : List Frame} {meth : Method} {c : Code} {A : Nat → Prop} {F : va_W} (X : vX p s m args meth c cX7_countLifeErrors 4 (some .int) RX7 (wq yX7_countLifeErrors cX7_countLifeErrors 4 (some .int)) D (tyA c9) G A) {Q : State → Prop} (o : Int32) (K : vW p l e { frames := 1, cells := 0, slots := 0, locals := 24 } s m args below meth c 4 D A F 0 0 Q (wX7 ad c9 t_rows t_cells) 55 [(1, .int o)] []) :
    ∀ (n : Nat) (v1 : Int32) (v2 : Int32), f_X7_countLifeErrors_L4 t_rows t_cells n v1 v2 = some o → vW p l e { frames := 1, cells := 0, slots := 0, locals := 24 } s m args below meth c 4 D A F 0 0 Q (wX7 ad c9 t_rows t_cells) 4 [(0, .ref (ad 0)), (1, .int v1), (2, .int v2)] [] := by
  intro n
  induction n with
  | zero =>
    intro v1 v2 hf
    rw [f_X7_countLifeErrors_L4] at hf
    cases hf
  | succ n ih =>
    intro v1 v2 hf
    rw [f_X7_countLifeErrors_L4] at hf
    refine v_iload_n X dX7_countLifeErrors_4 2 rfl rfl 5 rfl ?_
    refine v_aload_n X dX7_countLifeErrors_5 0 rfl rfl 6 rfl ?_
    obtain ⟨o1, ho1, hf⟩ := bnd hf
    refine v_callUi X (ci := 8) (T := TX7) (C := RX7) (owner := "TicketGate$Table") (As := []) (rest := [.int v2]) (ws' := (wX7 ad c9 t_rows t_cells)) (c_X6_size l hG D c9 ad 240 8 RX7 rfl layc_X7 24 10 t_rows t_cells ho1) 0 (gU wc_85 wc_86 wc_87 wc_61 wc_34 wc_62) rfl rfl rfl rfl pd_X6_size_UX7_countLifeErrors_15 ⟨Nat.le_of_ble_eq_true rfl, Nat.le_of_ble_eq_true rfl⟩ 0 rfl rfl rfl rfl (Nat.le_of_ble_eq_true rfl) ⟨Nat.zero_le _, Nat.zero_le _⟩ [0, 1] [] [0, 1] rfl rfl rfl rfl dX7_countLifeErrors_6 9 rfl ?_
    refine v_icmp_ge X (tgt := 55) dX7_countLifeErrors_9 rfl 12 rfl hf (fun hf => ?_) (fun hf => ?_)
    · obtain rfl := Option.some.inj hf
      refine v_sub (lv' := [(1, .int v1)]) [1] rfl ?_
      exact K
    · refine v_aload_n X dX7_countLifeErrors_12 0 rfl rfl 13 rfl ?_
      refine v_iload_n X dX7_countLifeErrors_13 2 rfl rfl 14 rfl ?_
      refine v_bipush X dX7_countLifeErrors_14 bp_6 16 rfl ?_
      obtain ⟨o2, ho2, hf⟩ := bnd hf
      refine v_callUi X (ci := 8) (T := TX7) (C := RX7) (owner := "TicketGate$Table") (As := [.int v2, .int 6]) (rest := []) (ws' := (wX7 ad c9 t_rows t_cells)) (c_X6_get l hG D c9 ad 240 8 RX7 rfl layc_X7 24 10 t_rows t_cells v2 6 ho2) 2 (gU wc_82 wc_83 wc_84 wc_33 wc_34 wc_35) rfl rfl rfl rfl pd_X6_get_UX7_countLifeErrors_11 ⟨Nat.le_of_ble_eq_true rfl, Nat.le_of_ble_eq_true rfl⟩ 0 rfl rfl rfl rfl (Nat.le_of_ble_eq_true rfl) ⟨Nat.zero_le _, Nat.zero_le _⟩ [0, 1] [] [0, 1] rfl rfl rfl rfl dX7_countLifeErrors_16 19 rfl ?_
      refine v_istore_n X (lv' := [(3, .int o2), (0, .ref (ad 0)), (1, .int v1), (2, .int v2)]) dX7_countLifeErrors_19 rfl (by decide) rfl 20 rfl ?_
      refine v_iload_n X dX7_countLifeErrors_20 2 rfl rfl 21 rfl ?_
      refine v_aload_n X dX7_countLifeErrors_21 1 rfl rfl 22 rfl ?_
      refine v_iload_n X dX7_countLifeErrors_22 3 rfl rfl 23 rfl ?_
      refine v_iconst X dX7_countLifeErrors_23 ic_5 24 rfl ?_
      obtain ⟨o3, ho3, hf⟩ := bnd hf
      refine v_callUi X (ci := 8) (T := TX7) (C := RX7) (owner := "TicketGate$Table") (As := [.int v2, .int 5]) (rest := [.int v1]) (ws' := (wX7 ad c9 t_rows t_cells)) (c_X6_get l hG D c9 ad 240 8 RX7 rfl layc_X7 24 10 t_rows t_cells v2 5 ho3) 2 (gU wc_82 wc_83 wc_84 wc_33 wc_34 wc_35) rfl rfl rfl rfl pd_X6_get_UX7_countLifeErrors_11 ⟨Nat.le_of_ble_eq_true rfl, Nat.le_of_ble_eq_true rfl⟩ 0 rfl rfl rfl rfl (Nat.le_of_ble_eq_true rfl) ⟨Nat.zero_le _, Nat.zero_le _⟩ [0, 1] [] [0, 1] rfl rfl rfl rfl dX7_countLifeErrors_24 27 rfl ?_
      refine v_iload_n X dX7_countLifeErrors_27 0 rfl rfl 28 rfl ?_
      obtain ⟨j4, hj4, hf⟩ := bnd hf
      have Jj4 : vW p l e { frames := 1, cells := 0, slots := 0, locals := 24 } s m args below meth c 4 D A F 0 0 Q (wX7 ad c9 t_rows t_cells) 47 [(0, .ref (ad 0)), (2, .int v2)] [.int j4, .int v1] := by
        refine v_iadd X dX7_countLifeErrors_47 48 rfl ?_
        refine v_istore_n X (lv' := [(1, .int (v1 + j4)), (0, .ref (ad 0)), (2, .int v2)]) dX7_countLifeErrors_48 rfl (by decide) rfl 49 rfl ?_
        refine v_iinc X (lv' := [(2, .int (v2 + 1)), (1, .int (v1 + j4)), (0, .ref (ad 0))]) dX7_countLifeErrors_49 2 rfl ic_1 (by decide) rfl 52 rfl ?_
        refine v_goto X (tgt := 4) dX7_countLifeErrors_52 rfl ?_
        refine v_sub (lv' := [(0, .ref (ad 0)), (1, .int (v1 + j4)), (2, .int (v2 + 1))]) [2, 1, 0] rfl ?_
        exact ih (v1 + j4) (v2 + 1) hf
      clear hf
      refine v_icmp_ge X (tgt := 42) dX7_countLifeErrors_28 rfl 31 rfl hj4 (fun hf => ?_) (fun hf => ?_)
      · refine v_iconst X dX7_countLifeErrors_42 ic_1 43 rfl ?_
        refine v_goto X (tgt := 47) dX7_countLifeErrors_43 rfl ?_
        obtain rfl := Option.some.inj hf
        refine v_sub (lv' := [(0, .ref (ad 0)), (2, .int v2)]) [1, 3] rfl ?_
        exact Jj4
      · refine v_iload_n X dX7_countLifeErrors_31 0 rfl rfl 32 rfl ?_
        refine v_aload_n X dX7_countLifeErrors_32 1 rfl rfl 33 rfl ?_
        refine v_iload_n X dX7_countLifeErrors_33 3 rfl rfl 34 rfl ?_
        refine v_bipush X dX7_countLifeErrors_34 bp_7 36 rfl ?_
        obtain ⟨o5, ho5, hf⟩ := bnd hf
        refine v_callUi X (ci := 8) (T := TX7) (C := RX7) (owner := "TicketGate$Table") (As := [.int v2, .int 7]) (rest := [.int o2, .int v1]) (ws' := (wX7 ad c9 t_rows t_cells)) (c_X6_get l hG D c9 ad 240 8 RX7 rfl layc_X7 24 10 t_rows t_cells v2 7 ho5) 2 (gU wc_82 wc_83 wc_84 wc_33 wc_34 wc_35) rfl rfl rfl rfl pd_X6_get_UX7_countLifeErrors_11 ⟨Nat.le_of_ble_eq_true rfl, Nat.le_of_ble_eq_true rfl⟩ 0 rfl rfl rfl rfl (Nat.le_of_ble_eq_true rfl) ⟨Nat.zero_le _, Nat.zero_le _⟩ [0, 1] [] [0, 1] rfl rfl rfl rfl dX7_countLifeErrors_36 39 rfl ?_
        refine v_icmp_le X (tgt := 46) dX7_countLifeErrors_39 rfl 42 rfl hf (fun hf => ?_) (fun hf => ?_)
        · refine v_iconst X dX7_countLifeErrors_46 ic_0 47 rfl ?_
          obtain rfl := Option.some.inj hf
          refine v_sub (lv' := [(0, .ref (ad 0)), (2, .int v2)]) [1, 3] rfl ?_
          exact Jj4
        · refine v_iconst X dX7_countLifeErrors_42 ic_1 43 rfl ?_
          refine v_goto X (tgt := 47) dX7_countLifeErrors_43 rfl ?_
          obtain rfl := Option.some.inj hf
          refine v_sub (lv' := [(0, .ref (ad 0)), (2, .int v2)]) [1, 3] rfl ?_
          exact Jj4
set_option maxRecDepth 100000 in
set_option maxHeartbeats 4000000 in
theorem c_X7_countLifeErrors (l : Launch) {G : (Nat → Prop) → State → Heap → Prop} (hG : vG G) (D : va_G) (c9 : Nat → ClassId) (ad : Nat → Nat) (t_rows : Int32) (t_cells : Nat → Int32)  {o : Int32} (hf : f_X7_countLifeErrors t_rows t_cells = some o) : mI l yX7_countLifeErrors (wq yX7_countLifeErrors cX7_countLifeErrors 4 (some .int)) { frames := 1, cells := 0, slots := 0, locals := 24 } G D (tyA c9) [.ref (ad 0)] (wX7 ad c9 t_rows t_cells) [] 0 0 o (wX7 ad c9 t_rows t_cells) := by
  refine mI_of hG (cc := cX7_countLifeErrors) (maxL := 4) (ty := .int) (by decide) rfl (Nat.le_of_ble_eq_true rfl) ?_
  intro p e s m args below meth c A X
  have X : vX p s m args meth c cX7_countLifeErrors 4 (some .int) RX7 (wq yX7_countLifeErrors cX7_countLifeErrors 4 (some .int)) D (tyA c9) G A := X
  refine v_eq (lv2 := [(0, .ref (ad 0))]) rfl rfl rfl rfl ?_
  rw [f_X7_countLifeErrors] at hf
  refine v_iconst X dX7_countLifeErrors_0 ic_0 1 rfl ?_
  refine v_istore_n X (lv' := [(1, .int 0), (0, .ref (ad 0))]) dX7_countLifeErrors_1 rfl (by decide) rfl 2 rfl ?_
  refine v_iconst X dX7_countLifeErrors_2 ic_0 3 rfl ?_
  refine v_istore_n X (lv' := [(2, .int 0), (1, .int 0), (0, .ref (ad 0))]) dX7_countLifeErrors_3 rfl (by decide) rfl 4 rfl ?_
  obtain ⟨o6, ho6, hf⟩ := bnd hf
  refine v_sub (lv' := [(0, .ref (ad 0)), (1, .int 0), (2, .int 0)]) [2, 1, 0] rfl ?_
  refine l_X7_countLifeErrors_L4 l hG D c9 ad t_rows t_cells X o6 ?_ 5000 0 0 ho6
  refine v_iload_n X dX7_countLifeErrors_55 0 rfl rfl 56 rfl ?_
  obtain rfl := Option.some.inj hf
  exact v_iret X (Nat.zero_le _) (Nat.zero_le _) dX7_countLifeErrors_56
theorem pd_X7_countLifeErrors : yX7_countLifeErrors.cls ≠ "java/lang/invoke/MethodHandle" ∧ yX7_countLifeErrors.cls ≠ "java/lang/invoke/VarHandle" ∧ (parseMethodDescriptor yX7_countLifeErrors.desc).map (fun d => d.parameters.length) = some 0 := by decide +kernel
theorem pd_X6_size_UX7_removeDead_15 : "TicketGate$Table" ≠ "java/lang/invoke/MethodHandle" ∧ "TicketGate$Table" ≠ "java/lang/invoke/VarHandle" ∧ (parseMethodDescriptor "()I").map (fun d => d.parameters.length) = some 0 := by decide +kernel
theorem pd_X6_removeRow_UX7_removeDead_23 : "TicketGate$Table" ≠ "java/lang/invoke/MethodHandle" ∧ "TicketGate$Table" ≠ "java/lang/invoke/VarHandle" ∧ (parseMethodDescriptor "(I)V").map (fun d => d.parameters.length) = some 1 := by decide +kernel
def f_X7_removeDead_L9 (v1 : Int32) : Nat → Int32 → (Nat → Int32) → Int32 → Option (Int32 × (Nat → Int32))
  | 0, _, _, _ => none
  | n + 1, t_rows, t_cells, v3 =>
    if v3 < 0 then (
      some (t_rows, t_cells))
    else (
      (f_X7_isAlive t_rows t_cells v3 v1).bind fun o2 =>
      if o2 = 0 then (
        (f_X6_removeRow 240 10 t_rows t_cells v3).bind fun o3 =>
        f_X7_removeDead_L9 v1 n o3.1 o3.2 (v3 + (-1)))
      else (
        f_X7_removeDead_L9 v1 n t_rows t_cells (v3 + (-1))))
def f_X7_removeDead (t_rows : Int32) (t_cells : Nat → Int32) (v1 : Int32) : Option (Int32 × Int32 × (Nat → Int32)) :=
  (f_X6_size 240 t_rows).bind fun o1 =>
  (f_X7_removeDead_L9 v1 5000 t_rows t_cells (o1 - 1)).bind fun o4 =>
  (f_X6_size 240 o4.1).bind fun o5 =>
  some ((o1 - o5), o4.1, o4.2)
set_option maxRecDepth 100000 in
set_option maxHeartbeats 4000000 in
theorem l_X7_removeDead_L9 (l : Launch) {G : (Nat → Prop) → State → Heap → Prop} (hG : vG G) (D : va_G) (c9 : Nat → ClassId) (ad : Nat → Nat) (v1 : Int32) (v2 : Int32) {p : Program} {e : Env} {s : State} {m : MethodId} {args : Array Value} {below : List Frame} {meth : Method} {c : Code} {A : Nat → Prop} {F : va_W} (X : vX p s m args meth c cX7_removeDead 4 (some .int) RX7 (wq yX7_removeDead cX7_removeDead 4 (some .int)) D (tyA c9) G A) {Q : State → Prop} (o : Int32 × (Nat → Int32)) (K : vW p l e { frames := 2, cells := 0, slots := 0, locals := 46 } s m args below meth c 4 D A F 0 0 Q (wX7 ad c9 o.1 o.2) 33 [(0, .ref (ad 0)), (2, .int v2)] []) :
    ∀ (n : Nat) (t_rows : Int32) (t_cells : Nat → Int32) (v3 : Int32), f_X7_removeDead_L9 v1 n t_rows t_cells v3 = some o → vW p l e { frames := 2, cells := 0, slots := 0, locals := 46 } s m args below meth c 4 D A F 0 0 Q (wX7 ad c9 t_rows t_cells) 9 [(0, .ref (ad 0)), (1, .int v1), (2, .int v2), (3, .int v3)] [] := by
  intro n
  induction n with
  | zero =>
    intro t_rows t_cells v3 hf
    rw [f_X7_removeDead_L9] at hf
    cases hf
  | succ n ih =>
    intro t_rows t_cells v3 hf
    rw [f_X7_removeDead_L9] at hf
    refine v_iload_n X dX7_removeDead_9 3 rfl rfl 10 rfl ?_
    refine v_if_lt X (tgt := 33) dX7_removeDead_10 rfl 13 rfl hf (fun hf => ?_) (fun hf => ?_)
    · obtain rfl := Option.some.inj hf
      refine v_sub (lv' := [(0, .ref (ad 0)), (2, .int v2)]) [0, 2] rfl ?_
      exact K
    · refine v_aload_n X dX7_removeDead_13 0 rfl rfl 14 rfl ?_
      refine v_iload_n X dX7_removeDead_14 3 rfl rfl 15 rfl ?_
      refine v_iload_n X dX7_removeDead_15 1 rfl rfl 16 rfl ?_
      obtain ⟨o2, ho2, hf⟩ := bnd hf
      refine v_callVi X (ci := 8) (T := TX7) (C := RX7) (As := [.int v3, .int v1]) (rest := []) (ws' := (wX7 ad c9 t_rows t_cells)) (c_X7_isAlive l hG D c9 ad t_rows t_cells v3 v1 ho2) 2 (gV wc_88 wc_89 wc_90 wc_91 wc_92) rfl rfl rfl ⟨rfl, pd_X7_isAlive⟩ ⟨Nat.le_of_ble_eq_true rfl, Nat.le_of_ble_eq_true rfl⟩ 0 rfl rfl rfl rfl (Nat.le_of_ble_eq_true rfl) ⟨Nat.zero_le _, Nat.zero_le _⟩ [0, 1] [] [0, 1] rfl rfl rfl rfl dX7_removeDead_16 19 rfl ?_
      refine v_if_ne X (tgt := 27) dX7_removeDead_19 rfl 22 rfl hf (fun hf => ?_) (fun hf => ?_)
      · refine v_iinc X (lv' := [(3, .int (v3 + (-1))), (0, .ref (ad 0)), (1, .int v1), (2, .int v2)]) dX7_removeDead_27 3 rfl ic_m1 (by decide) rfl 30 rfl ?_
        refine v_goto X (tgt := 9) dX7_removeDead_30 rfl ?_
        refine v_sub (lv' := [(0, .ref (ad 0)), (1, .int v1), (2, .int v2), (3, .int (v3 + (-1)))]) [1, 2, 3, 0] rfl ?_
        exact ih t_rows t_cells (v3 + (-1)) hf
      · refine v_aload_n X dX7_removeDead_22 0 rfl rfl 23 rfl ?_
        refine v_iload_n X dX7_removeDead_23 3 rfl rfl 24 rfl ?_
        obtain ⟨o3, ho3, hf⟩ := bnd hf
        refine v_callUv X (ci := 8) (T := TX7) (C := RX7) (owner := "TicketGate$Table") (As := [.int v3]) (rest := []) (ws' := (wX7 ad c9 o3.1 o3.2)) (c_X6_removeRow l hG D c9 ad 240 8 RX7 rfl layc_X7 24 10 t_rows t_cells v3 ho3) 1 (gU wc_93 wc_94 wc_95 wc_96 wc_34 wc_97) rfl rfl rfl rfl pd_X6_removeRow_UX7_removeDead_23 ⟨Nat.le_of_ble_eq_true rfl, Nat.le_of_ble_eq_true rfl⟩ 0 rfl rfl rfl rfl (Nat.le_of_ble_eq_true rfl) ⟨Nat.zero_le _, Nat.zero_le _⟩ [0, 1] [] [0, 1] rfl rfl rfl rfl dX7_removeDead_24 27 rfl ?_
        refine v_iinc X (lv' := [(3, .int (v3 + (-1))), (0, .ref (ad 0)), (1, .int v1), (2, .int v2)]) dX7_removeDead_27 3 rfl ic_m1 (by decide) rfl 30 rfl ?_
        refine v_goto X (tgt := 9) dX7_removeDead_30 rfl ?_
        refine v_sub (lv' := [(0, .ref (ad 0)), (1, .int v1), (2, .int v2), (3, .int (v3 + (-1)))]) [1, 2, 3, 0] rfl ?_
        exact ih o3.1 o3.2 (v3 + (-1)) hf
set_option maxRecDepth 100000 in
set_option maxHeartbeats 4000000 in
theorem c_X7_removeDead (l : Launch) {G : (Nat → Prop) → State → Heap → Prop} (hG : vG G) (D : va_G) (c9 : Nat → ClassId) (ad : Nat → Nat) (t_rows : Int32) (t_cells : Nat → Int32) (v1 : Int32) {o : Int32 × Int32 × (Nat → Int32)} (hf : f_X7_removeDead t_rows t_cells v1 = some o) : mI l yX7_removeDead (wq yX7_removeDead cX7_removeDead 4 (some .int)) { frames := 2, cells := 0, slots := 0, locals := 46 } G D (tyA c9) [.ref (ad 0), .int v1] (wX7 ad c9 t_rows t_cells) [] 0 0 o.1 (wX7 ad c9 o.2.1 o.2.2) := by
  refine mI_of hG (cc := cX7_removeDead) (maxL := 4) (ty := .int) (by decide) rfl (Nat.le_of_ble_eq_true rfl) ?_
  intro p e s m args below meth c A X
  have X : vX p s m args meth c cX7_removeDead 4 (some .int) RX7 (wq yX7_removeDead cX7_removeDead 4 (some .int)) D (tyA c9) G A := X
  refine v_eq (lv2 := [(0, .ref (ad 0)), (1, .int v1)]) rfl rfl rfl rfl ?_
  rw [f_X7_removeDead] at hf
  refine v_aload_n X dX7_removeDead_0 0 rfl rfl 1 rfl ?_
  obtain ⟨o1, ho1, hf⟩ := bnd hf
  refine v_callUi X (ci := 8) (T := TX7) (C := RX7) (owner := "TicketGate$Table") (As := []) (rest := []) (ws' := (wX7 ad c9 t_rows t_cells)) (c_X6_size l hG D c9 ad 240 8 RX7 rfl layc_X7 24 10 t_rows t_cells ho1) 0 (gU wc_85 wc_86 wc_87 wc_61 wc_34 wc_62) rfl rfl rfl rfl pd_X6_size_UX7_removeDead_15 ⟨Nat.le_of_ble_eq_true rfl, Nat.le_of_ble_eq_true rfl⟩ 0 rfl rfl rfl rfl (Nat.le_of_ble_eq_true rfl) ⟨Nat.zero_le _, Nat.zero_le _⟩ [0, 1] [] [0, 1] rfl rfl rfl rfl dX7_removeDead_1 4 rfl ?_
  refine v_istore_n X (lv' := [(2, .int o1), (0, .ref (ad 0)), (1, .int v1)]) dX7_removeDead_4 rfl (by decide) rfl 5 rfl ?_
  refine v_iload_n X dX7_removeDead_5 0 rfl rfl 6 rfl ?_
  refine v_iconst X dX7_removeDead_6 ic_1 7 rfl ?_
  refine v_isub X dX7_removeDead_7 8 rfl ?_
  refine v_istore_n X (lv' := [(3, .int (o1 - 1)), (2, .int o1), (0, .ref (ad 0)), (1, .int v1)]) dX7_removeDead_8 rfl (by decide) rfl 9 rfl ?_
  obtain ⟨o4, ho4, hf⟩ := bnd hf
  refine v_sub (lv' := [(0, .ref (ad 0)), (1, .int v1), (2, .int o1), (3, .int (o1 - 1))]) [2, 3, 1, 0] rfl ?_
  refine l_X7_removeDead_L9 l hG D c9 ad v1 o1 X o4 ?_ 5000 t_rows t_cells (o1 - 1) ho4
  refine v_iload_n X dX7_removeDead_33 1 rfl rfl 34 rfl ?_
  refine v_aload_n X dX7_removeDead_34 0 rfl rfl 35 rfl ?_
  obtain ⟨o5, ho5, hf⟩ := bnd hf
  refine v_callUi X (ci := 8) (T := TX7) (C := RX7) (owner := "TicketGate$Table") (As := []) (rest := [.int o1]) (ws' := (wX7 ad c9 o4.1 o4.2)) (c_X6_size l hG D c9 ad 240 8 RX7 rfl layc_X7 24 10 o4.1 o4.2 ho5) 0 (gU wc_85 wc_86 wc_87 wc_61 wc_34 wc_62) rfl rfl rfl rfl pd_X6_size_UX7_removeDead_15 ⟨Nat.le_of_ble_eq_true rfl, Nat.le_of_ble_eq_true rfl⟩ 0 rfl rfl rfl rfl (Nat.le_of_ble_eq_true rfl) ⟨Nat.zero_le _, Nat.zero_le _⟩ [0, 1] [] [0, 1] rfl rfl rfl rfl dX7_removeDead_35 38 rfl ?_
  refine v_isub X dX7_removeDead_38 39 rfl ?_
  obtain rfl := Option.some.inj hf
  exact v_iret X (Nat.zero_le _) (Nat.zero_le _) dX7_removeDead_39
theorem pd_X7_removeDead : yX7_removeDead.cls ≠ "java/lang/invoke/MethodHandle" ∧ yX7_removeDead.cls ≠ "java/lang/invoke/VarHandle" ∧ (parseMethodDescriptor yX7_removeDead.desc).map (fun d => d.parameters.length) = some 1 := by decide +kernel
theorem pd_X6_addRow_UX8_addUser_11 : "TicketGate$Table" ≠ "java/lang/invoke/MethodHandle" ∧ "TicketGate$Table" ≠ "java/lang/invoke/VarHandle" ∧ (parseMethodDescriptor "()I").map (fun d => d.parameters.length) = some 0 := by decide +kernel
theorem pd_X6_set_UX8_addUser_15 : "TicketGate$Table" ≠ "java/lang/invoke/MethodHandle" ∧ "TicketGate$Table" ≠ "java/lang/invoke/VarHandle" ∧ (parseMethodDescriptor "(III)V").map (fun d => d.parameters.length) = some 3 := by decide +kernel
def f_X8_addUser (t_rows : Int32) (t_cells : Nat → Int32) (v1 : Int32) (v2 : Int32) (v3 : Int32) (v4 : Int32) : Option (Int32 × (Nat → Int32)) :=
  (f_X6_addRow 30 6 t_rows).bind fun o1 =>
  (f_X6_set 30 5 o1.2 t_cells o1.1 0 v1).bind fun o2 =>
  (f_X6_set 30 5 o1.2 o2 o1.1 1 v2).bind fun o3 =>
  (f_X6_set 30 5 o1.2 o3 o1.1 2 v3).bind fun o4 =>
  (f_X6_set 30 5 o1.2 o4 o1.1 3 v4).bind fun o5 =>
  (f_X6_set 30 5 o1.2 o5 o1.1 4 0).bind fun o6 =>
  some (o1.2, o6)
set_option maxRecDepth 100000 in
set_option maxHeartbeats 4000000 in
theorem c_X8_addUser (l : Launch) {G : (Nat → Prop) → State → Heap → Prop} (hG : vG G) (D : va_G) (c9 : Nat → ClassId) (ad : Nat → Nat) (t_rows : Int32) (t_cells : Nat → Int32) (v1 : Int32) (v2 : Int32) (v3 : Int32) (v4 : Int32) {o : Int32 × (Nat → Int32)} (hf : f_X8_addUser t_rows t_cells v1 v2 v3 v4 = some o) : mV l yX8_addUser (wq yX8_addUser cX8_addUser 6 none) { frames := 1, cells := 0, slots := 0, locals := 24 } G D (tyA c9) [.ref (ad 0), .int v1, .int v2, .int v3, .int v4] (wX8 ad c9 t_rows t_cells) [] 0 0 (wX8 ad c9 o.1 o.2) := by
  refine mV_of hG (cc := cX8_addUser) (maxL := 6) (by decide) rfl (Nat.le_of_ble_eq_true rfl) ?_
  intro p e s m args below meth c A hnm X
  have X : vX p s m args meth c cX8_addUser 6 none RX8 (wq yX8_addUser cX8_addUser 6 none) D (tyA c9) G A := X
  refine v_eq (lv2 := [(0, .ref (ad 0)), (1, .int v1), (2, .int v2), (3, .int v3), (4, .int v4)]) rfl rfl rfl rfl ?_
  rw [f_X8_addUser] at hf
  refine v_aload_n X dX8_addUser_0 0 rfl rfl 1 rfl ?_
  obtain ⟨o1, ho1, hf⟩ := bnd hf
  refine v_callUi X (ci := 9) (T := TX8) (C := RX8) (owner := "TicketGate$Table") (As := []) (rest := []) (ws' := (wX8 ad c9 o1.2 t_cells)) (c_X6_addRow l hG D c9 ad 30 9 RX8 rfl layc_X8 6 5 t_rows t_cells ho1) 0 (gU wc_102 wc_103 wc_104 wc_48 wc_34 wc_49) rfl rfl rfl rfl pd_X6_addRow_UX8_addUser_11 ⟨Nat.le_of_ble_eq_true rfl, Nat.le_of_ble_eq_true rfl⟩ 0 rfl rfl rfl rfl (Nat.le_of_ble_eq_true rfl) ⟨Nat.zero_le _, Nat.zero_le _⟩ [0, 1] [] [0, 1] rfl rfl rfl rfl dX8_addUser_1 4 rfl ?_
  refine v_istore X (lv' := [(5, .int o1.1), (0, .ref (ad 0)), (1, .int v1), (2, .int v2), (3, .int v3), (4, .int v4)]) dX8_addUser_4 (by decide) rfl 6 rfl ?_
  refine v_aload_n X dX8_addUser_6 1 rfl rfl 7 rfl ?_
  refine v_iload X dX8_addUser_7 0 rfl 9 rfl ?_
  refine v_iconst X dX8_addUser_9 ic_0 10 rfl ?_
  refine v_iload_n X dX8_addUser_10 2 rfl rfl 11 rfl ?_
  obtain ⟨o2, ho2, hf⟩ := bnd hf
  refine v_callUv X (ci := 9) (T := TX8) (C := RX8) (owner := "TicketGate$Table") (As := [.int o1.1, .int 0, .int v1]) (rest := []) (ws' := (wX8 ad c9 o1.2 o2)) (c_X6_set l hG D c9 ad 30 9 RX8 rfl layc_X8 6 5 o1.2 t_cells o1.1 0 v1 ho2) 3 (gU wc_105 wc_106 wc_107 wc_53 wc_34 wc_54) rfl rfl rfl rfl pd_X6_set_UX8_addUser_15 ⟨Nat.le_of_ble_eq_true rfl, Nat.le_of_ble_eq_true rfl⟩ 0 rfl rfl rfl rfl (Nat.le_of_ble_eq_true rfl) ⟨Nat.zero_le _, Nat.zero_le _⟩ [0, 1] [] [0, 1] rfl rfl rfl rfl dX8_addUser_11 14 rfl ?_
  refine v_aload_n X dX8_addUser_14 1 rfl rfl 15 rfl ?_
  refine v_iload X dX8_addUser_15 0 rfl 17 rfl ?_
  refine v_iconst X dX8_addUser_17 ic_1 18 rfl ?_
  refine v_iload_n X dX8_addUser_18 3 rfl rfl 19 rfl ?_
  obtain ⟨o3, ho3, hf⟩ := bnd hf
  refine v_callUv X (ci := 9) (T := TX8) (C := RX8) (owner := "TicketGate$Table") (As := [.int o1.1, .int 1, .int v2]) (rest := []) (ws' := (wX8 ad c9 o1.2 o3)) (c_X6_set l hG D c9 ad 30 9 RX8 rfl layc_X8 6 5 o1.2 o2 o1.1 1 v2 ho3) 3 (gU wc_105 wc_106 wc_107 wc_53 wc_34 wc_54) rfl rfl rfl rfl pd_X6_set_UX8_addUser_15 ⟨Nat.le_of_ble_eq_true rfl, Nat.le_of_ble_eq_true rfl⟩ 0 rfl rfl rfl rfl (Nat.le_of_ble_eq_true rfl) ⟨Nat.zero_le _, Nat.zero_le _⟩ [0, 1] [] [0, 1] rfl rfl rfl rfl dX8_addUser_19 22 rfl ?_
  refine v_aload_n X dX8_addUser_22 1 rfl rfl 23 rfl ?_
  refine v_iload X dX8_addUser_23 0 rfl 25 rfl ?_
  refine v_iconst X dX8_addUser_25 ic_2 26 rfl ?_
  refine v_iload_n X dX8_addUser_26 4 rfl rfl 27 rfl ?_
  obtain ⟨o4, ho4, hf⟩ := bnd hf
  refine v_callUv X (ci := 9) (T := TX8) (C := RX8) (owner := "TicketGate$Table") (As := [.int o1.1, .int 2, .int v3]) (rest := []) (ws' := (wX8 ad c9 o1.2 o4)) (c_X6_set l hG D c9 ad 30 9 RX8 rfl layc_X8 6 5 o1.2 o3 o1.1 2 v3 ho4) 3 (gU wc_105 wc_106 wc_107 wc_53 wc_34 wc_54) rfl rfl rfl rfl pd_X6_set_UX8_addUser_15 ⟨Nat.le_of_ble_eq_true rfl, Nat.le_of_ble_eq_true rfl⟩ 0 rfl rfl rfl rfl (Nat.le_of_ble_eq_true rfl) ⟨Nat.zero_le _, Nat.zero_le _⟩ [0, 1] [] [0, 1] rfl rfl rfl rfl dX8_addUser_27 30 rfl ?_
  refine v_aload_n X dX8_addUser_30 1 rfl rfl 31 rfl ?_
  refine v_iload X dX8_addUser_31 0 rfl 33 rfl ?_
  refine v_iconst X dX8_addUser_33 ic_3 34 rfl ?_
  refine v_iload X dX8_addUser_34 5 rfl 36 rfl ?_
  obtain ⟨o5, ho5, hf⟩ := bnd hf
  refine v_callUv X (ci := 9) (T := TX8) (C := RX8) (owner := "TicketGate$Table") (As := [.int o1.1, .int 3, .int v4]) (rest := []) (ws' := (wX8 ad c9 o1.2 o5)) (c_X6_set l hG D c9 ad 30 9 RX8 rfl layc_X8 6 5 o1.2 o4 o1.1 3 v4 ho5) 3 (gU wc_105 wc_106 wc_107 wc_53 wc_34 wc_54) rfl rfl rfl rfl pd_X6_set_UX8_addUser_15 ⟨Nat.le_of_ble_eq_true rfl, Nat.le_of_ble_eq_true rfl⟩ 0 rfl rfl rfl rfl (Nat.le_of_ble_eq_true rfl) ⟨Nat.zero_le _, Nat.zero_le _⟩ [0, 1] [] [0, 1] rfl rfl rfl rfl dX8_addUser_36 39 rfl ?_
  refine v_aload_n X dX8_addUser_39 1 rfl rfl 40 rfl ?_
  refine v_iload X dX8_addUser_40 0 rfl 42 rfl ?_
  refine v_iconst X dX8_addUser_42 ic_4 43 rfl ?_
  refine v_iconst X dX8_addUser_43 ic_0 44 rfl ?_
  obtain ⟨o6, ho6, hf⟩ := bnd hf
  refine v_callUv X (ci := 9) (T := TX8) (C := RX8) (owner := "TicketGate$Table") (As := [.int o1.1, .int 4, .int 0]) (rest := []) (ws' := (wX8 ad c9 o1.2 o6)) (c_X6_set l hG D c9 ad 30 9 RX8 rfl layc_X8 6 5 o1.2 o5 o1.1 4 0 ho6) 3 (gU wc_105 wc_106 wc_107 wc_53 wc_34 wc_54) rfl rfl rfl rfl pd_X6_set_UX8_addUser_15 ⟨Nat.le_of_ble_eq_true rfl, Nat.le_of_ble_eq_true rfl⟩ 0 rfl rfl rfl rfl (Nat.le_of_ble_eq_true rfl) ⟨Nat.zero_le _, Nat.zero_le _⟩ [0, 1] [] [0, 1] rfl rfl rfl rfl dX8_addUser_44 47 rfl ?_
  obtain rfl := Option.some.inj hf
  exact v_vret X (Nat.zero_le _) (Nat.zero_le _) dX8_addUser_47
theorem pd_X8_addUser : yX8_addUser.cls ≠ "java/lang/invoke/MethodHandle" ∧ yX8_addUser.cls ≠ "java/lang/invoke/VarHandle" ∧ (parseMethodDescriptor yX8_addUser.desc).map (fun d => d.parameters.length) = some 4 := by decide +kernel
theorem pd_X6_isFull_UX9_addUse_11 : "TicketGate$Table" ≠ "java/lang/invoke/MethodHandle" ∧ "TicketGate$Table" ≠ "java/lang/invoke/VarHandle" ∧ (parseMethodDescriptor "()Z").map (fun d => d.parameters.length) = some 0 := by decide +kernel
theorem pd_X6_removeRow_UX9_addUse_15 : "TicketGate$Table" ≠ "java/lang/invoke/MethodHandle" ∧ "TicketGate$Table" ≠ "java/lang/invoke/VarHandle" ∧ (parseMethodDescriptor "(I)V").map (fun d => d.parameters.length) = some 1 := by decide +kernel
theorem pd_X6_addRow_UX9_addUse_19 : "TicketGate$Table" ≠ "java/lang/invoke/MethodHandle" ∧ "TicketGate$Table" ≠ "java/lang/invoke/VarHandle" ∧ (parseMethodDescriptor "()I").map (fun d => d.parameters.length) = some 0 := by decide +kernel
theorem pd_X6_set_UX9_addUse_23 : "TicketGate$Table" ≠ "java/lang/invoke/MethodHandle" ∧ "TicketGate$Table" ≠ "java/lang/invoke/VarHandle" ∧ (parseMethodDescriptor "(III)V").map (fun d => d.parameters.length) = some 3 := by decide +kernel
def f_X9_addUse (t_rows : Int32) (t_cells : Nat → Int32) (v1 : Int32) (v2 : Int32) (v3 : Int32) (v4 : Int32) : Option (Int32 × (Nat → Int32)) :=
  (f_X6_isFull 120 30 t_rows).bind fun o1 =>
  Option.bind (if o1 = 0 then (
    some (t_rows, t_cells))
  else (
    (f_X6_removeRow 120 4 t_rows t_cells 0).bind fun o3 =>
    some (o3.1, o3.2)) : Option (Int32 × (Nat → Int32))) fun j2 =>
  (f_X6_addRow 120 30 j2.1).bind fun o4 =>
  (f_X6_set 120 4 o4.2 j2.2 o4.1 0 v1).bind fun o5 =>
  (f_X6_set 120 4 o4.2 o5 o4.1 1 v2).bind fun o6 =>
  (f_X6_set 120 4 o4.2 o6 o4.1 2 v3).bind fun o7 =>
  (f_X6_set 120 4 o4.2 o7 o4.1 3 v4).bind fun o8 =>
  some (o4.2, o8)
set_option maxRecDepth 100000 in
set_option maxHeartbeats 4000000 in
theorem c_X9_addUse (l : Launch) {G : (Nat → Prop) → State → Heap → Prop} (hG : vG G) (D : va_G) (c9 : Nat → ClassId) (ad : Nat → Nat) (t_rows : Int32) (t_cells : Nat → Int32) (v1 : Int32) (v2 : Int32) (v3 : Int32) (v4 : Int32) {o : Int32 × (Nat → Int32)} (hf : f_X9_addUse t_rows t_cells v1 v2 v3 v4 = some o) : mV l yX9_addUse (wq yX9_addUse cX9_addUse 6 none) { frames := 1, cells := 0, slots := 0, locals := 24 } G D (tyA c9) [.ref (ad 0), .int v1, .int v2, .int v3, .int v4] (wX9 ad c9 t_rows t_cells) [] 0 0 (wX9 ad c9 o.1 o.2) := by
  refine mV_of hG (cc := cX9_addUse) (maxL := 6) (by decide) rfl (Nat.le_of_ble_eq_true rfl) ?_
  intro p e s m args below meth c A hnm X
  have X : vX p s m args meth c cX9_addUse 6 none RX9 (wq yX9_addUse cX9_addUse 6 none) D (tyA c9) G A := X
  refine v_eq (lv2 := [(0, .ref (ad 0)), (1, .int v1), (2, .int v2), (3, .int v3), (4, .int v4)]) rfl rfl rfl rfl ?_
  rw [f_X9_addUse] at hf
  refine v_aload_n X dX9_addUse_0 0 rfl rfl 1 rfl ?_
  obtain ⟨o1, ho1, hf⟩ := bnd hf
  refine v_callUi X (ci := 10) (T := TX9) (C := RX9) (owner := "TicketGate$Table") (As := []) (rest := []) (ws' := (wX9 ad c9 t_rows t_cells)) (c_X6_isFull l hG D c9 ad 120 10 RX9 rfl layc_X9 30 4 t_rows t_cells ho1) 0 (gU wc_112 wc_113 wc_114 wc_115 wc_34 wc_116) rfl rfl rfl rfl pd_X6_isFull_UX9_addUse_11 ⟨Nat.le_of_ble_eq_true rfl, Nat.le_of_ble_eq_true rfl⟩ 0 rfl rfl rfl rfl (Nat.le_of_ble_eq_true rfl) ⟨Nat.zero_le _, Nat.zero_le _⟩ [0, 1] [] [0, 1] rfl rfl rfl rfl dX9_addUse_1 4 rfl ?_
  obtain ⟨j2, hj2, hf⟩ := bnd hf
  have Jj2 : vW p l e { frames := 1, cells := 0, slots := 0, locals := 24 } s m args below meth c 6 D A [] 0 0 (MQ below (eV D (tyA c9) A ((wX9 ad c9 o.1 o.2) ++ [])) args s 0 0 A) (wX9 ad c9 j2.1 j2.2) 12 [(0, .ref (ad 0)), (1, .int v1), (2, .int v2), (3, .int v3), (4, .int v4)] [] := by
    refine v_aload_n X dX9_addUse_12 0 rfl rfl 13 rfl ?_
    obtain ⟨o4, ho4, hf⟩ := bnd hf
    refine v_callUi X (ci := 10) (T := TX9) (C := RX9) (owner := "TicketGate$Table") (As := []) (rest := []) (ws' := (wX9 ad c9 o4.2 j2.2)) (c_X6_addRow l hG D c9 ad 120 10 RX9 rfl layc_X9 30 4 j2.1 j2.2 ho4) 0 (gU wc_120 wc_121 wc_122 wc_48 wc_34 wc_49) rfl rfl rfl rfl pd_X6_addRow_UX9_addUse_19 ⟨Nat.le_of_ble_eq_true rfl, Nat.le_of_ble_eq_true rfl⟩ 0 rfl rfl rfl rfl (Nat.le_of_ble_eq_true rfl) ⟨Nat.zero_le _, Nat.zero_le _⟩ [0, 1] [] [0, 1] rfl rfl rfl rfl dX9_addUse_13 16 rfl ?_
    refine v_istore X (lv' := [(5, .int o4.1), (0, .ref (ad 0)), (1, .int v1), (2, .int v2), (3, .int v3), (4, .int v4)]) dX9_addUse_16 (by decide) rfl 18 rfl ?_
    refine v_aload_n X dX9_addUse_18 1 rfl rfl 19 rfl ?_
    refine v_iload X dX9_addUse_19 0 rfl 21 rfl ?_
    refine v_iconst X dX9_addUse_21 ic_0 22 rfl ?_
    refine v_iload_n X dX9_addUse_22 2 rfl rfl 23 rfl ?_
    obtain ⟨o5, ho5, hf⟩ := bnd hf
    refine v_callUv X (ci := 10) (T := TX9) (C := RX9) (owner := "TicketGate$Table") (As := [.int o4.1, .int 0, .int v1]) (rest := []) (ws' := (wX9 ad c9 o4.2 o5)) (c_X6_set l hG D c9 ad 120 10 RX9 rfl layc_X9 30 4 o4.2 j2.2 o4.1 0 v1 ho5) 3 (gU wc_123 wc_124 wc_125 wc_53 wc_34 wc_54) rfl rfl rfl rfl pd_X6_set_UX9_addUse_23 ⟨Nat.le_of_ble_eq_true rfl, Nat.le_of_ble_eq_true rfl⟩ 0 rfl rfl rfl rfl (Nat.le_of_ble_eq_true rfl) ⟨Nat.zero_le _, Nat.zero_le _⟩ [0, 1] [] [0, 1] rfl rfl rfl rfl dX9_addUse_23 26 rfl ?_
    refine v_aload_n X dX9_addUse_26 1 rfl rfl 27 rfl ?_
    refine v_iload X dX9_addUse_27 0 rfl 29 rfl ?_
    refine v_iconst X dX9_addUse_29 ic_1 30 rfl ?_
    refine v_iload_n X dX9_addUse_30 3 rfl rfl 31 rfl ?_
    obtain ⟨o6, ho6, hf⟩ := bnd hf
    refine v_callUv X (ci := 10) (T := TX9) (C := RX9) (owner := "TicketGate$Table") (As := [.int o4.1, .int 1, .int v2]) (rest := []) (ws' := (wX9 ad c9 o4.2 o6)) (c_X6_set l hG D c9 ad 120 10 RX9 rfl layc_X9 30 4 o4.2 o5 o4.1 1 v2 ho6) 3 (gU wc_123 wc_124 wc_125 wc_53 wc_34 wc_54) rfl rfl rfl rfl pd_X6_set_UX9_addUse_23 ⟨Nat.le_of_ble_eq_true rfl, Nat.le_of_ble_eq_true rfl⟩ 0 rfl rfl rfl rfl (Nat.le_of_ble_eq_true rfl) ⟨Nat.zero_le _, Nat.zero_le _⟩ [0, 1] [] [0, 1] rfl rfl rfl rfl dX9_addUse_31 34 rfl ?_
    refine v_aload_n X dX9_addUse_34 1 rfl rfl 35 rfl ?_
    refine v_iload X dX9_addUse_35 0 rfl 37 rfl ?_
    refine v_iconst X dX9_addUse_37 ic_2 38 rfl ?_
    refine v_iload_n X dX9_addUse_38 4 rfl rfl 39 rfl ?_
    obtain ⟨o7, ho7, hf⟩ := bnd hf
    refine v_callUv X (ci := 10) (T := TX9) (C := RX9) (owner := "TicketGate$Table") (As := [.int o4.1, .int 2, .int v3]) (rest := []) (ws' := (wX9 ad c9 o4.2 o7)) (c_X6_set l hG D c9 ad 120 10 RX9 rfl layc_X9 30 4 o4.2 o6 o4.1 2 v3 ho7) 3 (gU wc_123 wc_124 wc_125 wc_53 wc_34 wc_54) rfl rfl rfl rfl pd_X6_set_UX9_addUse_23 ⟨Nat.le_of_ble_eq_true rfl, Nat.le_of_ble_eq_true rfl⟩ 0 rfl rfl rfl rfl (Nat.le_of_ble_eq_true rfl) ⟨Nat.zero_le _, Nat.zero_le _⟩ [0, 1] [] [0, 1] rfl rfl rfl rfl dX9_addUse_39 42 rfl ?_
    refine v_aload_n X dX9_addUse_42 1 rfl rfl 43 rfl ?_
    refine v_iload X dX9_addUse_43 0 rfl 45 rfl ?_
    refine v_iconst X dX9_addUse_45 ic_3 46 rfl ?_
    refine v_iload X dX9_addUse_46 5 rfl 48 rfl ?_
    obtain ⟨o8, ho8, hf⟩ := bnd hf
    refine v_callUv X (ci := 10) (T := TX9) (C := RX9) (owner := "TicketGate$Table") (As := [.int o4.1, .int 3, .int v4]) (rest := []) (ws' := (wX9 ad c9 o4.2 o8)) (c_X6_set l hG D c9 ad 120 10 RX9 rfl layc_X9 30 4 o4.2 o7 o4.1 3 v4 ho8) 3 (gU wc_123 wc_124 wc_125 wc_53 wc_34 wc_54) rfl rfl rfl rfl pd_X6_set_UX9_addUse_23 ⟨Nat.le_of_ble_eq_true rfl, Nat.le_of_ble_eq_true rfl⟩ 0 rfl rfl rfl rfl (Nat.le_of_ble_eq_true rfl) ⟨Nat.zero_le _, Nat.zero_le _⟩ [0, 1] [] [0, 1] rfl rfl rfl rfl dX9_addUse_48 51 rfl ?_
    obtain rfl := Option.some.inj hf
    exact v_vret X (Nat.zero_le _) (Nat.zero_le _) dX9_addUse_51
  clear hf
  refine v_if_eq X (tgt := 12) dX9_addUse_4 rfl 7 rfl hj2 (fun hf => ?_) (fun hf => ?_)
  · obtain rfl := Option.some.inj hf
    exact Jj2
  · refine v_aload_n X dX9_addUse_7 0 rfl rfl 8 rfl ?_
    refine v_iconst X dX9_addUse_8 ic_0 9 rfl ?_
    obtain ⟨o3, ho3, hf⟩ := bnd hf
    refine v_callUv X (ci := 10) (T := TX9) (C := RX9) (owner := "TicketGate$Table") (As := [.int 0]) (rest := []) (ws' := (wX9 ad c9 o3.1 o3.2)) (c_X6_removeRow l hG D c9 ad 120 10 RX9 rfl layc_X9 30 4 t_rows t_cells 0 ho3) 1 (gU wc_117 wc_118 wc_119 wc_96 wc_34 wc_97) rfl rfl rfl rfl pd_X6_removeRow_UX9_addUse_15 ⟨Nat.le_of_ble_eq_true rfl, Nat.le_of_ble_eq_true rfl⟩ 0 rfl rfl rfl rfl (Nat.le_of_ble_eq_true rfl) ⟨Nat.zero_le _, Nat.zero_le _⟩ [0, 1] [] [0, 1] rfl rfl rfl rfl dX9_addUse_9 12 rfl ?_
    obtain rfl := Option.some.inj hf
    exact Jj2
theorem pd_X9_addUse : yX9_addUse.cls ≠ "java/lang/invoke/MethodHandle" ∧ yX9_addUse.cls ≠ "java/lang/invoke/VarHandle" ∧ (parseMethodDescriptor yX9_addUse.desc).map (fun d => d.parameters.length) = some 4 := by decide +kernel
theorem pd_X6_size_UX9_knows_27 : "TicketGate$Table" ≠ "java/lang/invoke/MethodHandle" ∧ "TicketGate$Table" ≠ "java/lang/invoke/VarHandle" ∧ (parseMethodDescriptor "()I").map (fun d => d.parameters.length) = some 0 := by decide +kernel
theorem pd_X6_get_UX9_knows_30 : "TicketGate$Table" ≠ "java/lang/invoke/MethodHandle" ∧ "TicketGate$Table" ≠ "java/lang/invoke/VarHandle" ∧ (parseMethodDescriptor "(II)I").map (fun d => d.parameters.length) = some 2 := by decide +kernel
def f_X9_knows_L6 (t_rows : Int32) (t_cells : Nat → Int32) (v1 : Int32) (v2 : Int32) (v3 : Int32) (v4 : Int32) : Nat → Int32 → Int32 → Option (Int32)
  | 0, _, _ => none
  | n + 1, v5, v6 =>
    (f_X6_size 120 t_rows).bind fun o1 =>
    if o1 ≤ v6 then (
      some (v5))
    else (
      if v5 = 0 then (
        (f_X6_get 120 4 t_rows t_cells v6 0).bind fun o2 =>
        if o2 = v1 then (
          (f_X6_get 120 4 t_rows t_cells v6 1).bind fun o3 =>
          if o3 = v2 then (
            (f_X6_get 120 4 t_rows t_cells v6 2).bind fun o4 =>
            if o4 = v3 then (
              (f_X6_get 120 4 t_rows t_cells v6 3).bind fun o5 =>
              if o5 < v4 then (
                f_X9_knows_L6 t_rows t_cells v1 v2 v3 v4 n  0 (v6 + 1))
              else (
                f_X9_knows_L6 t_rows t_cells v1 v2 v3 v4 n  1 (v6 + 1)))
            else (
              f_X9_knows_L6 t_rows t_cells v1 v2 v3 v4 n  0 (v6 + 1)))
          else (
            f_X9_knows_L6 t_rows t_cells v1 v2 v3 v4 n  0 (v6 + 1)))
        else (
          f_X9_knows_L6 t_rows t_cells v1 v2 v3 v4 n  0 (v6 + 1)))
      else (
        some (v5)))
def f_X9_knows (t_rows : Int32) (t_cells : Nat → Int32) (v1 : Int32) (v2 : Int32) (v3 : Int32) (v4 : Int32) : Option (Int32) :=
  (f_X9_knows_L6 t_rows t_cells v1 v2 v3 v4 5000 0 0).bind fun o6 =>
  (zr o6).bind fun z7 => some (z7)
set_option maxRecDepth 100000 in
set_option maxHeartbeats 4000000 in
theorem l_X9_knows_L6 (l : Launch) {G : (Nat → Prop) → State → Heap → Prop} (hG : vG G) (D : va_G) (c9 : Nat → ClassId) (ad : Nat → Nat) (t_rows : Int32) (t_cells : Nat → Int32) (v1 : Int32) (v2 : Int32) (v3 : Int32) (v4 : Int32) {p : Program} {e : Env} {s : State} {m : MethodId} {args : Array Value} {below : List Frame} {meth : Method} {c : Code} {A : Nat → Prop} {F : va_W} (X : vX p s m args meth c cX9_knows 7 (some .boolean) RX9 (wq yX9_knows cX9_knows 7 (some .boolean)) D (tyA c9) G A) {Q : State → Prop} (o : Int32) (K : vW p l e { frames := 1, cells := 0, slots := 0, locals := 24 } s m args below meth c 7 D A F 0 0 Q (wX9 ad c9 t_rows t_cells) 78 [(5, .int o)] []) :
    ∀ (n : Nat) (v5 : Int32) (v6 : Int32), f_X9_knows_L6 t_rows t_cells v1 v2 v3 v4 n v5 v6 = some o → vW p l e { frames := 1, cells := 0, slots := 0, locals := 24 } s m args below meth c 7 D A F 0 0 Q (wX9 ad c9 t_rows t_cells) 6 [(0, .ref (ad 0)), (1, .int v1), (2, .int v2), (3, .int v3), (4, .int v4), (5, .int v5), (6, .int v6)] [] := by
  intro n
  induction n with
  | zero =>
    intro v5 v6 hf
    rw [f_X9_knows_L6] at hf
    cases hf
  | succ n ih =>
    intro v5 v6 hf
    rw [f_X9_knows_L6] at hf
    refine v_iload X dX9_knows_6 6 rfl 8 rfl ?_
    refine v_aload_n X dX9_knows_8 0 rfl rfl 9 rfl ?_
    obtain ⟨o1, ho1, hf⟩ := bnd hf
    refine v_callUi X (ci := 10) (T := TX9) (C := RX9) (owner := "TicketGate$Table") (As := []) (rest := [.int v6]) (ws' := (wX9 ad c9 t_rows t_cells)) (c_X6_size l hG D c9 ad 120 10 RX9 rfl layc_X9 30 4 t_rows t_cells ho1) 0 (gU wc_126 wc_127 wc_128 wc_61 wc_34 wc_62) rfl rfl rfl rfl pd_X6_size_UX9_knows_27 ⟨Nat.le_of_ble_eq_true rfl, Nat.le_of_ble_eq_true rfl⟩ 0 rfl rfl rfl rfl (Nat.le_of_ble_eq_true rfl) ⟨Nat.zero_le _, Nat.zero_le _⟩ [0, 1] [] [0, 1] rfl rfl rfl rfl dX9_knows_9 12 rfl ?_
    refine v_icmp_ge X (tgt := 78) dX9_knows_12 rfl 15 rfl hf (fun hf => ?_) (fun hf => ?_)
    · obtain rfl := Option.some.inj hf
      refine v_sub (lv' := [(5, .int v5)]) [5] rfl ?_
      exact K
    · refine v_iload X dX9_knows_15 5 rfl 17 rfl ?_
      refine v_if_ne X (tgt := 78) dX9_knows_17 rfl 20 rfl hf (fun hf => ?_) (fun hf => ?_)
      · obtain rfl := Option.some.inj hf
        refine v_sub (lv' := [(5, .int v5)]) [5] rfl ?_
        exact K
      · refine v_aload_n X dX9_knows_20 0 rfl rfl 21 rfl ?_
        refine v_iload X dX9_knows_21 6 rfl 23 rfl ?_
        refine v_iconst X dX9_knows_23 ic_0 24 rfl ?_
        obtain ⟨o2, ho2, hf⟩ := bnd hf
        refine v_callUi X (ci := 10) (T := TX9) (C := RX9) (owner := "TicketGate$Table") (As := [.int v6, .int 0]) (rest := []) (ws' := (wX9 ad c9 t_rows t_cells)) (c_X6_get l hG D c9 ad 120 10 RX9 rfl layc_X9 30 4 t_rows t_cells v6 0 ho2) 2 (gU wc_129 wc_130 wc_131 wc_33 wc_34 wc_35) rfl rfl rfl rfl pd_X6_get_UX9_knows_30 ⟨Nat.le_of_ble_eq_true rfl, Nat.le_of_ble_eq_true rfl⟩ 0 rfl rfl rfl rfl (Nat.le_of_ble_eq_true rfl) ⟨Nat.zero_le _, Nat.zero_le _⟩ [0, 1] [] [0, 1] rfl rfl rfl rfl dX9_knows_24 27 rfl ?_
        refine v_iload_n X dX9_knows_27 1 rfl rfl 28 rfl ?_
        refine v_icmp_ne X (tgt := 69) dX9_knows_28 rfl 31 rfl hf (fun hf => ?_) (fun hf => ?_)
        · refine v_iconst X dX9_knows_69 ic_0 70 rfl ?_
          refine v_istore X (lv' := [(5, .int 0), (0, .ref (ad 0)), (1, .int v1), (2, .int v2), (3, .int v3), (4, .int v4), (6, .int v6)]) dX9_knows_70 (by decide) rfl 72 rfl ?_
          refine v_iinc X (lv' := [(6, .int (v6 + 1)), (5, .int 0), (0, .ref (ad 0)), (1, .int v1), (2, .int v2), (3, .int v3), (4, .int v4)]) dX9_knows_72 6 rfl ic_1 (by decide) rfl 75 rfl ?_
          refine v_goto X (tgt := 6) dX9_knows_75 rfl ?_
          refine v_sub (lv' := [(0, .ref (ad 0)), (1, .int v1), (2, .int v2), (3, .int v3), (4, .int v4), (5, .int 0), (6, .int (v6 + 1))]) [2, 3, 4, 5, 6, 1, 0] rfl ?_
          exact ih 0 (v6 + 1) hf
        · refine v_aload_n X dX9_knows_31 0 rfl rfl 32 rfl ?_
          refine v_iload X dX9_knows_32 6 rfl 34 rfl ?_
          refine v_iconst X dX9_knows_34 ic_1 35 rfl ?_
          obtain ⟨o3, ho3, hf⟩ := bnd hf
          refine v_callUi X (ci := 10) (T := TX9) (C := RX9) (owner := "TicketGate$Table") (As := [.int v6, .int 1]) (rest := []) (ws' := (wX9 ad c9 t_rows t_cells)) (c_X6_get l hG D c9 ad 120 10 RX9 rfl layc_X9 30 4 t_rows t_cells v6 1 ho3) 2 (gU wc_129 wc_130 wc_131 wc_33 wc_34 wc_35) rfl rfl rfl rfl pd_X6_get_UX9_knows_30 ⟨Nat.le_of_ble_eq_true rfl, Nat.le_of_ble_eq_true rfl⟩ 0 rfl rfl rfl rfl (Nat.le_of_ble_eq_true rfl) ⟨Nat.zero_le _, Nat.zero_le _⟩ [0, 1] [] [0, 1] rfl rfl rfl rfl dX9_knows_35 38 rfl ?_
          refine v_iload_n X dX9_knows_38 2 rfl rfl 39 rfl ?_
          refine v_icmp_ne X (tgt := 69) dX9_knows_39 rfl 42 rfl hf (fun hf => ?_) (fun hf => ?_)
          · refine v_iconst X dX9_knows_69 ic_0 70 rfl ?_
            refine v_istore X (lv' := [(5, .int 0), (0, .ref (ad 0)), (1, .int v1), (2, .int v2), (3, .int v3), (4, .int v4), (6, .int v6)]) dX9_knows_70 (by decide) rfl 72 rfl ?_
            refine v_iinc X (lv' := [(6, .int (v6 + 1)), (5, .int 0), (0, .ref (ad 0)), (1, .int v1), (2, .int v2), (3, .int v3), (4, .int v4)]) dX9_knows_72 6 rfl ic_1 (by decide) rfl 75 rfl ?_
            refine v_goto X (tgt := 6) dX9_knows_75 rfl ?_
            refine v_sub (lv' := [(0, .ref (ad 0)), (1, .int v1), (2, .int v2), (3, .int v3), (4, .int v4), (5, .int 0), (6, .int (v6 + 1))]) [2, 3, 4, 5, 6, 1, 0] rfl ?_
            exact ih 0 (v6 + 1) hf
          · refine v_aload_n X dX9_knows_42 0 rfl rfl 43 rfl ?_
            refine v_iload X dX9_knows_43 6 rfl 45 rfl ?_
            refine v_iconst X dX9_knows_45 ic_2 46 rfl ?_
            obtain ⟨o4, ho4, hf⟩ := bnd hf
            refine v_callUi X (ci := 10) (T := TX9) (C := RX9) (owner := "TicketGate$Table") (As := [.int v6, .int 2]) (rest := []) (ws' := (wX9 ad c9 t_rows t_cells)) (c_X6_get l hG D c9 ad 120 10 RX9 rfl layc_X9 30 4 t_rows t_cells v6 2 ho4) 2 (gU wc_129 wc_130 wc_131 wc_33 wc_34 wc_35) rfl rfl rfl rfl pd_X6_get_UX9_knows_30 ⟨Nat.le_of_ble_eq_true rfl, Nat.le_of_ble_eq_true rfl⟩ 0 rfl rfl rfl rfl (Nat.le_of_ble_eq_true rfl) ⟨Nat.zero_le _, Nat.zero_le _⟩ [0, 1] [] [0, 1] rfl rfl rfl rfl dX9_knows_46 49 rfl ?_
            refine v_iload_n X dX9_knows_49 3 rfl rfl 50 rfl ?_
            refine v_icmp_ne X (tgt := 69) dX9_knows_50 rfl 53 rfl hf (fun hf => ?_) (fun hf => ?_)
            · refine v_iconst X dX9_knows_69 ic_0 70 rfl ?_
              refine v_istore X (lv' := [(5, .int 0), (0, .ref (ad 0)), (1, .int v1), (2, .int v2), (3, .int v3), (4, .int v4), (6, .int v6)]) dX9_knows_70 (by decide) rfl 72 rfl ?_
              refine v_iinc X (lv' := [(6, .int (v6 + 1)), (5, .int 0), (0, .ref (ad 0)), (1, .int v1), (2, .int v2), (3, .int v3), (4, .int v4)]) dX9_knows_72 6 rfl ic_1 (by decide) rfl 75 rfl ?_
              refine v_goto X (tgt := 6) dX9_knows_75 rfl ?_
              refine v_sub (lv' := [(0, .ref (ad 0)), (1, .int v1), (2, .int v2), (3, .int v3), (4, .int v4), (5, .int 0), (6, .int (v6 + 1))]) [2, 3, 4, 5, 6, 1, 0] rfl ?_
              exact ih 0 (v6 + 1) hf
            · refine v_aload_n X dX9_knows_53 0 rfl rfl 54 rfl ?_
              refine v_iload X dX9_knows_54 6 rfl 56 rfl ?_
              refine v_iconst X dX9_knows_56 ic_3 57 rfl ?_
              obtain ⟨o5, ho5, hf⟩ := bnd hf
              refine v_callUi X (ci := 10) (T := TX9) (C := RX9) (owner := "TicketGate$Table") (As := [.int v6, .int 3]) (rest := []) (ws' := (wX9 ad c9 t_rows t_cells)) (c_X6_get l hG D c9 ad 120 10 RX9 rfl layc_X9 30 4 t_rows t_cells v6 3 ho5) 2 (gU wc_129 wc_130 wc_131 wc_33 wc_34 wc_35) rfl rfl rfl rfl pd_X6_get_UX9_knows_30 ⟨Nat.le_of_ble_eq_true rfl, Nat.le_of_ble_eq_true rfl⟩ 0 rfl rfl rfl rfl (Nat.le_of_ble_eq_true rfl) ⟨Nat.zero_le _, Nat.zero_le _⟩ [0, 1] [] [0, 1] rfl rfl rfl rfl dX9_knows_57 60 rfl ?_
              refine v_iload X dX9_knows_60 4 rfl 62 rfl ?_
              refine v_icmp_lt X (tgt := 69) dX9_knows_62 rfl 65 rfl hf (fun hf => ?_) (fun hf => ?_)
              · refine v_iconst X dX9_knows_69 ic_0 70 rfl ?_
                refine v_istore X (lv' := [(5, .int 0), (0, .ref (ad 0)), (1, .int v1), (2, .int v2), (3, .int v3), (4, .int v4), (6, .int v6)]) dX9_knows_70 (by decide) rfl 72 rfl ?_
                refine v_iinc X (lv' := [(6, .int (v6 + 1)), (5, .int 0), (0, .ref (ad 0)), (1, .int v1), (2, .int v2), (3, .int v3), (4, .int v4)]) dX9_knows_72 6 rfl ic_1 (by decide) rfl 75 rfl ?_
                refine v_goto X (tgt := 6) dX9_knows_75 rfl ?_
                refine v_sub (lv' := [(0, .ref (ad 0)), (1, .int v1), (2, .int v2), (3, .int v3), (4, .int v4), (5, .int 0), (6, .int (v6 + 1))]) [2, 3, 4, 5, 6, 1, 0] rfl ?_
                exact ih 0 (v6 + 1) hf
              · refine v_iconst X dX9_knows_65 ic_1 66 rfl ?_
                refine v_goto X (tgt := 70) dX9_knows_66 rfl ?_
                refine v_istore X (lv' := [(5, .int 1), (0, .ref (ad 0)), (1, .int v1), (2, .int v2), (3, .int v3), (4, .int v4), (6, .int v6)]) dX9_knows_70 (by decide) rfl 72 rfl ?_
                refine v_iinc X (lv' := [(6, .int (v6 + 1)), (5, .int 1), (0, .ref (ad 0)), (1, .int v1), (2, .int v2), (3, .int v3), (4, .int v4)]) dX9_knows_72 6 rfl ic_1 (by decide) rfl 75 rfl ?_
                refine v_goto X (tgt := 6) dX9_knows_75 rfl ?_
                refine v_sub (lv' := [(0, .ref (ad 0)), (1, .int v1), (2, .int v2), (3, .int v3), (4, .int v4), (5, .int 1), (6, .int (v6 + 1))]) [2, 3, 4, 5, 6, 1, 0] rfl ?_
                exact ih 1 (v6 + 1) hf
set_option maxRecDepth 100000 in
set_option maxHeartbeats 4000000 in
theorem c_X9_knows (l : Launch) {G : (Nat → Prop) → State → Heap → Prop} (hG : vG G) (D : va_G) (c9 : Nat → ClassId) (ad : Nat → Nat) (t_rows : Int32) (t_cells : Nat → Int32) (v1 : Int32) (v2 : Int32) (v3 : Int32) (v4 : Int32) {o : Int32} (hf : f_X9_knows t_rows t_cells v1 v2 v3 v4 = some o) : mI l yX9_knows (wq yX9_knows cX9_knows 7 (some .boolean)) { frames := 1, cells := 0, slots := 0, locals := 24 } G D (tyA c9) [.ref (ad 0), .int v1, .int v2, .int v3, .int v4] (wX9 ad c9 t_rows t_cells) [] 0 0 o (wX9 ad c9 t_rows t_cells) := by
  refine mI_of hG (cc := cX9_knows) (maxL := 7) (ty := .boolean) (by decide) rfl (Nat.le_of_ble_eq_true rfl) ?_
  intro p e s m args below meth c A X
  have X : vX p s m args meth c cX9_knows 7 (some .boolean) RX9 (wq yX9_knows cX9_knows 7 (some .boolean)) D (tyA c9) G A := X
  refine v_eq (lv2 := [(0, .ref (ad 0)), (1, .int v1), (2, .int v2), (3, .int v3), (4, .int v4)]) rfl rfl rfl rfl ?_
  rw [f_X9_knows] at hf
  refine v_iconst X dX9_knows_0 ic_0 1 rfl ?_
  refine v_istore X (lv' := [(5, .int 0), (0, .ref (ad 0)), (1, .int v1), (2, .int v2), (3, .int v3), (4, .int v4)]) dX9_knows_1 (by decide) rfl 3 rfl ?_
  refine v_iconst X dX9_knows_3 ic_0 4 rfl ?_
  refine v_istore X (lv' := [(6, .int 0), (5, .int 0), (0, .ref (ad 0)), (1, .int v1), (2, .int v2), (3, .int v3), (4, .int v4)]) dX9_knows_4 (by decide) rfl 6 rfl ?_
  obtain ⟨o6, ho6, hf⟩ := bnd hf
  refine v_sub (lv' := [(0, .ref (ad 0)), (1, .int v1), (2, .int v2), (3, .int v3), (4, .int v4), (5, .int 0), (6, .int 0)]) [2, 3, 4, 5, 6, 1, 0] rfl ?_
  refine l_X9_knows_L6 l hG D c9 ad t_rows t_cells v1 v2 v3 v4 X o6 ?_ 5000 0 0 ho6
  refine v_iload X dX9_knows_78 0 rfl 80 rfl ?_
  obtain ⟨z7, hz7, hf⟩ := bnd hf
  obtain rfl := Option.some.inj hf
  exact v_zretq hz7 X (Nat.zero_le _) (Nat.zero_le _) dX9_knows_80
theorem pd_X9_knows : yX9_knows.cls ≠ "java/lang/invoke/MethodHandle" ∧ yX9_knows.cls ≠ "java/lang/invoke/VarHandle" ∧ (parseMethodDescriptor yX9_knows.desc).map (fun d => d.parameters.length) = some 4 := by decide +kernel
theorem pd_X6_size_UX9_forgetBefore_27 : "TicketGate$Table" ≠ "java/lang/invoke/MethodHandle" ∧ "TicketGate$Table" ≠ "java/lang/invoke/VarHandle" ∧ (parseMethodDescriptor "()I").map (fun d => d.parameters.length) = some 0 := by decide +kernel
theorem pd_X6_get_UX9_forgetBefore_30 : "TicketGate$Table" ≠ "java/lang/invoke/MethodHandle" ∧ "TicketGate$Table" ≠ "java/lang/invoke/VarHandle" ∧ (parseMethodDescriptor "(II)I").map (fun d => d.parameters.length) = some 2 := by decide +kernel
theorem pd_X6_removeRow_UX9_forgetBefore_15 : "TicketGate$Table" ≠ "java/lang/invoke/MethodHandle" ∧ "TicketGate$Table" ≠ "java/lang/invoke/VarHandle" ∧ (parseMethodDescriptor "(I)V").map (fun d => d.parameters.length) = some 1 := by decide +kernel
def f_X9_forgetBefore_L7 (v1 : Int32) : Nat → Int32 → (Nat → Int32) → Int32 → Option (Int32 × (Nat → Int32))
  | 0, _, _, _ => none
  | n + 1, t_rows, t_cells, v2 =>
    if v2 < 0 then (
      some (t_rows, t_cells))
    else (
      (f_X6_get 120 4 t_rows t_cells v2 3).bind fun o2 =>
      if v1 ≤ o2 then (
        f_X9_forgetBefore_L7 v1 n t_rows t_cells (v2 + (-1)))
      else (
        (f_X6_removeRow 120 4 t_rows t_cells v2).bind fun o3 =>
        f_X9_forgetBefore_L7 v1 n o3.1 o3.2 (v2 + (-1))))
def f_X9_forgetBefore (t_rows : Int32) (t_cells : Nat → Int32) (v1 : Int32) : Option (Int32 × (Nat → Int32)) :=
  (f_X6_size 120 t_rows).bind fun o1 =>
  (f_X9_forgetBefore_L7 v1 5000 t_rows t_cells (o1 - 1)).bind fun o4 =>
  some (o4.1, o4.2)
set_option maxRecDepth 100000 in
set_option maxHeartbeats 4000000 in
theorem l_X9_forgetBefore_L7 (l : Launch) {G : (Nat → Prop) → State → Heap → Prop} (hG : vG G) (D : va_G) (c9 : Nat → ClassId) (ad : Nat → Nat) (v1 : Int32) {p : Program} {e : Env} {s : State} {m : MethodId} {args : Array Value} {below : List Frame} {meth : Method} {c : Code} {A : Nat → Prop} {F : va_W} (X : vX p s m args meth c cX9_forgetBefore 3 none RX9 (wq yX9_forgetBefore cX9_forgetBefore 3 none) D (tyA c9) G A) {Q : State → Prop} (o : Int32 × (Nat → Int32)) (K : vW p l e { frames := 1, cells := 0, slots := 0, locals := 24 } s m args below meth c 3 D A F 0 0 Q (wX9 ad c9 o.1 o.2) 32 [] []) :
    ∀ (n : Nat) (t_rows : Int32) (t_cells : Nat → Int32) (v2 : Int32), f_X9_forgetBefore_L7 v1 n t_rows t_cells v2 = some o → vW p l e { frames := 1, cells := 0, slots := 0, locals := 24 } s m args below meth c 3 D A F 0 0 Q (wX9 ad c9 t_rows t_cells) 7 [(0, .ref (ad 0)), (1, .int v1), (2, .int v2)] [] := by
  intro n
  induction n with
  | zero =>
    intro t_rows t_cells v2 hf
    rw [f_X9_forgetBefore_L7] at hf
    cases hf
  | succ n ih =>
    intro t_rows t_cells v2 hf
    rw [f_X9_forgetBefore_L7] at hf
    refine v_iload_n X dX9_forgetBefore_7 2 rfl rfl 8 rfl ?_
    refine v_if_lt X (tgt := 32) dX9_forgetBefore_8 rfl 11 rfl hf (fun hf => ?_) (fun hf => ?_)
    · obtain rfl := Option.some.inj hf
      refine v_sub (lv' := []) [] rfl ?_
      exact K
    · refine v_aload_n X dX9_forgetBefore_11 0 rfl rfl 12 rfl ?_
      refine v_iload_n X dX9_forgetBefore_12 2 rfl rfl 13 rfl ?_
      refine v_iconst X dX9_forgetBefore_13 ic_3 14 rfl ?_
      obtain ⟨o2, ho2, hf⟩ := bnd hf
      refine v_callUi X (ci := 10) (T := TX9) (C := RX9) (owner := "TicketGate$Table") (As := [.int v2, .int 3]) (rest := []) (ws' := (wX9 ad c9 t_rows t_cells)) (c_X6_get l hG D c9 ad 120 10 RX9 rfl layc_X9 30 4 t_rows t_cells v2 3 ho2) 2 (gU wc_129 wc_130 wc_131 wc_33 wc_34 wc_35) rfl rfl rfl rfl pd_X6_get_UX9_forgetBefore_30 ⟨Nat.le_of_ble_eq_true rfl, Nat.le_of_ble_eq_true rfl⟩ 0 rfl rfl rfl rfl (Nat.le_of_ble_eq_true rfl) ⟨Nat.zero_le _, Nat.zero_le _⟩ [0, 1] [] [0, 1] rfl rfl rfl rfl dX9_forgetBefore_14 17 rfl ?_
      refine v_iload_n X dX9_forgetBefore_17 1 rfl rfl 18 rfl ?_
      refine v_icmp_ge X (tgt := 26) dX9_forgetBefore_18 rfl 21 rfl hf (fun hf => ?_) (fun hf => ?_)
      · refine v_iinc X (lv' := [(2, .int (v2 + (-1))), (0, .ref (ad 0)), (1, .int v1)]) dX9_forgetBefore_26 2 rfl ic_m1 (by decide) rfl 29 rfl ?_
        refine v_goto X (tgt := 7) dX9_forgetBefore_29 rfl ?_
        refine v_sub (lv' := [(0, .ref (ad 0)), (1, .int v1), (2, .int (v2 + (-1)))]) [1, 2, 0] rfl ?_
        exact ih t_rows t_cells (v2 + (-1)) hf
      · refine v_aload_n X dX9_forgetBefore_21 0 rfl rfl 22 rfl ?_
        refine v_iload_n X dX9_forgetBefore_22 2 rfl rfl 23 rfl ?_
        obtain ⟨o3, ho3, hf⟩ := bnd hf
        refine v_callUv X (ci := 10) (T := TX9) (C := RX9) (owner := "TicketGate$Table") (As := [.int v2]) (rest := []) (ws' := (wX9 ad c9 o3.1 o3.2)) (c_X6_removeRow l hG D c9 ad 120 10 RX9 rfl layc_X9 30 4 t_rows t_cells v2 ho3) 1 (gU wc_117 wc_118 wc_119 wc_96 wc_34 wc_97) rfl rfl rfl rfl pd_X6_removeRow_UX9_forgetBefore_15 ⟨Nat.le_of_ble_eq_true rfl, Nat.le_of_ble_eq_true rfl⟩ 0 rfl rfl rfl rfl (Nat.le_of_ble_eq_true rfl) ⟨Nat.zero_le _, Nat.zero_le _⟩ [0, 1] [] [0, 1] rfl rfl rfl rfl dX9_forgetBefore_23 26 rfl ?_
        refine v_iinc X (lv' := [(2, .int (v2 + (-1))), (0, .ref (ad 0)), (1, .int v1)]) dX9_forgetBefore_26 2 rfl ic_m1 (by decide) rfl 29 rfl ?_
        refine v_goto X (tgt := 7) dX9_forgetBefore_29 rfl ?_
        refine v_sub (lv' := [(0, .ref (ad 0)), (1, .int v1), (2, .int (v2 + (-1)))]) [1, 2, 0] rfl ?_
        exact ih o3.1 o3.2 (v2 + (-1)) hf
set_option maxRecDepth 100000 in
set_option maxHeartbeats 4000000 in
theorem c_X9_forgetBefore (l : Launch) {G : (Nat → Prop) → State → Heap → Prop} (hG : vG G) (D : va_G) (c9 : Nat → ClassId) (ad : Nat → Nat) (t_rows : Int32) (t_cells : Nat → Int32) (v1 : Int32) {o : Int32 × (Nat → Int32)} (hf : f_X9_forgetBefore t_rows t_cells v1 = some o) : mV l yX9_forgetBefore (wq yX9_forgetBefore cX9_forgetBefore 3 none) { frames := 1, cells := 0, slots := 0, locals := 24 } G D (tyA c9) [.ref (ad 0), .int v1] (wX9 ad c9 t_rows t_cells) [] 0 0 (wX9 ad c9 o.1 o.2) := by
  refine mV_of hG (cc := cX9_forgetBefore) (maxL := 3) (by decide) rfl (Nat.le_of_ble_eq_true rfl) ?_
  intro p e s m args below meth c A hnm X
  have X : vX p s m args meth c cX9_forgetBefore 3 none RX9 (wq yX9_forgetBefore cX9_forgetBefore 3 none) D (tyA c9) G A := X
  refine v_eq (lv2 := [(0, .ref (ad 0)), (1, .int v1)]) rfl rfl rfl rfl ?_
  rw [f_X9_forgetBefore] at hf
  refine v_aload_n X dX9_forgetBefore_0 0 rfl rfl 1 rfl ?_
  obtain ⟨o1, ho1, hf⟩ := bnd hf
  refine v_callUi X (ci := 10) (T := TX9) (C := RX9) (owner := "TicketGate$Table") (As := []) (rest := []) (ws' := (wX9 ad c9 t_rows t_cells)) (c_X6_size l hG D c9 ad 120 10 RX9 rfl layc_X9 30 4 t_rows t_cells ho1) 0 (gU wc_126 wc_127 wc_128 wc_61 wc_34 wc_62) rfl rfl rfl rfl pd_X6_size_UX9_forgetBefore_27 ⟨Nat.le_of_ble_eq_true rfl, Nat.le_of_ble_eq_true rfl⟩ 0 rfl rfl rfl rfl (Nat.le_of_ble_eq_true rfl) ⟨Nat.zero_le _, Nat.zero_le _⟩ [0, 1] [] [0, 1] rfl rfl rfl rfl dX9_forgetBefore_1 4 rfl ?_
  refine v_iconst X dX9_forgetBefore_4 ic_1 5 rfl ?_
  refine v_isub X dX9_forgetBefore_5 6 rfl ?_
  refine v_istore_n X (lv' := [(2, .int (o1 - 1)), (0, .ref (ad 0)), (1, .int v1)]) dX9_forgetBefore_6 rfl (by decide) rfl 7 rfl ?_
  obtain ⟨o4, ho4, hf⟩ := bnd hf
  refine v_sub (lv' := [(0, .ref (ad 0)), (1, .int v1), (2, .int (o1 - 1))]) [1, 2, 0] rfl ?_
  refine l_X9_forgetBefore_L7 l hG D c9 ad v1 X o4 ?_ 5000 t_rows t_cells (o1 - 1) ho4
  obtain rfl := Option.some.inj hf
  exact v_vret X (Nat.zero_le _) (Nat.zero_le _) dX9_forgetBefore_32
theorem pd_X9_forgetBefore : yX9_forgetBefore.cls ≠ "java/lang/invoke/MethodHandle" ∧ yX9_forgetBefore.cls ≠ "java/lang/invoke/VarHandle" ∧ (parseMethodDescriptor yX9_forgetBefore.desc).map (fun d => d.parameters.length) = some 1 := by decide +kernel
theorem pd_X6_size_UX10_addDirect_9 : "TicketGate$Table" ≠ "java/lang/invoke/MethodHandle" ∧ "TicketGate$Table" ≠ "java/lang/invoke/VarHandle" ∧ (parseMethodDescriptor "()I").map (fun d => d.parameters.length) = some 0 := by decide +kernel
theorem pd_X6_addRow_UX10_addDirect_15 : "TicketGate$Table" ≠ "java/lang/invoke/MethodHandle" ∧ "TicketGate$Table" ≠ "java/lang/invoke/VarHandle" ∧ (parseMethodDescriptor "()I").map (fun d => d.parameters.length) = some 0 := by decide +kernel
theorem pd_X6_set_UX10_addDirect_24 : "TicketGate$Table" ≠ "java/lang/invoke/MethodHandle" ∧ "TicketGate$Table" ≠ "java/lang/invoke/VarHandle" ∧ (parseMethodDescriptor "(III)V").map (fun d => d.parameters.length) = some 3 := by decide +kernel
def f_X10_addDirect_L17 (t_rows : Int32) (r_t_rows : Int32) (r_t_cells : Nat → Int32) (v2 : Int32) : Nat → (Nat → Int32) → Int32 → Option ((Nat → Int32))
  | 0, _, _ => none
  | n + 1, t_cells, v3 =>
    (f_X6_size 25 r_t_rows).bind fun o3 =>
    if o3 ≤ v3 then (
      some (t_cells))
    else (
      (f_X2_hasTrust r_t_rows r_t_cells v2 v3).bind fun o4 =>
      Option.bind (if o4 = 0 then (
        some (1000))
      else (
        some (1)) : Option (Int32)) fun j5 =>
      if v2 = v3 then (
        (f_X6_set 25 5 t_rows t_cells v2 v3 0).bind fun o7 =>
        f_X10_addDirect_L17 t_rows r_t_rows r_t_cells v2 n o7 (v3 + 1))
      else (
        (f_X6_set 25 5 t_rows t_cells v2 v3 j5).bind fun o6 =>
        f_X10_addDirect_L17 t_rows r_t_rows r_t_cells v2 n o6 (v3 + 1)))
def f_X10_addDirect_L2 (r_t_rows : Int32) (r_t_cells : Nat → Int32) : Nat → Int32 → (Nat → Int32) → Int32 → Option (Int32 × (Nat → Int32))
  | 0, _, _, _ => none
  | n + 1, t_rows, t_cells, v2 =>
    (f_X6_size 25 r_t_rows).bind fun o1 =>
    if o1 ≤ v2 then (
      some (t_rows, t_cells))
    else (
      (f_X6_addRow 25 5 t_rows).bind fun o2 =>
      (f_X10_addDirect_L17 o2.2 r_t_rows r_t_cells v2 5000 t_cells 0).bind fun o8 =>
      f_X10_addDirect_L2 r_t_rows r_t_cells n o2.2 o8 (v2 + 1))
def f_X10_addDirect (t_rows : Int32) (t_cells : Nat → Int32) (r_t_rows : Int32) (r_t_cells : Nat → Int32) : Option (Int32 × (Nat → Int32)) :=
  (f_X10_addDirect_L2 r_t_rows r_t_cells 5000 t_rows t_cells 0).bind fun o9 =>
  some (o9.1, o9.2)
set_option maxRecDepth 100000 in
set_option maxHeartbeats 4000000 in
theorem l_X10_addDirect_L17 (l : Launch) {G : (Nat → Prop) → State → Heap → Prop} (hG : vG G) (D : va_G) (c9 : Nat → ClassId) (ad : Nat → Nat) (ad1 : Nat → Nat) (t_rows : Int32) (r_t_rows : Int32) (r_t_cells : Nat → Int32) (v2 : Int32) {p : Program} {e : Env} {s : State} {m : MethodId} {args : Array Value} {below : List Frame} {meth : Method} {c : Code} {A : Nat → Prop} {F : va_W} (X : vX p s m args meth c cX10_addDirect 5 none RX10 (wq yX10_addDirect cX10_addDirect 5 none) D (tyA c9) G A) {Q : State → Prop} (o : (Nat → Int32)) (K : vW p l e { frames := 2, cells := 0, slots := 0, locals := 46 } s m args below meth c 5 D A F 0 0 Q ((wX10 ad c9 t_rows o) ++ (wX2 ad1 c9 r_t_rows r_t_cells)) 66 [(0, .ref (ad 0)), (1, .ref (ad1 0)), (2, .int v2)] []) :
    ∀ (n : Nat) (t_cells : Nat → Int32) (v3 : Int32), f_X10_addDirect_L17 t_rows r_t_rows r_t_cells v2 n t_cells v3 = some o → vW p l e { frames := 2, cells := 0, slots := 0, locals := 46 } s m args below meth c 5 D A F 0 0 Q ((wX10 ad c9 t_rows t_cells) ++ (wX2 ad1 c9 r_t_rows r_t_cells)) 17 [(0, .ref (ad 0)), (1, .ref (ad1 0)), (2, .int v2), (3, .int v3)] [] := by
  intro n
  induction n with
  | zero =>
    intro t_cells v3 hf
    rw [f_X10_addDirect_L17] at hf
    cases hf
  | succ n ih =>
    intro t_cells v3 hf
    rw [f_X10_addDirect_L17] at hf
    refine v_iload_n X dX10_addDirect_17 3 rfl rfl 18 rfl ?_
    refine v_aload_n X dX10_addDirect_18 1 rfl rfl 19 rfl ?_
    obtain ⟨o3, ho3, hf⟩ := bnd hf
    refine v_callUi X (ci := 4) (T := TX2) (C := RX2) (owner := "TicketGate$Table") (As := []) (rest := [.int v3]) (ws' := ((wX10 ad c9 t_rows t_cells) ++ (wX2 ad1 c9 r_t_rows r_t_cells))) (c_X6_size l hG D c9 ad1 25 4 RX2 rfl layc_X2 5 5 r_t_rows r_t_cells ho3) 0 (gU wc_132 wc_59 wc_60 wc_61 wc_34 wc_62) rfl rfl rfl rfl pd_X6_size_UX10_addDirect_9 ⟨Nat.le_of_ble_eq_true rfl, Nat.le_of_ble_eq_true rfl⟩ 2 rfl rfl rfl rfl (Nat.le_of_ble_eq_true rfl) ⟨Nat.zero_le _, Nat.zero_le _⟩ [2, 3] [0, 1] [0, 1, 2, 3] rfl rfl rfl rfl dX10_addDirect_19 22 rfl ?_
    refine v_icmp_ge X (tgt := 66) dX10_addDirect_22 rfl 25 rfl hf (fun hf => ?_) (fun hf => ?_)
    · obtain rfl := Option.some.inj hf
      refine v_sub (lv' := [(0, .ref (ad 0)), (1, .ref (ad1 0)), (2, .int v2)]) [0, 1, 2] rfl ?_
      exact K
    · refine v_aload_n X dX10_addDirect_25 1 rfl rfl 26 rfl ?_
      refine v_iload_n X dX10_addDirect_26 2 rfl rfl 27 rfl ?_
      refine v_iload_n X dX10_addDirect_27 3 rfl rfl 28 rfl ?_
      obtain ⟨o4, ho4, hf⟩ := bnd hf
      refine v_callVi X (ci := 4) (T := TX2) (C := RX2) (As := [.int v2, .int v3]) (rest := []) (ws' := ((wX10 ad c9 t_rows t_cells) ++ (wX2 ad1 c9 r_t_rows r_t_cells))) (c_X2_hasTrust l hG D c9 ad1 r_t_rows r_t_cells v2 v3 ho4) 2 (gV wc_140 wc_141 wc_142 wc_66 wc_143) rfl rfl rfl ⟨rfl, pd_X2_hasTrust⟩ ⟨Nat.le_of_ble_eq_true rfl, Nat.le_of_ble_eq_true rfl⟩ 2 rfl rfl rfl rfl (Nat.le_of_ble_eq_true rfl) ⟨Nat.zero_le _, Nat.zero_le _⟩ [2, 3] [0, 1] [0, 1, 2, 3] rfl rfl rfl rfl dX10_addDirect_28 31 rfl ?_
      obtain ⟨j5, hj5, hf⟩ := bnd hf
      have Jj5 : vW p l e { frames := 2, cells := 0, slots := 0, locals := 46 } s m args below meth c 5 D A F 0 0 Q ((wX10 ad c9 t_rows t_cells) ++ (wX2 ad1 c9 r_t_rows r_t_cells)) 41 [(0, .ref (ad 0)), (1, .ref (ad1 0)), (2, .int v2), (3, .int v3)] [.int j5] := by
        refine v_istore X (lv' := [(4, .int j5), (0, .ref (ad 0)), (1, .ref (ad1 0)), (2, .int v2), (3, .int v3)]) dX10_addDirect_41 (by decide) rfl 43 rfl ?_
        refine v_aload_n X dX10_addDirect_43 1 rfl rfl 44 rfl ?_
        refine v_iload_n X dX10_addDirect_44 3 rfl rfl 45 rfl ?_
        refine v_iload_n X dX10_addDirect_45 4 rfl rfl 46 rfl ?_
        refine v_iload_n X dX10_addDirect_46 3 rfl rfl 47 rfl ?_
        refine v_iload_n X dX10_addDirect_47 4 rfl rfl 48 rfl ?_
        refine v_icmp_ne X (tgt := 55) dX10_addDirect_48 rfl 51 rfl hf (fun hf => ?_) (fun hf => ?_)
        · refine v_iload X dX10_addDirect_55 0 rfl 57 rfl ?_
          obtain ⟨o6, ho6, hf⟩ := bnd hf
          refine v_callUv X (ci := 11) (T := TX10) (C := RX10) (owner := "TicketGate$Table") (As := [.int v2, .int v3, .int j5]) (rest := []) (ws' := ((wX10 ad c9 t_rows o6) ++ (wX2 ad1 c9 r_t_rows r_t_cells))) (c_X6_set l hG D c9 ad 25 11 RX10 rfl layc_X10 5 5 t_rows t_cells v2 v3 j5 ho6) 3 (gU wc_144 wc_145 wc_146 wc_53 wc_34 wc_54) rfl rfl rfl rfl pd_X6_set_UX10_addDirect_24 ⟨Nat.le_of_ble_eq_true rfl, Nat.le_of_ble_eq_true rfl⟩ 0 rfl rfl rfl rfl (Nat.le_of_ble_eq_true rfl) ⟨Nat.zero_le _, Nat.zero_le _⟩ [0, 1] [2, 3] [2, 3, 0, 1] rfl rfl rfl rfl dX10_addDirect_57 60 rfl ?_
          refine v_iinc X (lv' := [(3, .int (v3 + 1)), (4, .int j5), (0, .ref (ad 0)), (1, .ref (ad1 0)), (2, .int v2)]) dX10_addDirect_60 4 rfl ic_1 (by decide) rfl 63 rfl ?_
          refine v_goto X (tgt := 17) dX10_addDirect_63 rfl ?_
          refine v_sub (lv' := [(0, .ref (ad 0)), (1, .ref (ad1 0)), (2, .int v2), (3, .int (v3 + 1))]) [2, 3, 4, 0] rfl ?_
          exact ih o6 (v3 + 1) hf
        · refine v_iconst X dX10_addDirect_51 ic_0 52 rfl ?_
          refine v_goto X (tgt := 57) dX10_addDirect_52 rfl ?_
          obtain ⟨o7, ho7, hf⟩ := bnd hf
          refine v_callUv X (ci := 11) (T := TX10) (C := RX10) (owner := "TicketGate$Table") (As := [.int v2, .int v3, .int 0]) (rest := []) (ws' := ((wX10 ad c9 t_rows o7) ++ (wX2 ad1 c9 r_t_rows r_t_cells))) (c_X6_set l hG D c9 ad 25 11 RX10 rfl layc_X10 5 5 t_rows t_cells v2 v3 0 ho7) 3 (gU wc_144 wc_145 wc_146 wc_53 wc_34 wc_54) rfl rfl rfl rfl pd_X6_set_UX10_addDirect_24 ⟨Nat.le_of_ble_eq_true rfl, Nat.le_of_ble_eq_true rfl⟩ 0 rfl rfl rfl rfl (Nat.le_of_ble_eq_true rfl) ⟨Nat.zero_le _, Nat.zero_le _⟩ [0, 1] [2, 3] [2, 3, 0, 1] rfl rfl rfl rfl dX10_addDirect_57 60 rfl ?_
          refine v_iinc X (lv' := [(3, .int (v3 + 1)), (4, .int j5), (0, .ref (ad 0)), (1, .ref (ad1 0)), (2, .int v2)]) dX10_addDirect_60 4 rfl ic_1 (by decide) rfl 63 rfl ?_
          refine v_goto X (tgt := 17) dX10_addDirect_63 rfl ?_
          refine v_sub (lv' := [(0, .ref (ad 0)), (1, .ref (ad1 0)), (2, .int v2), (3, .int (v3 + 1))]) [2, 3, 4, 0] rfl ?_
          exact ih o7 (v3 + 1) hf
      clear hf
      refine v_if_eq X (tgt := 38) dX10_addDirect_31 rfl 34 rfl hj5 (fun hf => ?_) (fun hf => ?_)
      · refine v_sipush X dX10_addDirect_38 sp_1000 41 rfl ?_
        obtain rfl := Option.some.inj hf
        exact Jj5
      · refine v_iconst X dX10_addDirect_34 ic_1 35 rfl ?_
        refine v_goto X (tgt := 41) dX10_addDirect_35 rfl ?_
        obtain rfl := Option.some.inj hf
        exact Jj5
set_option maxRecDepth 100000 in
set_option maxHeartbeats 4000000 in
theorem l_X10_addDirect_L2 (l : Launch) {G : (Nat → Prop) → State → Heap → Prop} (hG : vG G) (D : va_G) (c9 : Nat → ClassId) (ad : Nat → Nat) (ad1 : Nat → Nat) (r_t_rows : Int32) (r_t_cells : Nat → Int32) {p : Program} {e : Env} {s : State} {m : MethodId} {args : Array Value} {below : List Frame} {meth : Method} {c : Code} {A : Nat → Prop} {F : va_W} (X : vX p s m args meth c cX10_addDirect 5 none RX10 (wq yX10_addDirect cX10_addDirect 5 none) D (tyA c9) G A) {Q : State → Prop} (o : Int32 × (Nat → Int32)) (K : vW p l e { frames := 2, cells := 0, slots := 0, locals := 46 } s m args below meth c 5 D A F 0 0 Q ((wX10 ad c9 o.1 o.2) ++ (wX2 ad1 c9 r_t_rows r_t_cells)) 72 [] []) :
    ∀ (n : Nat) (t_rows : Int32) (t_cells : Nat → Int32) (v2 : Int32), f_X10_addDirect_L2 r_t_rows r_t_cells n t_rows t_cells v2 = some o → vW p l e { frames := 2, cells := 0, slots := 0, locals := 46 } s m args below meth c 5 D A F 0 0 Q ((wX10 ad c9 t_rows t_cells) ++ (wX2 ad1 c9 r_t_rows r_t_cells)) 2 [(0, .ref (ad 0)), (1, .ref (ad1 0)), (2, .int v2)] [] := by
  intro n
  induction n with
  | zero =>
    intro t_rows t_cells v2 hf
    rw [f_X10_addDirect_L2] at hf
    cases hf
  | succ n ih =>
    intro t_rows t_cells v2 hf
    rw [f_X10_addDirect_L2] at hf
    refine v_iload_n X dX10_addDirect_2 2 rfl rfl 3 rfl ?_
    refine v_aload_n X dX10_addDirect_3 1 rfl rfl 4 rfl ?_
    obtain ⟨o1, ho1, hf⟩ := bnd hf
    refine v_callUi X (ci := 4) (T := TX2) (C := RX2) (owner := "TicketGate$Table") (As := []) (rest := [.int v2]) (ws' := ((wX10 ad c9 t_rows t_cells) ++ (wX2 ad1 c9 r_t_rows r_t_cells))) (c_X6_size l hG D c9 ad1 25 4 RX2 rfl layc_X2 5 5 r_t_rows r_t_cells ho1) 0 (gU wc_132 wc_59 wc_60 wc_61 wc_34 wc_62) rfl rfl rfl rfl pd_X6_size_UX10_addDirect_9 ⟨Nat.le_of_ble_eq_true rfl, Nat.le_of_ble_eq_true rfl⟩ 2 rfl rfl rfl rfl (Nat.le_of_ble_eq_true rfl) ⟨Nat.zero_le _, Nat.zero_le _⟩ [2, 3] [0, 1] [0, 1, 2, 3] rfl rfl rfl rfl dX10_addDirect_4 7 rfl ?_
    refine v_icmp_ge X (tgt := 72) dX10_addDirect_7 rfl 10 rfl hf (fun hf => ?_) (fun hf => ?_)
    · obtain rfl := Option.some.inj hf
      refine v_sub (lv' := []) [] rfl ?_
      exact K
    · refine v_aload_n X dX10_addDirect_10 0 rfl rfl 11 rfl ?_
      obtain ⟨o2, ho2, hf⟩ := bnd hf
      refine v_callUi X (ci := 11) (T := TX10) (C := RX10) (owner := "TicketGate$Table") (As := []) (rest := []) (ws' := ((wX10 ad c9 o2.2 t_cells) ++ (wX2 ad1 c9 r_t_rows r_t_cells))) (c_X6_addRow l hG D c9 ad 25 11 RX10 rfl layc_X10 5 5 t_rows t_cells ho2) 0 (gU wc_137 wc_138 wc_139 wc_48 wc_34 wc_49) rfl rfl rfl rfl pd_X6_addRow_UX10_addDirect_15 ⟨Nat.le_of_ble_eq_true rfl, Nat.le_of_ble_eq_true rfl⟩ 0 rfl rfl rfl rfl (Nat.le_of_ble_eq_true rfl) ⟨Nat.zero_le _, Nat.zero_le _⟩ [0, 1] [2, 3] [2, 3, 0, 1] rfl rfl rfl rfl dX10_addDirect_11 14 rfl ?_
      refine v_pop X dX10_addDirect_14 rfl 15 rfl ?_
      refine v_iconst X dX10_addDirect_15 ic_0 16 rfl ?_
      refine v_istore_n X (lv' := [(3, .int 0), (0, .ref (ad 0)), (1, .ref (ad1 0)), (2, .int v2)]) dX10_addDirect_16 rfl (by decide) rfl 17 rfl ?_
      obtain ⟨o8, ho8, hf⟩ := bnd hf
      refine v_sub (lv' := [(0, .ref (ad 0)), (1, .ref (ad1 0)), (2, .int v2), (3, .int 0)]) [1, 2, 3, 0] rfl ?_
      refine l_X10_addDirect_L17 l hG D c9 ad ad1 o2.2 r_t_rows r_t_cells v2 X o8 ?_ 5000 t_cells 0 ho8
      refine v_iinc X (lv' := [(2, .int (v2 + 1)), (0, .ref (ad 0)), (1, .ref (ad1 0))]) dX10_addDirect_66 2 rfl ic_1 (by decide) rfl 69 rfl ?_
      refine v_goto X (tgt := 2) dX10_addDirect_69 rfl ?_
      refine v_sub (lv' := [(0, .ref (ad 0)), (1, .ref (ad1 0)), (2, .int (v2 + 1))]) [1, 2, 0] rfl ?_
      exact ih o2.2 o8 (v2 + 1) hf
set_option maxRecDepth 100000 in
set_option maxHeartbeats 4000000 in
theorem c_X10_addDirect (l : Launch) {G : (Nat → Prop) → State → Heap → Prop} (hG : vG G) (D : va_G) (c9 : Nat → ClassId) (ad : Nat → Nat) (ad1 : Nat → Nat) (t_rows : Int32) (t_cells : Nat → Int32) (r_t_rows : Int32) (r_t_cells : Nat → Int32)  {o : Int32 × (Nat → Int32)} (hf : f_X10_addDirect t_rows t_cells r_t_rows r_t_cells = some o) : mV l yX10_addDirect (wq yX10_addDirect cX10_addDirect 5 none) { frames := 2, cells := 0, slots := 0, locals := 46 } G D (tyA c9) [.ref (ad 0), .ref (ad1 0)] ((wX10 ad c9 t_rows t_cells) ++ (wX2 ad1 c9 r_t_rows r_t_cells)) [] 0 0 ((wX10 ad c9 o.1 o.2) ++ (wX2 ad1 c9 r_t_rows r_t_cells)) := by
  refine mV_of hG (cc := cX10_addDirect) (maxL := 5) (by decide) rfl (Nat.le_of_ble_eq_true rfl) ?_
  intro p e s m args below meth c A hnm X
  have X : vX p s m args meth c cX10_addDirect 5 none RX10 (wq yX10_addDirect cX10_addDirect 5 none) D (tyA c9) G A := X
  refine v_eq (lv2 := [(0, .ref (ad 0)), (1, .ref (ad1 0))]) rfl rfl rfl rfl ?_
  rw [f_X10_addDirect] at hf
  refine v_iconst X dX10_addDirect_0 ic_0 1 rfl ?_
  refine v_istore_n X (lv' := [(2, .int 0), (0, .ref (ad 0)), (1, .ref (ad1 0))]) dX10_addDirect_1 rfl (by decide) rfl 2 rfl ?_
  obtain ⟨o9, ho9, hf⟩ := bnd hf
  refine v_sub (lv' := [(0, .ref (ad 0)), (1, .ref (ad1 0)), (2, .int 0)]) [1, 2, 0] rfl ?_
  refine l_X10_addDirect_L2 l hG D c9 ad ad1 r_t_rows r_t_cells X o9 ?_ 5000 t_rows t_cells 0 ho9
  obtain rfl := Option.some.inj hf
  exact v_vret X (Nat.zero_le _) (Nat.zero_le _) dX10_addDirect_72
theorem pd_X10_addDirect : yX10_addDirect.cls ≠ "java/lang/invoke/MethodHandle" ∧ yX10_addDirect.cls ≠ "java/lang/invoke/VarHandle" ∧ (parseMethodDescriptor yX10_addDirect.desc).map (fun d => d.parameters.length) = some 1 := by decide +kernel
theorem pd_X6_size_UX10_goThrough_28 : "TicketGate$Table" ≠ "java/lang/invoke/MethodHandle" ∧ "TicketGate$Table" ≠ "java/lang/invoke/VarHandle" ∧ (parseMethodDescriptor "()I").map (fun d => d.parameters.length) = some 0 := by decide +kernel
theorem pd_X6_get_UX10_goThrough_29 : "TicketGate$Table" ≠ "java/lang/invoke/MethodHandle" ∧ "TicketGate$Table" ≠ "java/lang/invoke/VarHandle" ∧ (parseMethodDescriptor "(II)I").map (fun d => d.parameters.length) = some 2 := by decide +kernel
theorem pd_X6_set_UX10_goThrough_24 : "TicketGate$Table" ≠ "java/lang/invoke/MethodHandle" ∧ "TicketGate$Table" ≠ "java/lang/invoke/VarHandle" ∧ (parseMethodDescriptor "(III)V").map (fun d => d.parameters.length) = some 3 := by decide +kernel
def f_X10_goThrough_L12 (t_rows : Int32) (v1 : Int32) (v2 : Int32) : Nat → (Nat → Int32) → Int32 → Option ((Nat → Int32))
  | 0, _, _ => none
  | n + 1, t_cells, v3 =>
    (f_X6_size 25 t_rows).bind fun o2 =>
    if o2 ≤ v3 then (
      some (t_cells))
    else (
      (f_X6_get 25 5 t_rows t_cells v2 v1).bind fun o3 =>
      (f_X6_get 25 5 t_rows t_cells v1 v3).bind fun o4 =>
      (f_X6_get 25 5 t_rows t_cells v2 v3).bind fun o5 =>
      (f_X6_set 25 5 t_rows t_cells v2 v3 (imin (o3 + o4) o5)).bind fun o6 =>
      f_X10_goThrough_L12 t_rows v1 v2 n o6 (v3 + 1))
def f_X10_goThrough_L2 (t_rows : Int32) (v1 : Int32) : Nat → (Nat → Int32) → Int32 → Option ((Nat → Int32))
  | 0, _, _ => none
  | n + 1, t_cells, v2 =>
    (f_X6_size 25 t_rows).bind fun o1 =>
    if o1 ≤ v2 then (
      some (t_cells))
    else (
      (f_X10_goThrough_L12 t_rows v1 v2 5000 t_cells 0).bind fun o7 =>
      f_X10_goThrough_L2 t_rows v1 n o7 (v2 + 1))
def f_X10_goThrough (t_rows : Int32) (t_cells : Nat → Int32) (v1 : Int32) : Option ((Nat → Int32)) :=
  (f_X10_goThrough_L2 t_rows v1 5000 t_cells 0).bind fun o8 =>
  some (o8)
set_option maxRecDepth 100000 in
set_option maxHeartbeats 4000000 in
theorem l_X10_goThrough_L12 (l : Launch) {G : (Nat → Prop) → State → Heap → Prop} (hG : vG G) (D : va_G) (c9 : Nat → ClassId) (ad : Nat → Nat) (t_rows : Int32) (v1 : Int32) (v2 : Int32) {p : Program} {e : Env} {s : State} {m : MethodId} {args : Array Value} {below : List Frame} {meth : Method} {c : Code} {A : Nat → Prop} {F : va_W} (X : vX p s m args meth c cX10_goThrough 5 none RX10 (wq yX10_goThrough cX10_goThrough 5 none) D (tyA c9) G A) {Q : State → Prop} (o : (Nat → Int32)) (K : vW p l e { frames := 1, cells := 0, slots := 0, locals := 40 } s m args below meth c 5 D A F 0 0 Q (wX10 ad c9 t_rows o) 58 [(0, .ref (ad 0)), (1, .int v1), (2, .int v2)] []) :
    ∀ (n : Nat) (t_cells : Nat → Int32) (v3 : Int32), f_X10_goThrough_L12 t_rows v1 v2 n t_cells v3 = some o → vW p l e { frames := 1, cells := 0, slots := 0, locals := 40 } s m args below meth c 5 D A F 0 0 Q (wX10 ad c9 t_rows t_cells) 12 [(0, .ref (ad 0)), (1, .int v1), (2, .int v2), (3, .int v3)] [] := by
  intro n
  induction n with
  | zero =>
    intro t_cells v3 hf
    rw [f_X10_goThrough_L12] at hf
    cases hf
  | succ n ih =>
    intro t_cells v3 hf
    rw [f_X10_goThrough_L12] at hf
    refine v_iload_n X dX10_goThrough_12 3 rfl rfl 13 rfl ?_
    refine v_aload_n X dX10_goThrough_13 0 rfl rfl 14 rfl ?_
    obtain ⟨o2, ho2, hf⟩ := bnd hf
    refine v_callUi X (ci := 11) (T := TX10) (C := RX10) (owner := "TicketGate$Table") (As := []) (rest := [.int v3]) (ws' := (wX10 ad c9 t_rows t_cells)) (c_X6_size l hG D c9 ad 25 11 RX10 rfl layc_X10 5 5 t_rows t_cells ho2) 0 (gU wc_147 wc_148 wc_149 wc_61 wc_34 wc_62) rfl rfl rfl rfl pd_X6_size_UX10_goThrough_28 ⟨Nat.le_of_ble_eq_true rfl, Nat.le_of_ble_eq_true rfl⟩ 0 rfl rfl rfl rfl (Nat.le_of_ble_eq_true rfl) ⟨Nat.zero_le _, Nat.zero_le _⟩ [0, 1] [] [0, 1] rfl rfl rfl rfl dX10_goThrough_14 17 rfl ?_
    refine v_icmp_ge X (tgt := 58) dX10_goThrough_17 rfl 20 rfl hf (fun hf => ?_) (fun hf => ?_)
    · obtain rfl := Option.some.inj hf
      refine v_sub (lv' := [(0, .ref (ad 0)), (1, .int v1), (2, .int v2)]) [0, 1, 2] rfl ?_
      exact K
    · refine v_aload_n X dX10_goThrough_20 0 rfl rfl 21 rfl ?_
      refine v_iload_n X dX10_goThrough_21 2 rfl rfl 22 rfl ?_
      refine v_iload_n X dX10_goThrough_22 1 rfl rfl 23 rfl ?_
      obtain ⟨o3, ho3, hf⟩ := bnd hf
      refine v_callUi X (ci := 11) (T := TX10) (C := RX10) (owner := "TicketGate$Table") (As := [.int v2, .int v1]) (rest := []) (ws' := (wX10 ad c9 t_rows t_cells)) (c_X6_get l hG D c9 ad 25 11 RX10 rfl layc_X10 5 5 t_rows t_cells v2 v1 ho3) 2 (gU wc_150 wc_151 wc_152 wc_33 wc_34 wc_35) rfl rfl rfl rfl pd_X6_get_UX10_goThrough_29 ⟨Nat.le_of_ble_eq_true rfl, Nat.le_of_ble_eq_true rfl⟩ 0 rfl rfl rfl rfl (Nat.le_of_ble_eq_true rfl) ⟨Nat.zero_le _, Nat.zero_le _⟩ [0, 1] [] [0, 1] rfl rfl rfl rfl dX10_goThrough_23 26 rfl ?_
      refine v_aload_n X dX10_goThrough_26 0 rfl rfl 27 rfl ?_
      refine v_iload_n X dX10_goThrough_27 1 rfl rfl 28 rfl ?_
      refine v_iload_n X dX10_goThrough_28 3 rfl rfl 29 rfl ?_
      obtain ⟨o4, ho4, hf⟩ := bnd hf
      refine v_callUi X (ci := 11) (T := TX10) (C := RX10) (owner := "TicketGate$Table") (As := [.int v1, .int v3]) (rest := [.int o3]) (ws' := (wX10 ad c9 t_rows t_cells)) (c_X6_get l hG D c9 ad 25 11 RX10 rfl layc_X10 5 5 t_rows t_cells v1 v3 ho4) 2 (gU wc_150 wc_151 wc_152 wc_33 wc_34 wc_35) rfl rfl rfl rfl pd_X6_get_UX10_goThrough_29 ⟨Nat.le_of_ble_eq_true rfl, Nat.le_of_ble_eq_true rfl⟩ 0 rfl rfl rfl rfl (Nat.le_of_ble_eq_true rfl) ⟨Nat.zero_le _, Nat.zero_le _⟩ [0, 1] [] [0, 1] rfl rfl rfl rfl dX10_goThrough_29 32 rfl ?_
      refine v_iadd X dX10_goThrough_32 33 rfl ?_
      refine v_istore X (lv' := [(4, .int (o3 + o4)), (0, .ref (ad 0)), (1, .int v1), (2, .int v2), (3, .int v3)]) dX10_goThrough_33 (by decide) rfl 35 rfl ?_
      refine v_aload_n X dX10_goThrough_35 1 rfl rfl 36 rfl ?_
      refine v_iload_n X dX10_goThrough_36 3 rfl rfl 37 rfl ?_
      refine v_iload_n X dX10_goThrough_37 4 rfl rfl 38 rfl ?_
      refine v_iload X dX10_goThrough_38 0 rfl 40 rfl ?_
      refine v_aload_n X dX10_goThrough_40 1 rfl rfl 41 rfl ?_
      refine v_iload_n X dX10_goThrough_41 3 rfl rfl 42 rfl ?_
      refine v_iload_n X dX10_goThrough_42 4 rfl rfl 43 rfl ?_
      obtain ⟨o5, ho5, hf⟩ := bnd hf
      refine v_callUi X (ci := 11) (T := TX10) (C := RX10) (owner := "TicketGate$Table") (As := [.int v2, .int v3]) (rest := [.int (o3 + o4), .int v3, .int v2, .ref (ad 0)]) (ws' := (wX10 ad c9 t_rows t_cells)) (c_X6_get l hG D c9 ad 25 11 RX10 rfl layc_X10 5 5 t_rows t_cells v2 v3 ho5) 2 (gU wc_150 wc_151 wc_152 wc_33 wc_34 wc_35) rfl rfl rfl rfl pd_X6_get_UX10_goThrough_29 ⟨Nat.le_of_ble_eq_true rfl, Nat.le_of_ble_eq_true rfl⟩ 0 rfl rfl rfl rfl (Nat.le_of_ble_eq_true rfl) ⟨Nat.zero_le _, Nat.zero_le _⟩ [0, 1] [] [0, 1] rfl rfl rfl rfl dX10_goThrough_43 46 rfl ?_
      refine v_mmin X dX10_goThrough_46 (mw wc_153) (mw wc_24) (mw wc_25) (mw wc_26) (Nat.le_of_ble_eq_true rfl) (Nat.le_of_ble_eq_true rfl) (Nat.zero_le _) (Nat.zero_le _) 49 rfl ?_
      obtain ⟨o6, ho6, hf⟩ := bnd hf
      refine v_callUv X (ci := 11) (T := TX10) (C := RX10) (owner := "TicketGate$Table") (As := [.int v2, .int v3, .int (imin (o3 + o4) o5)]) (rest := []) (ws' := (wX10 ad c9 t_rows o6)) (c_X6_set l hG D c9 ad 25 11 RX10 rfl layc_X10 5 5 t_rows t_cells v2 v3 (imin (o3 + o4) o5) ho6) 3 (gU wc_144 wc_145 wc_146 wc_53 wc_34 wc_54) rfl rfl rfl rfl pd_X6_set_UX10_goThrough_24 ⟨Nat.le_of_ble_eq_true rfl, Nat.le_of_ble_eq_true rfl⟩ 0 rfl rfl rfl rfl (Nat.le_of_ble_eq_true rfl) ⟨Nat.zero_le _, Nat.zero_le _⟩ [0, 1] [] [0, 1] rfl rfl rfl rfl dX10_goThrough_49 52 rfl ?_
      refine v_iinc X (lv' := [(3, .int (v3 + 1)), (4, .int (o3 + o4)), (0, .ref (ad 0)), (1, .int v1), (2, .int v2)]) dX10_goThrough_52 4 rfl ic_1 (by decide) rfl 55 rfl ?_
      refine v_goto X (tgt := 12) dX10_goThrough_55 rfl ?_
      refine v_sub (lv' := [(0, .ref (ad 0)), (1, .int v1), (2, .int v2), (3, .int (v3 + 1))]) [2, 3, 4, 0] rfl ?_
      exact ih o6 (v3 + 1) hf
set_option maxRecDepth 100000 in
set_option maxHeartbeats 4000000 in
theorem l_X10_goThrough_L2 (l : Launch) {G : (Nat → Prop) → State → Heap → Prop} (hG : vG G) (D : va_G) (c9 : Nat → ClassId) (ad : Nat → Nat) (t_rows : Int32) (v1 : Int32) {p : Program} {e : Env} {s : State} {m : MethodId} {args : Array Value} {below : List Frame} {meth : Method} {c : Code} {A : Nat → Prop} {F : va_W} (X : vX p s m args meth c cX10_goThrough 5 none RX10 (wq yX10_goThrough cX10_goThrough 5 none) D (tyA c9) G A) {Q : State → Prop} (o : (Nat → Int32)) (K : vW p l e { frames := 1, cells := 0, slots := 0, locals := 40 } s m args below meth c 5 D A F 0 0 Q (wX10 ad c9 t_rows o) 64 [] []) :
    ∀ (n : Nat) (t_cells : Nat → Int32) (v2 : Int32), f_X10_goThrough_L2 t_rows v1 n t_cells v2 = some o → vW p l e { frames := 1, cells := 0, slots := 0, locals := 40 } s m args below meth c 5 D A F 0 0 Q (wX10 ad c9 t_rows t_cells) 2 [(0, .ref (ad 0)), (1, .int v1), (2, .int v2)] [] := by
  intro n
  induction n with
  | zero =>
    intro t_cells v2 hf
    rw [f_X10_goThrough_L2] at hf
    cases hf
  | succ n ih =>
    intro t_cells v2 hf
    rw [f_X10_goThrough_L2] at hf
    refine v_iload_n X dX10_goThrough_2 2 rfl rfl 3 rfl ?_
    refine v_aload_n X dX10_goThrough_3 0 rfl rfl 4 rfl ?_
    obtain ⟨o1, ho1, hf⟩ := bnd hf
    refine v_callUi X (ci := 11) (T := TX10) (C := RX10) (owner := "TicketGate$Table") (As := []) (rest := [.int v2]) (ws' := (wX10 ad c9 t_rows t_cells)) (c_X6_size l hG D c9 ad 25 11 RX10 rfl layc_X10 5 5 t_rows t_cells ho1) 0 (gU wc_147 wc_148 wc_149 wc_61 wc_34 wc_62) rfl rfl rfl rfl pd_X6_size_UX10_goThrough_28 ⟨Nat.le_of_ble_eq_true rfl, Nat.le_of_ble_eq_true rfl⟩ 0 rfl rfl rfl rfl (Nat.le_of_ble_eq_true rfl) ⟨Nat.zero_le _, Nat.zero_le _⟩ [0, 1] [] [0, 1] rfl rfl rfl rfl dX10_goThrough_4 7 rfl ?_
    refine v_icmp_ge X (tgt := 64) dX10_goThrough_7 rfl 10 rfl hf (fun hf => ?_) (fun hf => ?_)
    · obtain rfl := Option.some.inj hf
      refine v_sub (lv' := []) [] rfl ?_
      exact K
    · refine v_iconst X dX10_goThrough_10 ic_0 11 rfl ?_
      refine v_istore_n X (lv' := [(3, .int 0), (0, .ref (ad 0)), (1, .int v1), (2, .int v2)]) dX10_goThrough_11 rfl (by decide) rfl 12 rfl ?_
      obtain ⟨o7, ho7, hf⟩ := bnd hf
      refine v_sub (lv' := [(0, .ref (ad 0)), (1, .int v1), (2, .int v2), (3, .int 0)]) [1, 2, 3, 0] rfl ?_
      refine l_X10_goThrough_L12 l hG D c9 ad t_rows v1 v2 X o7 ?_ 5000 t_cells 0 ho7
      refine v_iinc X (lv' := [(2, .int (v2 + 1)), (0, .ref (ad 0)), (1, .int v1)]) dX10_goThrough_58 2 rfl ic_1 (by decide) rfl 61 rfl ?_
      refine v_goto X (tgt := 2) dX10_goThrough_61 rfl ?_
      refine v_sub (lv' := [(0, .ref (ad 0)), (1, .int v1), (2, .int (v2 + 1))]) [1, 2, 0] rfl ?_
      exact ih o7 (v2 + 1) hf
set_option maxRecDepth 100000 in
set_option maxHeartbeats 4000000 in
theorem c_X10_goThrough (l : Launch) {G : (Nat → Prop) → State → Heap → Prop} (hG : vG G) (D : va_G) (c9 : Nat → ClassId) (ad : Nat → Nat) (t_rows : Int32) (t_cells : Nat → Int32) (v1 : Int32) {o : (Nat → Int32)} (hf : f_X10_goThrough t_rows t_cells v1 = some o) : mV l yX10_goThrough (wq yX10_goThrough cX10_goThrough 5 none) { frames := 1, cells := 0, slots := 0, locals := 40 } G D (tyA c9) [.ref (ad 0), .int v1] (wX10 ad c9 t_rows t_cells) [] 0 0 (wX10 ad c9 t_rows o) := by
  refine mV_of hG (cc := cX10_goThrough) (maxL := 5) (by decide) rfl (Nat.le_of_ble_eq_true rfl) ?_
  intro p e s m args below meth c A hnm X
  have X : vX p s m args meth c cX10_goThrough 5 none RX10 (wq yX10_goThrough cX10_goThrough 5 none) D (tyA c9) G A := X
  refine v_eq (lv2 := [(0, .ref (ad 0)), (1, .int v1)]) rfl rfl rfl rfl ?_
  rw [f_X10_goThrough] at hf
  refine v_iconst X dX10_goThrough_0 ic_0 1 rfl ?_
  refine v_istore_n X (lv' := [(2, .int 0), (0, .ref (ad 0)), (1, .int v1)]) dX10_goThrough_1 rfl (by decide) rfl 2 rfl ?_
  obtain ⟨o8, ho8, hf⟩ := bnd hf
  refine v_sub (lv' := [(0, .ref (ad 0)), (1, .int v1), (2, .int 0)]) [1, 2, 0] rfl ?_
  refine l_X10_goThrough_L2 l hG D c9 ad t_rows v1 X o8 ?_ 5000 t_cells 0 ho8
  obtain rfl := Option.some.inj hf
  exact v_vret X (Nat.zero_le _) (Nat.zero_le _) dX10_goThrough_64
theorem pd_X10_goThrough : yX10_goThrough.cls ≠ "java/lang/invoke/MethodHandle" ∧ yX10_goThrough.cls ≠ "java/lang/invoke/VarHandle" ∧ (parseMethodDescriptor yX10_goThrough.desc).map (fun d => d.parameters.length) = some 1 := by decide +kernel
theorem pd_X6_get_UX10_lengthOf_29 : "TicketGate$Table" ≠ "java/lang/invoke/MethodHandle" ∧ "TicketGate$Table" ≠ "java/lang/invoke/VarHandle" ∧ (parseMethodDescriptor "(II)I").map (fun d => d.parameters.length) = some 2 := by decide +kernel
def f_X10_lengthOf (t_rows : Int32) (t_cells : Nat → Int32) (v1 : Int32) (v2 : Int32) : Option (Int32) :=
  (f_X6_get 25 5 t_rows t_cells v1 v2).bind fun o1 =>
  if o1 < 1000 then (
    some (o1))
  else (
    some ((-1)))
set_option maxRecDepth 100000 in
set_option maxHeartbeats 4000000 in
theorem c_X10_lengthOf (l : Launch) {G : (Nat → Prop) → State → Heap → Prop} (hG : vG G) (D : va_G) (c9 : Nat → ClassId) (ad : Nat → Nat) (t_rows : Int32) (t_cells : Nat → Int32) (v1 : Int32) (v2 : Int32) {o : Int32} (hf : f_X10_lengthOf t_rows t_cells v1 v2 = some o) : mI l yX10_lengthOf (wq yX10_lengthOf cX10_lengthOf 4 (some .int)) { frames := 1, cells := 0, slots := 0, locals := 24 } G D (tyA c9) [.ref (ad 0), .int v1, .int v2] (wX10 ad c9 t_rows t_cells) [] 0 0 o (wX10 ad c9 t_rows t_cells) := by
  refine mI_of hG (cc := cX10_lengthOf) (maxL := 4) (ty := .int) (by decide) rfl (Nat.le_of_ble_eq_true rfl) ?_
  intro p e s m args below meth c A X
  have X : vX p s m args meth c cX10_lengthOf 4 (some .int) RX10 (wq yX10_lengthOf cX10_lengthOf 4 (some .int)) D (tyA c9) G A := X
  refine v_eq (lv2 := [(0, .ref (ad 0)), (1, .int v1), (2, .int v2)]) rfl rfl rfl rfl ?_
  rw [f_X10_lengthOf] at hf
  refine v_aload_n X dX10_lengthOf_0 0 rfl rfl 1 rfl ?_
  refine v_iload_n X dX10_lengthOf_1 1 rfl rfl 2 rfl ?_
  refine v_iload_n X dX10_lengthOf_2 2 rfl rfl 3 rfl ?_
  obtain ⟨o1, ho1, hf⟩ := bnd hf
  refine v_callUi X (ci := 11) (T := TX10) (C := RX10) (owner := "TicketGate$Table") (As := [.int v1, .int v2]) (rest := []) (ws' := (wX10 ad c9 t_rows t_cells)) (c_X6_get l hG D c9 ad 25 11 RX10 rfl layc_X10 5 5 t_rows t_cells v1 v2 ho1) 2 (gU wc_150 wc_151 wc_152 wc_33 wc_34 wc_35) rfl rfl rfl rfl pd_X6_get_UX10_lengthOf_29 ⟨Nat.le_of_ble_eq_true rfl, Nat.le_of_ble_eq_true rfl⟩ 0 rfl rfl rfl rfl (Nat.le_of_ble_eq_true rfl) ⟨Nat.zero_le _, Nat.zero_le _⟩ [0, 1] [] [0, 1] rfl rfl rfl rfl dX10_lengthOf_3 6 rfl ?_
  refine v_istore_n X (lv' := [(3, .int o1), (0, .ref (ad 0)), (1, .int v1), (2, .int v2)]) dX10_lengthOf_6 rfl (by decide) rfl 7 rfl ?_
  refine v_iload_n X dX10_lengthOf_7 0 rfl rfl 8 rfl ?_
  refine v_sipush X dX10_lengthOf_8 sp_1000 11 rfl ?_
  refine v_icmp_lt X (tgt := 18) dX10_lengthOf_11 rfl 14 rfl hf (fun hf => ?_) (fun hf => ?_)
  · refine v_iload_n X dX10_lengthOf_18 0 rfl rfl 19 rfl ?_
    obtain rfl := Option.some.inj hf
    exact v_iret X (Nat.zero_le _) (Nat.zero_le _) dX10_lengthOf_19
  · refine v_iconst X dX10_lengthOf_14 ic_m1 15 rfl ?_
    refine v_goto X (tgt := 19) dX10_lengthOf_15 rfl ?_
    obtain rfl := Option.some.inj hf
    exact v_iret X (Nat.zero_le _) (Nat.zero_le _) dX10_lengthOf_19
theorem pd_X10_lengthOf : yX10_lengthOf.cls ≠ "java/lang/invoke/MethodHandle" ∧ yX10_lengthOf.cls ≠ "java/lang/invoke/VarHandle" ∧ (parseMethodDescriptor yX10_lengthOf.desc).map (fun d => d.parameters.length) = some 2 := by decide +kernel
