theorem pd_X6_size_UX9_knows_27 : "TicketGate$Table" ≠ "java/lang/invoke/MethodHandle" ∧ "TicketGate$Table" ≠ "java/lang/invoke/VarHandle" ∧ (parseMethodDescriptor "()I").map (fun d => d.parameters.length) = some 0 := by decide +kernel
theorem pd_X6_get_UX9_knows_30 : "TicketGate$Table" ≠ "java/lang/invoke/MethodHandle" ∧ "TicketGate$Table" ≠ "java/lang/invoke/VarHandle" ∧ (parseMethodDescriptor "(II)I").map (fun d => d.parameters.length) = some 2 := by decide +kernel
def f_X9_knows_L6 (t_rows : Int32) (t_cells : Nat → Int32) (v1 : Int32) (v2 : Int32) (v3 : Int32) (v4 : Int32) : Nat → Int32 → Int32 → Option (Int32)
  | 0, _, _ => none
  | n + 1, v5, v6 =>
    (f_X6_size 120 t_rows).bind fun o1 =>
    if o1 ≤ v6 then (
      some (v5))
    else (
      if v5 = 0 then (
        (f_X6_get 120 4 t_rows t_cells v6 0).bind fun o2 =>
        if o2 = v1 then (
          (f_X6_get 120 4 t_rows t_cells v6 1).bind fun o3 =>
          if o3 = v2 then (
            (f_X6_get 120 4 t_rows t_cells v6 2).bind fun o4 =>
            if o4 = v3 then (
              (f_X6_get 120 4 t_rows t_cells v6 3).bind fun o5 =>
              if o5 < v4 then (
                f_X9_knows_L6 t_rows t_cells v1 v2 v3 v4 n  0 (v6 + 1))
              else (
                f_X9_knows_L6 t_rows t_cells v1 v2 v3 v4 n  1 (v6 + 1)))
            else (
              f_X9_knows_L6 t_rows t_cells v1 v2 v3 v4 n  0 (v6 + 1)))
          else (
            f_X9_knows_L6 t_rows t_cells v1 v2 v3 v4 n  0 (v6 + 1)))
        else (
          f_X9_knows_L6 t_rows t_cells v1 v2 v3 v4 n  0 (v6 + 1)))
      else (
        some (v5)))
def f_X9_knows (t_rows : Int32) (t_cells : Nat → Int32) (v1 : Int32) (v2 : Int32) (v3 : Int32) (v4 : Int32) : Option (Int32) :=
  (f_X9_knows_L6 t_rows t_cells v1 v2 v3 v4 5000 0 0).bind fun o6 =>
  (zr o6).bind fun z7 => some (z7)
set_option maxRecDepth 100000 in
set_option maxHeartbeats 4000000 in
theorem l_X9_knows_L6 (l : Launch) {G : (Nat → Prop) → State → Heap → Prop} (hG : vG G) (D : va_G) (c9 : Nat → ClassId) (ad : Nat → Nat) (t_rows : Int32) (t_cells : Nat → Int32) (v1 : Int32) (v2 : Int32) (v3 : Int32) (v4 : Int32) {p : Program} {e : Env} {s : State} {m : MethodId} {args : Array Value} {below : List Frame} {meth : Method} {c : Code} {A : Nat → Prop} {F : va_W} (X : vX p s m args meth c cX9_knows 7 (some .boolean) RX9 (wq yX9_knows cX9_knows 7 (some .boolean)) D (tyA c9) G A) {Q : State → Prop} (o : Int32) (K : vW p l e { frames := 1, cells := 0, slots := 0, locals := 24 } s m args below meth c 7 D A F 0 0 Q (wX9 ad c9 t_rows t_cells) 78 [(5, .int o)] []) :
    ∀ (n : Nat) (v5 : Int32) (v6 : Int32), f_X9_knows_L6 t_rows t_cells v1 v2 v3 v4 n v5 v6 = some o → vW p l e { frames := 1, cells := 0, slots := 0, locals := 24 } s m args below meth c 7 D A F 0 0 Q (wX9 ad c9 t_rows t_cells) 6 [(0, .ref (ad 0)), (1, .int v1), (2, .int v2), (3, .int v3), (4, .int v4), (5, .int v5), (6, .int v6)] [] := by
  intro n
  induction n with
  | zero =>
    intro v5 v6 hf
    rw [f_X9_knows_L6] at hf
    cases hf
  | succ n ih =>
    intro v5 v6 hf
    rw [f_X9_knows_L6] at hf
    refine v_iload X dX9_knows_6 6 rfl 8 rfl ?_
    refine v_aload_n X dX9_knows_8 0 rfl rfl 9 rfl ?_
    obtain ⟨o1, ho1, hf⟩ := bnd hf
    refine v_callUi X (ci := 8) (T := TX9) (C := RX9) (owner := "TicketGate$Table") (As := []) (rest := [.int v6]) (ws' := (wX9 ad c9 t_rows t_cells)) (c_X6_size l hG D c9 ad 120 8 RX9 rfl layc_X9 30 4 t_rows t_cells ho1) 0 (gU wc_135 wc_136 wc_137 wc_62 wc_35 wc_63) rfl rfl rfl rfl pd_X6_size_UX9_knows_27 ⟨Nat.le_of_ble_eq_true rfl, Nat.le_of_ble_eq_true rfl⟩ 0 rfl rfl rfl rfl (Nat.le_of_ble_eq_true rfl) ⟨Nat.zero_le _, Nat.zero_le _⟩ [0, 1] [] [0, 1] rfl rfl rfl rfl dX9_knows_9 12 rfl ?_
    refine v_icmp_ge X (tgt := 78) dX9_knows_12 rfl 15 rfl hf (fun hf => ?_) (fun hf => ?_)
    · obtain rfl := Option.some.inj hf
      refine v_sub (lv' := [(5, .int v5)]) [5] rfl ?_
      exact K
    · refine v_iload X dX9_knows_15 5 rfl 17 rfl ?_
      refine v_if_ne X (tgt := 78) dX9_knows_17 rfl 20 rfl hf (fun hf => ?_) (fun hf => ?_)
      · obtain rfl := Option.some.inj hf
        refine v_sub (lv' := [(5, .int v5)]) [5] rfl ?_
        exact K
      · refine v_aload_n X dX9_knows_20 0 rfl rfl 21 rfl ?_
        refine v_iload X dX9_knows_21 6 rfl 23 rfl ?_
        refine v_iconst X dX9_knows_23 ic_0 24 rfl ?_
        obtain ⟨o2, ho2, hf⟩ := bnd hf
        refine v_callUi X (ci := 8) (T := TX9) (C := RX9) (owner := "TicketGate$Table") (As := [.int v6, .int 0]) (rest := []) (ws' := (wX9 ad c9 t_rows t_cells)) (c_X6_get l hG D c9 ad 120 8 RX9 rfl layc_X9 30 4 t_rows t_cells v6 0 ho2) 2 (gU wc_138 wc_139 wc_140 wc_34 wc_35 wc_36) rfl rfl rfl rfl pd_X6_get_UX9_knows_30 ⟨Nat.le_of_ble_eq_true rfl, Nat.le_of_ble_eq_true rfl⟩ 0 rfl rfl rfl rfl (Nat.le_of_ble_eq_true rfl) ⟨Nat.zero_le _, Nat.zero_le _⟩ [0, 1] [] [0, 1] rfl rfl rfl rfl dX9_knows_24 27 rfl ?_
        refine v_iload_n X dX9_knows_27 1 rfl rfl 28 rfl ?_
        refine v_icmp_ne X (tgt := 69) dX9_knows_28 rfl 31 rfl hf (fun hf => ?_) (fun hf => ?_)
        · refine v_iconst X dX9_knows_69 ic_0 70 rfl ?_
          refine v_istore X (lv' := [(5, .int 0), (0, .ref (ad 0)), (1, .int v1), (2, .int v2), (3, .int v3), (4, .int v4), (6, .int v6)]) dX9_knows_70 (by decide) rfl 72 rfl ?_
          refine v_iinc X (lv' := [(6, .int (v6 + 1)), (5, .int 0), (0, .ref (ad 0)), (1, .int v1), (2, .int v2), (3, .int v3), (4, .int v4)]) dX9_knows_72 6 rfl ic_1 (by decide) rfl 75 rfl ?_
          refine v_goto X (tgt := 6) dX9_knows_75 rfl ?_
          refine v_sub (lv' := [(0, .ref (ad 0)), (1, .int v1), (2, .int v2), (3, .int v3), (4, .int v4), (5, .int 0), (6, .int (v6 + 1))]) [2, 3, 4, 5, 6, 1, 0] rfl ?_
          exact ih 0 (v6 + 1) hf
        · refine v_aload_n X dX9_knows_31 0 rfl rfl 32 rfl ?_
          refine v_iload X dX9_knows_32 6 rfl 34 rfl ?_
          refine v_iconst X dX9_knows_34 ic_1 35 rfl ?_
          obtain ⟨o3, ho3, hf⟩ := bnd hf
          refine v_callUi X (ci := 8) (T := TX9) (C := RX9) (owner := "TicketGate$Table") (As := [.int v6, .int 1]) (rest := []) (ws' := (wX9 ad c9 t_rows t_cells)) (c_X6_get l hG D c9 ad 120 8 RX9 rfl layc_X9 30 4 t_rows t_cells v6 1 ho3) 2 (gU wc_138 wc_139 wc_140 wc_34 wc_35 wc_36) rfl rfl rfl rfl pd_X6_get_UX9_knows_30 ⟨Nat.le_of_ble_eq_true rfl, Nat.le_of_ble_eq_true rfl⟩ 0 rfl rfl rfl rfl (Nat.le_of_ble_eq_true rfl) ⟨Nat.zero_le _, Nat.zero_le _⟩ [0, 1] [] [0, 1] rfl rfl rfl rfl dX9_knows_35 38 rfl ?_
          refine v_iload_n X dX9_knows_38 2 rfl rfl 39 rfl ?_
          refine v_icmp_ne X (tgt := 69) dX9_knows_39 rfl 42 rfl hf (fun hf => ?_) (fun hf => ?_)
          · refine v_iconst X dX9_knows_69 ic_0 70 rfl ?_
            refine v_istore X (lv' := [(5, .int 0), (0, .ref (ad 0)), (1, .int v1), (2, .int v2), (3, .int v3), (4, .int v4), (6, .int v6)]) dX9_knows_70 (by decide) rfl 72 rfl ?_
            refine v_iinc X (lv' := [(6, .int (v6 + 1)), (5, .int 0), (0, .ref (ad 0)), (1, .int v1), (2, .int v2), (3, .int v3), (4, .int v4)]) dX9_knows_72 6 rfl ic_1 (by decide) rfl 75 rfl ?_
            refine v_goto X (tgt := 6) dX9_knows_75 rfl ?_
            refine v_sub (lv' := [(0, .ref (ad 0)), (1, .int v1), (2, .int v2), (3, .int v3), (4, .int v4), (5, .int 0), (6, .int (v6 + 1))]) [2, 3, 4, 5, 6, 1, 0] rfl ?_
            exact ih 0 (v6 + 1) hf
          · refine v_aload_n X dX9_knows_42 0 rfl rfl 43 rfl ?_
            refine v_iload X dX9_knows_43 6 rfl 45 rfl ?_
            refine v_iconst X dX9_knows_45 ic_2 46 rfl ?_
            obtain ⟨o4, ho4, hf⟩ := bnd hf
            refine v_callUi X (ci := 8) (T := TX9) (C := RX9) (owner := "TicketGate$Table") (As := [.int v6, .int 2]) (rest := []) (ws' := (wX9 ad c9 t_rows t_cells)) (c_X6_get l hG D c9 ad 120 8 RX9 rfl layc_X9 30 4 t_rows t_cells v6 2 ho4) 2 (gU wc_138 wc_139 wc_140 wc_34 wc_35 wc_36) rfl rfl rfl rfl pd_X6_get_UX9_knows_30 ⟨Nat.le_of_ble_eq_true rfl, Nat.le_of_ble_eq_true rfl⟩ 0 rfl rfl rfl rfl (Nat.le_of_ble_eq_true rfl) ⟨Nat.zero_le _, Nat.zero_le _⟩ [0, 1] [] [0, 1] rfl rfl rfl rfl dX9_knows_46 49 rfl ?_
            refine v_iload_n X dX9_knows_49 3 rfl rfl 50 rfl ?_
            refine v_icmp_ne X (tgt := 69) dX9_knows_50 rfl 53 rfl hf (fun hf => ?_) (fun hf => ?_)
            · refine v_iconst X dX9_knows_69 ic_0 70 rfl ?_
              refine v_istore X (lv' := [(5, .int 0), (0, .ref (ad 0)), (1, .int v1), (2, .int v2), (3, .int v3), (4, .int v4), (6, .int v6)]) dX9_knows_70 (by decide) rfl 72 rfl ?_
              refine v_iinc X (lv' := [(6, .int (v6 + 1)), (5, .int 0), (0, .ref (ad 0)), (1, .int v1), (2, .int v2), (3, .int v3), (4, .int v4)]) dX9_knows_72 6 rfl ic_1 (by decide) rfl 75 rfl ?_
              refine v_goto X (tgt := 6) dX9_knows_75 rfl ?_
              refine v_sub (lv' := [(0, .ref (ad 0)), (1, .int v1), (2, .int v2), (3, .int v3), (4, .int v4), (5, .int 0), (6, .int (v6 + 1))]) [2, 3, 4, 5, 6, 1, 0] rfl ?_
              exact ih 0 (v6 + 1) hf
            · refine v_aload_n X dX9_knows_53 0 rfl rfl 54 rfl ?_
              refine v_iload X dX9_knows_54 6 rfl 56 rfl ?_
              refine v_iconst X dX9_knows_56 ic_3 57 rfl ?_
              obtain ⟨o5, ho5, hf⟩ := bnd hf
              refine v_callUi X (ci := 8) (T := TX9) (C := RX9) (owner := "TicketGate$Table") (As := [.int v6, .int 3]) (rest := []) (ws' := (wX9 ad c9 t_rows t_cells)) (c_X6_get l hG D c9 ad 120 8 RX9 rfl layc_X9 30 4 t_rows t_cells v6 3 ho5) 2 (gU wc_138 wc_139 wc_140 wc_34 wc_35 wc_36) rfl rfl rfl rfl pd_X6_get_UX9_knows_30 ⟨Nat.le_of_ble_eq_true rfl, Nat.le_of_ble_eq_true rfl⟩ 0 rfl rfl rfl rfl (Nat.le_of_ble_eq_true rfl) ⟨Nat.zero_le _, Nat.zero_le _⟩ [0, 1] [] [0, 1] rfl rfl rfl rfl dX9_knows_57 60 rfl ?_
              refine v_iload X dX9_knows_60 4 rfl 62 rfl ?_
              refine v_icmp_lt X (tgt := 69) dX9_knows_62 rfl 65 rfl hf (fun hf => ?_) (fun hf => ?_)
              · refine v_iconst X dX9_knows_69 ic_0 70 rfl ?_
                refine v_istore X (lv' := [(5, .int 0), (0, .ref (ad 0)), (1, .int v1), (2, .int v2), (3, .int v3), (4, .int v4), (6, .int v6)]) dX9_knows_70 (by decide) rfl 72 rfl ?_
                refine v_iinc X (lv' := [(6, .int (v6 + 1)), (5, .int 0), (0, .ref (ad 0)), (1, .int v1), (2, .int v2), (3, .int v3), (4, .int v4)]) dX9_knows_72 6 rfl ic_1 (by decide) rfl 75 rfl ?_
                refine v_goto X (tgt := 6) dX9_knows_75 rfl ?_
                refine v_sub (lv' := [(0, .ref (ad 0)), (1, .int v1), (2, .int v2), (3, .int v3), (4, .int v4), (5, .int 0), (6, .int (v6 + 1))]) [2, 3, 4, 5, 6, 1, 0] rfl ?_
                exact ih 0 (v6 + 1) hf
              · refine v_iconst X dX9_knows_65 ic_1 66 rfl ?_
                refine v_goto X (tgt := 70) dX9_knows_66 rfl ?_
                refine v_istore X (lv' := [(5, .int 1), (0, .ref (ad 0)), (1, .int v1), (2, .int v2), (3, .int v3), (4, .int v4), (6, .int v6)]) dX9_knows_70 (by decide) rfl 72 rfl ?_
                refine v_iinc X (lv' := [(6, .int (v6 + 1)), (5, .int 1), (0, .ref (ad 0)), (1, .int v1), (2, .int v2), (3, .int v3), (4, .int v4)]) dX9_knows_72 6 rfl ic_1 (by decide) rfl 75 rfl ?_
                refine v_goto X (tgt := 6) dX9_knows_75 rfl ?_
                refine v_sub (lv' := [(0, .ref (ad 0)), (1, .int v1), (2, .int v2), (3, .int v3), (4, .int v4), (5, .int 1), (6, .int (v6 + 1))]) [2, 3, 4, 5, 6, 1, 0] rfl ?_
                exact ih 1 (v6 + 1) hf
set_option maxRecDepth 100000 in
set_option maxHeartbeats 4000000 in
theorem c_X9_knows (l : Launch) {G : (Nat → Prop) → State → Heap → Prop} (hG : vG G) (D : va_G) (c9 : Nat → ClassId) (ad : Nat → Nat) (t_rows : Int32) (t_cells : Nat → Int32) (v1 : Int32) (v2 : Int32) (v3 : Int32) (v4 : Int32) {o : Int32} (hf : f_X9_knows t_rows t_cells v1 v2 v3 v4 = some o) : mI l yX9_knows (wq yX9_knows cX9_knows 7 (some .boolean)) { frames := 1, cells := 0, slots := 0, locals := 24 } G D (tyA c9) [.ref (ad 0), .int v1, .int v2, .int v3, .int v4] (wX9 ad c9 t_rows t_cells) [] 0 0 o (wX9 ad c9 t_rows t_cells) := by
  refine mI_of hG (cc := cX9_knows) (maxL := 7) (ty := .boolean) (by decide) rfl (Nat.le_of_ble_eq_true rfl) ?_
  intro p e s m args below meth c A X
  have X : vX p s m args meth c cX9_knows 7 (some .boolean) RX9 (wq yX9_knows cX9_knows 7 (some .boolean)) D (tyA c9) G A := X
  refine v_eq (lv2 := [(0, .ref (ad 0)), (1, .int v1), (2, .int v2), (3, .int v3), (4, .int v4)]) rfl rfl rfl rfl ?_
  rw [f_X9_knows] at hf
  refine v_iconst X dX9_knows_0 ic_0 1 rfl ?_
  refine v_istore X (lv' := [(5, .int 0), (0, .ref (ad 0)), (1, .int v1), (2, .int v2), (3, .int v3), (4, .int v4)]) dX9_knows_1 (by decide) rfl 3 rfl ?_
  refine v_iconst X dX9_knows_3 ic_0 4 rfl ?_
  refine v_istore X (lv' := [(6, .int 0), (5, .int 0), (0, .ref (ad 0)), (1, .int v1), (2, .int v2), (3, .int v3), (4, .int v4)]) dX9_knows_4 (by decide) rfl 6 rfl ?_
  obtain ⟨o6, ho6, hf⟩ := bnd hf
  refine v_sub (lv' := [(0, .ref (ad 0)), (1, .int v1), (2, .int v2), (3, .int v3), (4, .int v4), (5, .int 0), (6, .int 0)]) [2, 3, 4, 5, 6, 1, 0] rfl ?_
  refine l_X9_knows_L6 l hG D c9 ad t_rows t_cells v1 v2 v3 v4 X o6 ?_ 5000 0 0 ho6
  refine v_iload X dX9_knows_78 0 rfl 80 rfl ?_
  obtain ⟨z7, hz7, hf⟩ := bnd hf
  obtain rfl := Option.some.inj hf
  exact v_zretq hz7 X (Nat.zero_le _) (Nat.zero_le _) dX9_knows_80
theorem pd_X9_knows : yX9_knows.cls ≠ "java/lang/invoke/MethodHandle" ∧ yX9_knows.cls ≠ "java/lang/invoke/VarHandle" ∧ (parseMethodDescriptor yX9_knows.desc).map (fun d => d.parameters.length) = some 4 := by decide +kernel
theorem pd_X6_size_UX9_forgetBefore_27 : "TicketGate$Table" ≠ "java/lang/invoke/MethodHandle" ∧ "TicketGate$Table" ≠ "java/lang/invoke/VarHandle" ∧ (parseMethodDescriptor "()I").map (fun d => d.parameters.length) = some 0 := by decide +kernel
theorem pd_X6_get_UX9_forgetBefore_30 : "TicketGate$Table" ≠ "java/lang/invoke/MethodHandle" ∧ "TicketGate$Table" ≠ "java/lang/invoke/VarHandle" ∧ (parseMethodDescriptor "(II)I").map (fun d => d.parameters.length) = some 2 := by decide +kernel
theorem pd_X6_removeRow_UX9_forgetBefore_15 : "TicketGate$Table" ≠ "java/lang/invoke/MethodHandle" ∧ "TicketGate$Table" ≠ "java/lang/invoke/VarHandle" ∧ (parseMethodDescriptor "(I)V").map (fun d => d.parameters.length) = some 1 := by decide +kernel
def f_X9_forgetBefore_L7 (v1 : Int32) : Nat → Int32 → (Nat → Int32) → Int32 → Option (Int32 × (Nat → Int32))
  | 0, _, _, _ => none
  | n + 1, t_rows, t_cells, v2 =>
    if v2 < 0 then (
      some (t_rows, t_cells))
    else (
      (f_X6_get 120 4 t_rows t_cells v2 3).bind fun o2 =>
      if v1 ≤ o2 then (
        f_X9_forgetBefore_L7 v1 n t_rows t_cells (v2 + (-1)))
      else (
        (f_X6_removeRow 120 4 t_rows t_cells v2).bind fun o3 =>
        f_X9_forgetBefore_L7 v1 n o3.1 o3.2 (v2 + (-1))))
def f_X9_forgetBefore (t_rows : Int32) (t_cells : Nat → Int32) (v1 : Int32) : Option (Int32 × (Nat → Int32)) :=
  (f_X6_size 120 t_rows).bind fun o1 =>
  (f_X9_forgetBefore_L7 v1 5000 t_rows t_cells (o1 - 1)).bind fun o4 =>
  some (o4.1, o4.2)
set_option maxRecDepth 100000 in
set_option maxHeartbeats 4000000 in
theorem l_X9_forgetBefore_L7 (l : Launch) {G : (Nat → Prop) → State → Heap → Prop} (hG : vG G) (D : va_G) (c9 : Nat → ClassId) (ad : Nat → Nat) (v1 : Int32) {p : Program} {e : Env} {s : State} {m : MethodId} {args : Array Value} {below : List Frame} {meth : Method} {c : Code} {A : Nat → Prop} {F : va_W} (X : vX p s m args meth c cX9_forgetBefore 3 none RX9 (wq yX9_forgetBefore cX9_forgetBefore 3 none) D (tyA c9) G A) {Q : State → Prop} (o : Int32 × (Nat → Int32)) (K : vW p l e { frames := 1, cells := 0, slots := 0, locals := 24 } s m args below meth c 3 D A F 0 0 Q (wX9 ad c9 o.1 o.2) 32 [] []) :
    ∀ (n : Nat) (t_rows : Int32) (t_cells : Nat → Int32) (v2 : Int32), f_X9_forgetBefore_L7 v1 n t_rows t_cells v2 = some o → vW p l e { frames := 1, cells := 0, slots := 0, locals := 24 } s m args below meth c 3 D A F 0 0 Q (wX9 ad c9 t_rows t_cells) 7 [(0, .ref (ad 0)), (1, .int v1), (2, .int v2)] [] := by
  intro n
  induction n with
  | zero =>
    intro t_rows t_cells v2 hf
    rw [f_X9_forgetBefore_L7] at hf
    cases hf
  | succ n ih =>
    intro t_rows t_cells v2 hf
    rw [f_X9_forgetBefore_L7] at hf
    refine v_iload_n X dX9_forgetBefore_7 2 rfl rfl 8 rfl ?_
    refine v_if_lt X (tgt := 32) dX9_forgetBefore_8 rfl 11 rfl hf (fun hf => ?_) (fun hf => ?_)
    · obtain rfl := Option.some.inj hf
      refine v_sub (lv' := []) [] rfl ?_
      exact K
    · refine v_aload_n X dX9_forgetBefore_11 0 rfl rfl 12 rfl ?_
      refine v_iload_n X dX9_forgetBefore_12 2 rfl rfl 13 rfl ?_
      refine v_iconst X dX9_forgetBefore_13 ic_3 14 rfl ?_
      obtain ⟨o2, ho2, hf⟩ := bnd hf
      refine v_callUi X (ci := 8) (T := TX9) (C := RX9) (owner := "TicketGate$Table") (As := [.int v2, .int 3]) (rest := []) (ws' := (wX9 ad c9 t_rows t_cells)) (c_X6_get l hG D c9 ad 120 8 RX9 rfl layc_X9 30 4 t_rows t_cells v2 3 ho2) 2 (gU wc_138 wc_139 wc_140 wc_34 wc_35 wc_36) rfl rfl rfl rfl pd_X6_get_UX9_forgetBefore_30 ⟨Nat.le_of_ble_eq_true rfl, Nat.le_of_ble_eq_true rfl⟩ 0 rfl rfl rfl rfl (Nat.le_of_ble_eq_true rfl) ⟨Nat.zero_le _, Nat.zero_le _⟩ [0, 1] [] [0, 1] rfl rfl rfl rfl dX9_forgetBefore_14 17 rfl ?_
      refine v_iload_n X dX9_forgetBefore_17 1 rfl rfl 18 rfl ?_
      refine v_icmp_ge X (tgt := 26) dX9_forgetBefore_18 rfl 21 rfl hf (fun hf => ?_) (fun hf => ?_)
      · refine v_iinc X (lv' := [(2, .int (v2 + (-1))), (0, .ref (ad 0)), (1, .int v1)]) dX9_forgetBefore_26 2 rfl ic_m1 (by decide) rfl 29 rfl ?_
        refine v_goto X (tgt := 7) dX9_forgetBefore_29 rfl ?_
        refine v_sub (lv' := [(0, .ref (ad 0)), (1, .int v1), (2, .int (v2 + (-1)))]) [1, 2, 0] rfl ?_
        exact ih t_rows t_cells (v2 + (-1)) hf
      · refine v_aload_n X dX9_forgetBefore_21 0 rfl rfl 22 rfl ?_
        refine v_iload_n X dX9_forgetBefore_22 2 rfl rfl 23 rfl ?_
        obtain ⟨o3, ho3, hf⟩ := bnd hf
        refine v_callUv X (ci := 8) (T := TX9) (C := RX9) (owner := "TicketGate$Table") (As := [.int v2]) (rest := []) (ws' := (wX9 ad c9 o3.1 o3.2)) (c_X6_removeRow l hG D c9 ad 120 8 RX9 rfl layc_X9 30 4 t_rows t_cells v2 ho3) 1 (gU wc_126 wc_127 wc_128 wc_105 wc_35 wc_106) rfl rfl rfl rfl pd_X6_removeRow_UX9_forgetBefore_15 ⟨Nat.le_of_ble_eq_true rfl, Nat.le_of_ble_eq_true rfl⟩ 0 rfl rfl rfl rfl (Nat.le_of_ble_eq_true rfl) ⟨Nat.zero_le _, Nat.zero_le _⟩ [0, 1] [] [0, 1] rfl rfl rfl rfl dX9_forgetBefore_23 26 rfl ?_
        refine v_iinc X (lv' := [(2, .int (v2 + (-1))), (0, .ref (ad 0)), (1, .int v1)]) dX9_forgetBefore_26 2 rfl ic_m1 (by decide) rfl 29 rfl ?_
        refine v_goto X (tgt := 7) dX9_forgetBefore_29 rfl ?_
        refine v_sub (lv' := [(0, .ref (ad 0)), (1, .int v1), (2, .int (v2 + (-1)))]) [1, 2, 0] rfl ?_
        exact ih o3.1 o3.2 (v2 + (-1)) hf
set_option maxRecDepth 100000 in
set_option maxHeartbeats 4000000 in
theorem c_X9_forgetBefore (l : Launch) {G : (Nat → Prop) → State → Heap → Prop} (hG : vG G) (D : va_G) (c9 : Nat → ClassId) (ad : Nat → Nat) (t_rows : Int32) (t_cells : Nat → Int32) (v1 : Int32) {o : Int32 × (Nat → Int32)} (hf : f_X9_forgetBefore t_rows t_cells v1 = some o) : mV l yX9_forgetBefore (wq yX9_forgetBefore cX9_forgetBefore 3 none) { frames := 1, cells := 0, slots := 0, locals := 24 } G D (tyA c9) [.ref (ad 0), .int v1] (wX9 ad c9 t_rows t_cells) [] 0 0 (wX9 ad c9 o.1 o.2) := by
  refine mV_of hG (cc := cX9_forgetBefore) (maxL := 3) (by decide) rfl (Nat.le_of_ble_eq_true rfl) ?_
  intro p e s m args below meth c A hnm X
  have X : vX p s m args meth c cX9_forgetBefore 3 none RX9 (wq yX9_forgetBefore cX9_forgetBefore 3 none) D (tyA c9) G A := X
  refine v_eq (lv2 := [(0, .ref (ad 0)), (1, .int v1)]) rfl rfl rfl rfl ?_
  rw [f_X9_forgetBefore] at hf
  refine v_aload_n X dX9_forgetBefore_0 0 rfl rfl 1 rfl ?_
  obtain ⟨o1, ho1, hf⟩ := bnd hf
  refine v_callUi X (ci := 8) (T := TX9) (C := RX9) (owner := "TicketGate$Table") (As := []) (rest := []) (ws' := (wX9 ad c9 t_rows t_cells)) (c_X6_size l hG D c9 ad 120 8 RX9 rfl layc_X9 30 4 t_rows t_cells ho1) 0 (gU wc_135 wc_136 wc_137 wc_62 wc_35 wc_63) rfl rfl rfl rfl pd_X6_size_UX9_forgetBefore_27 ⟨Nat.le_of_ble_eq_true rfl, Nat.le_of_ble_eq_true rfl⟩ 0 rfl rfl rfl rfl (Nat.le_of_ble_eq_true rfl) ⟨Nat.zero_le _, Nat.zero_le _⟩ [0, 1] [] [0, 1] rfl rfl rfl rfl dX9_forgetBefore_1 4 rfl ?_
  refine v_iconst X dX9_forgetBefore_4 ic_1 5 rfl ?_
  refine v_isub X dX9_forgetBefore_5 6 rfl ?_
  refine v_istore_n X (lv' := [(2, .int (o1 - 1)), (0, .ref (ad 0)), (1, .int v1)]) dX9_forgetBefore_6 rfl (by decide) rfl 7 rfl ?_
  obtain ⟨o4, ho4, hf⟩ := bnd hf
  refine v_sub (lv' := [(0, .ref (ad 0)), (1, .int v1), (2, .int (o1 - 1))]) [1, 2, 0] rfl ?_
  refine l_X9_forgetBefore_L7 l hG D c9 ad v1 X o4 ?_ 5000 t_rows t_cells (o1 - 1) ho4
  obtain rfl := Option.some.inj hf
  exact v_vret X (Nat.zero_le _) (Nat.zero_le _) dX9_forgetBefore_32
theorem pd_X9_forgetBefore : yX9_forgetBefore.cls ≠ "java/lang/invoke/MethodHandle" ∧ yX9_forgetBefore.cls ≠ "java/lang/invoke/VarHandle" ∧ (parseMethodDescriptor yX9_forgetBefore.desc).map (fun d => d.parameters.length) = some 1 := by decide +kernel
theorem pd_X6_size_UX10_addDirect_9 : "TicketGate$Table" ≠ "java/lang/invoke/MethodHandle" ∧ "TicketGate$Table" ≠ "java/lang/invoke/VarHandle" ∧ (parseMethodDescriptor "()I").map (fun d => d.parameters.length) = some 0 := by decide +kernel
theorem pd_X6_addRow_UX10_addDirect_15 : "TicketGate$Table" ≠ "java/lang/invoke/MethodHandle" ∧ "TicketGate$Table" ≠ "java/lang/invoke/VarHandle" ∧ (parseMethodDescriptor "()I").map (fun d => d.parameters.length) = some 0 := by decide +kernel
theorem pd_X6_set_UX10_addDirect_24 : "TicketGate$Table" ≠ "java/lang/invoke/MethodHandle" ∧ "TicketGate$Table" ≠ "java/lang/invoke/VarHandle" ∧ (parseMethodDescriptor "(III)V").map (fun d => d.parameters.length) = some 3 := by decide +kernel
def f_X10_addDirect_L17 (t_rows : Int32) (r_t_rows : Int32) (r_t_cells : Nat → Int32) (v2 : Int32) : Nat → (Nat → Int32) → Int32 → Option ((Nat → Int32))
  | 0, _, _ => none
  | n + 1, t_cells, v3 =>
    (f_X6_size 25 r_t_rows).bind fun o3 =>
    if o3 ≤ v3 then (
      some (t_cells))
    else (
      (f_X2_hasTrust r_t_rows r_t_cells v2 v3).bind fun o4 =>
      Option.bind (if o4 = 0 then (
        some (1000))
      else (
        some (1)) : Option (Int32)) fun j5 =>
      if v2 = v3 then (
        (f_X6_set 25 5 t_rows t_cells v2 v3 0).bind fun o7 =>
        f_X10_addDirect_L17 t_rows r_t_rows r_t_cells v2 n o7 (v3 + 1))
      else (
        (f_X6_set 25 5 t_rows t_cells v2 v3 j5).bind fun o6 =>
        f_X10_addDirect_L17 t_rows r_t_rows r_t_cells v2 n o6 (v3 + 1)))
def f_X10_addDirect_L2 (r_t_rows : Int32) (r_t_cells : Nat → Int32) : Nat → Int32 → (Nat → Int32) → Int32 → Option (Int32 × (Nat → Int32))
  | 0, _, _, _ => none
  | n + 1, t_rows, t_cells, v2 =>
    (f_X6_size 25 r_t_rows).bind fun o1 =>
    if o1 ≤ v2 then (
      some (t_rows, t_cells))
    else (
      (f_X6_addRow 25 5 t_rows).bind fun o2 =>
      (f_X10_addDirect_L17 o2.2 r_t_rows r_t_cells v2 5000 t_cells 0).bind fun o8 =>
      f_X10_addDirect_L2 r_t_rows r_t_cells n o2.2 o8 (v2 + 1))
def f_X10_addDirect (t_rows : Int32) (t_cells : Nat → Int32) (r_t_rows : Int32) (r_t_cells : Nat → Int32) : Option (Int32 × (Nat → Int32)) :=
  (f_X10_addDirect_L2 r_t_rows r_t_cells 5000 t_rows t_cells 0).bind fun o9 =>
  some (o9.1, o9.2)
set_option maxRecDepth 100000 in
set_option maxHeartbeats 4000000 in
theorem l_X10_addDirect_L17 (l : Launch) {G : (Nat → Prop) → State → Heap → Prop} (hG : vG G) (D : va_G) (c9 : Nat → ClassId) (ad : Nat → Nat) (ad1 : Nat → Nat) (t_rows : Int32) (r_t_rows : Int32) (r_t_cells : Nat → Int32) (v2 : Int32) {p : Program} {e : Env} {s : State} {m : MethodId} {args : Array Value} {below : List Frame} {meth : Method} {c : Code} {A : Nat → Prop} {F : va_W} (X : vX p s m args meth c cX10_addDirect 5 none RX10 (wq yX10_addDirect cX10_addDirect 5 none) D (tyA c9) G A) {Q : State → Prop} (o : (Nat → Int32)) (K : vW p l e { frames := 2, cells := 0, slots := 0, locals := 46 } s m args below meth c 5 D A F 0 0 Q ((wX10 ad c9 t_rows o) ++ (wX2 ad1 c9 r_t_rows r_t_cells)) 66 [(0, .ref (ad 0)), (1, .ref (ad1 0)), (2, .int v2)] []) :
    ∀ (n : Nat) (t_cells : Nat → Int32) (v3 : Int32), f_X10_addDirect_L17 t_rows r_t_rows r_t_cells v2 n t_cells v3 = some o → vW p l e { frames := 2, cells := 0, slots := 0, locals := 46 } s m args below meth c 5 D A F 0 0 Q ((wX10 ad c9 t_rows t_cells) ++ (wX2 ad1 c9 r_t_rows r_t_cells)) 17 [(0, .ref (ad 0)), (1, .ref (ad1 0)), (2, .int v2), (3, .int v3)] [] := by
  intro n
  induction n with
  | zero =>
    intro t_cells v3 hf
    rw [f_X10_addDirect_L17] at hf
    cases hf
  | succ n ih =>
    intro t_cells v3 hf
    rw [f_X10_addDirect_L17] at hf
    refine v_iload_n X dX10_addDirect_17 3 rfl rfl 18 rfl ?_
    refine v_aload_n X dX10_addDirect_18 1 rfl rfl 19 rfl ?_
    obtain ⟨o3, ho3, hf⟩ := bnd hf
    refine v_callUi X (ci := 2) (T := TX2) (C := RX2) (owner := "TicketGate$Table") (As := []) (rest := [.int v3]) (ws' := ((wX10 ad c9 t_rows t_cells) ++ (wX2 ad1 c9 r_t_rows r_t_cells))) (c_X6_size l hG D c9 ad1 25 2 RX2 rfl layc_X2 5 5 r_t_rows r_t_cells ho3) 0 (gU wc_141 wc_60 wc_61 wc_62 wc_35 wc_63) rfl rfl rfl rfl pd_X6_size_UX10_addDirect_9 ⟨Nat.le_of_ble_eq_true rfl, Nat.le_of_ble_eq_true rfl⟩ 2 rfl rfl rfl rfl (Nat.le_of_ble_eq_true rfl) ⟨Nat.zero_le _, Nat.zero_le _⟩ [2, 3] [0, 1] [0, 1, 2, 3] rfl rfl rfl rfl dX10_addDirect_19 22 rfl ?_
    refine v_icmp_ge X (tgt := 66) dX10_addDirect_22 rfl 25 rfl hf (fun hf => ?_) (fun hf => ?_)
    · obtain rfl := Option.some.inj hf
      refine v_sub (lv' := [(0, .ref (ad 0)), (1, .ref (ad1 0)), (2, .int v2)]) [0, 1, 2] rfl ?_
      exact K
    · refine v_aload_n X dX10_addDirect_25 1 rfl rfl 26 rfl ?_
      refine v_iload_n X dX10_addDirect_26 2 rfl rfl 27 rfl ?_
      refine v_iload_n X dX10_addDirect_27 3 rfl rfl 28 rfl ?_
      obtain ⟨o4, ho4, hf⟩ := bnd hf
      refine v_callVi X (ci := 2) (T := TX2) (C := RX2) (As := [.int v2, .int v3]) (rest := []) (ws' := ((wX10 ad c9 t_rows t_cells) ++ (wX2 ad1 c9 r_t_rows r_t_cells))) (c_X2_hasTrust l hG D c9 ad1 r_t_rows r_t_cells v2 v3 ho4) 2 (gV wc_149 wc_74 wc_75 wc_67 wc_76) rfl rfl rfl ⟨rfl, pd_X2_hasTrust⟩ ⟨Nat.le_of_ble_eq_true rfl, Nat.le_of_ble_eq_true rfl⟩ 2 rfl rfl rfl rfl (Nat.le_of_ble_eq_true rfl) ⟨Nat.zero_le _, Nat.zero_le _⟩ [2, 3] [0, 1] [0, 1, 2, 3] rfl rfl rfl rfl dX10_addDirect_28 31 rfl ?_
      obtain ⟨j5, hj5, hf⟩ := bnd hf
      have Jj5 : vW p l e { frames := 2, cells := 0, slots := 0, locals := 46 } s m args below meth c 5 D A F 0 0 Q ((wX10 ad c9 t_rows t_cells) ++ (wX2 ad1 c9 r_t_rows r_t_cells)) 41 [(0, .ref (ad 0)), (1, .ref (ad1 0)), (2, .int v2), (3, .int v3)] [.int j5] := by
        refine v_istore X (lv' := [(4, .int j5), (0, .ref (ad 0)), (1, .ref (ad1 0)), (2, .int v2), (3, .int v3)]) dX10_addDirect_41 (by decide) rfl 43 rfl ?_
        refine v_aload_n X dX10_addDirect_43 1 rfl rfl 44 rfl ?_
        refine v_iload_n X dX10_addDirect_44 3 rfl rfl 45 rfl ?_
        refine v_iload_n X dX10_addDirect_45 4 rfl rfl 46 rfl ?_
        refine v_iload_n X dX10_addDirect_46 3 rfl rfl 47 rfl ?_
        refine v_iload_n X dX10_addDirect_47 4 rfl rfl 48 rfl ?_
        refine v_icmp_ne X (tgt := 55) dX10_addDirect_48 rfl 51 rfl hf (fun hf => ?_) (fun hf => ?_)
        · refine v_iload X dX10_addDirect_55 0 rfl 57 rfl ?_
          obtain ⟨o6, ho6, hf⟩ := bnd hf
          refine v_callUv X (ci := 9) (T := TX10) (C := RX10) (owner := "TicketGate$Table") (As := [.int v2, .int v3, .int j5]) (rest := []) (ws' := ((wX10 ad c9 t_rows o6) ++ (wX2 ad1 c9 r_t_rows r_t_cells))) (c_X6_set l hG D c9 ad 25 9 RX10 rfl layc_X10 5 5 t_rows t_cells v2 v3 j5 ho6) 3 (gU wc_150 wc_151 wc_152 wc_54 wc_35 wc_55) rfl rfl rfl rfl pd_X6_set_UX10_addDirect_24 ⟨Nat.le_of_ble_eq_true rfl, Nat.le_of_ble_eq_true rfl⟩ 0 rfl rfl rfl rfl (Nat.le_of_ble_eq_true rfl) ⟨Nat.zero_le _, Nat.zero_le _⟩ [0, 1] [2, 3] [2, 3, 0, 1] rfl rfl rfl rfl dX10_addDirect_57 60 rfl ?_
          refine v_iinc X (lv' := [(3, .int (v3 + 1)), (4, .int j5), (0, .ref (ad 0)), (1, .ref (ad1 0)), (2, .int v2)]) dX10_addDirect_60 4 rfl ic_1 (by decide) rfl 63 rfl ?_
          refine v_goto X (tgt := 17) dX10_addDirect_63 rfl ?_
          refine v_sub (lv' := [(0, .ref (ad 0)), (1, .ref (ad1 0)), (2, .int v2), (3, .int (v3 + 1))]) [2, 3, 4, 0] rfl ?_
          exact ih o6 (v3 + 1) hf
        · refine v_iconst X dX10_addDirect_51 ic_0 52 rfl ?_
          refine v_goto X (tgt := 57) dX10_addDirect_52 rfl ?_
          obtain ⟨o7, ho7, hf⟩ := bnd hf
          refine v_callUv X (ci := 9) (T := TX10) (C := RX10) (owner := "TicketGate$Table") (As := [.int v2, .int v3, .int 0]) (rest := []) (ws' := ((wX10 ad c9 t_rows o7) ++ (wX2 ad1 c9 r_t_rows r_t_cells))) (c_X6_set l hG D c9 ad 25 9 RX10 rfl layc_X10 5 5 t_rows t_cells v2 v3 0 ho7) 3 (gU wc_150 wc_151 wc_152 wc_54 wc_35 wc_55) rfl rfl rfl rfl pd_X6_set_UX10_addDirect_24 ⟨Nat.le_of_ble_eq_true rfl, Nat.le_of_ble_eq_true rfl⟩ 0 rfl rfl rfl rfl (Nat.le_of_ble_eq_true rfl) ⟨Nat.zero_le _, Nat.zero_le _⟩ [0, 1] [2, 3] [2, 3, 0, 1] rfl rfl rfl rfl dX10_addDirect_57 60 rfl ?_
          refine v_iinc X (lv' := [(3, .int (v3 + 1)), (4, .int j5), (0, .ref (ad 0)), (1, .ref (ad1 0)), (2, .int v2)]) dX10_addDirect_60 4 rfl ic_1 (by decide) rfl 63 rfl ?_
          refine v_goto X (tgt := 17) dX10_addDirect_63 rfl ?_
          refine v_sub (lv' := [(0, .ref (ad 0)), (1, .ref (ad1 0)), (2, .int v2), (3, .int (v3 + 1))]) [2, 3, 4, 0] rfl ?_
          exact ih o7 (v3 + 1) hf
      clear hf
      refine v_if_eq X (tgt := 38) dX10_addDirect_31 rfl 34 rfl hj5 (fun hf => ?_) (fun hf => ?_)
      · refine v_sipush X dX10_addDirect_38 sp_1000 41 rfl ?_
        obtain rfl := Option.some.inj hf
        exact Jj5
      · refine v_iconst X dX10_addDirect_34 ic_1 35 rfl ?_
        refine v_goto X (tgt := 41) dX10_addDirect_35 rfl ?_
        obtain rfl := Option.some.inj hf
        exact Jj5
set_option maxRecDepth 100000 in
set_option maxHeartbeats 4000000 in
theorem l_X10_addDirect_L2 (l : Launch) {G : (Nat → Prop) → State → Heap → Prop} (hG : vG G) (D : va_G) (c9 : Nat → ClassId) (ad : Nat → Nat) (ad1 : Nat → Nat) (r_t_rows : Int32) (r_t_cells : Nat → Int32) {p : Program} {e : Env} {s : State} {m : MethodId} {args : Array Value} {below : List Frame} {meth : Method} {c : Code} {A : Nat → Prop} {F : va_W} (X : vX p s m args meth c cX10_addDirect 5 none RX10 (wq yX10_addDirect cX10_addDirect 5 none) D (tyA c9) G A) {Q : State → Prop} (o : Int32 × (Nat → Int32)) (K : vW p l e { frames := 2, cells := 0, slots := 0, locals := 46 } s m args below meth c 5 D A F 0 0 Q ((wX10 ad c9 o.1 o.2) ++ (wX2 ad1 c9 r_t_rows r_t_cells)) 72 [] []) :
    ∀ (n : Nat) (t_rows : Int32) (t_cells : Nat → Int32) (v2 : Int32), f_X10_addDirect_L2 r_t_rows r_t_cells n t_rows t_cells v2 = some o → vW p l e { frames := 2, cells := 0, slots := 0, locals := 46 } s m args below meth c 5 D A F 0 0 Q ((wX10 ad c9 t_rows t_cells) ++ (wX2 ad1 c9 r_t_rows r_t_cells)) 2 [(0, .ref (ad 0)), (1, .ref (ad1 0)), (2, .int v2)] [] := by
  intro n
  induction n with
  | zero =>
    intro t_rows t_cells v2 hf
    rw [f_X10_addDirect_L2] at hf
    cases hf
  | succ n ih =>
    intro t_rows t_cells v2 hf
    rw [f_X10_addDirect_L2] at hf
    refine v_iload_n X dX10_addDirect_2 2 rfl rfl 3 rfl ?_
    refine v_aload_n X dX10_addDirect_3 1 rfl rfl 4 rfl ?_
    obtain ⟨o1, ho1, hf⟩ := bnd hf
    refine v_callUi X (ci := 2) (T := TX2) (C := RX2) (owner := "TicketGate$Table") (As := []) (rest := [.int v2]) (ws' := ((wX10 ad c9 t_rows t_cells) ++ (wX2 ad1 c9 r_t_rows r_t_cells))) (c_X6_size l hG D c9 ad1 25 2 RX2 rfl layc_X2 5 5 r_t_rows r_t_cells ho1) 0 (gU wc_141 wc_60 wc_61 wc_62 wc_35 wc_63) rfl rfl rfl rfl pd_X6_size_UX10_addDirect_9 ⟨Nat.le_of_ble_eq_true rfl, Nat.le_of_ble_eq_true rfl⟩ 2 rfl rfl rfl rfl (Nat.le_of_ble_eq_true rfl) ⟨Nat.zero_le _, Nat.zero_le _⟩ [2, 3] [0, 1] [0, 1, 2, 3] rfl rfl rfl rfl dX10_addDirect_4 7 rfl ?_
    refine v_icmp_ge X (tgt := 72) dX10_addDirect_7 rfl 10 rfl hf (fun hf => ?_) (fun hf => ?_)
    · obtain rfl := Option.some.inj hf
      refine v_sub (lv' := []) [] rfl ?_
      exact K
    · refine v_aload_n X dX10_addDirect_10 0 rfl rfl 11 rfl ?_
      obtain ⟨o2, ho2, hf⟩ := bnd hf
      refine v_callUi X (ci := 9) (T := TX10) (C := RX10) (owner := "TicketGate$Table") (As := []) (rest := []) (ws' := ((wX10 ad c9 o2.2 t_cells) ++ (wX2 ad1 c9 r_t_rows r_t_cells))) (c_X6_addRow l hG D c9 ad 25 9 RX10 rfl layc_X10 5 5 t_rows t_cells ho2) 0 (gU wc_146 wc_147 wc_148 wc_49 wc_35 wc_50) rfl rfl rfl rfl pd_X6_addRow_UX10_addDirect_15 ⟨Nat.le_of_ble_eq_true rfl, Nat.le_of_ble_eq_true rfl⟩ 0 rfl rfl rfl rfl (Nat.le_of_ble_eq_true rfl) ⟨Nat.zero_le _, Nat.zero_le _⟩ [0, 1] [2, 3] [2, 3, 0, 1] rfl rfl rfl rfl dX10_addDirect_11 14 rfl ?_
      refine v_pop X dX10_addDirect_14 rfl 15 rfl ?_
      refine v_iconst X dX10_addDirect_15 ic_0 16 rfl ?_
      refine v_istore_n X (lv' := [(3, .int 0), (0, .ref (ad 0)), (1, .ref (ad1 0)), (2, .int v2)]) dX10_addDirect_16 rfl (by decide) rfl 17 rfl ?_
      obtain ⟨o8, ho8, hf⟩ := bnd hf
      refine v_sub (lv' := [(0, .ref (ad 0)), (1, .ref (ad1 0)), (2, .int v2), (3, .int 0)]) [1, 2, 3, 0] rfl ?_
      refine l_X10_addDirect_L17 l hG D c9 ad ad1 o2.2 r_t_rows r_t_cells v2 X o8 ?_ 5000 t_cells 0 ho8
      refine v_iinc X (lv' := [(2, .int (v2 + 1)), (0, .ref (ad 0)), (1, .ref (ad1 0))]) dX10_addDirect_66 2 rfl ic_1 (by decide) rfl 69 rfl ?_
      refine v_goto X (tgt := 2) dX10_addDirect_69 rfl ?_
      refine v_sub (lv' := [(0, .ref (ad 0)), (1, .ref (ad1 0)), (2, .int (v2 + 1))]) [1, 2, 0] rfl ?_
      exact ih o2.2 o8 (v2 + 1) hf
set_option maxRecDepth 100000 in
set_option maxHeartbeats 4000000 in
theorem c_X10_addDirect (l : Launch) {G : (Nat → Prop) → State → Heap → Prop} (hG : vG G) (D : va_G) (c9 : Nat → ClassId) (ad : Nat → Nat) (ad1 : Nat → Nat) (t_rows : Int32) (t_cells : Nat → Int32) (r_t_rows : Int32) (r_t_cells : Nat → Int32)  {o : Int32 × (Nat → Int32)} (hf : f_X10_addDirect t_rows t_cells r_t_rows r_t_cells = some o) : mV l yX10_addDirect (wq yX10_addDirect cX10_addDirect 5 none) { frames := 2, cells := 0, slots := 0, locals := 46 } G D (tyA c9) [.ref (ad 0), .ref (ad1 0)] ((wX10 ad c9 t_rows t_cells) ++ (wX2 ad1 c9 r_t_rows r_t_cells)) [] 0 0 ((wX10 ad c9 o.1 o.2) ++ (wX2 ad1 c9 r_t_rows r_t_cells)) := by
  refine mV_of hG (cc := cX10_addDirect) (maxL := 5) (by decide) rfl (Nat.le_of_ble_eq_true rfl) ?_
  intro p e s m args below meth c A hnm X
  have X : vX p s m args meth c cX10_addDirect 5 none RX10 (wq yX10_addDirect cX10_addDirect 5 none) D (tyA c9) G A := X
  refine v_eq (lv2 := [(0, .ref (ad 0)), (1, .ref (ad1 0))]) rfl rfl rfl rfl ?_
  rw [f_X10_addDirect] at hf
  refine v_iconst X dX10_addDirect_0 ic_0 1 rfl ?_
  refine v_istore_n X (lv' := [(2, .int 0), (0, .ref (ad 0)), (1, .ref (ad1 0))]) dX10_addDirect_1 rfl (by decide) rfl 2 rfl ?_
  obtain ⟨o9, ho9, hf⟩ := bnd hf
  refine v_sub (lv' := [(0, .ref (ad 0)), (1, .ref (ad1 0)), (2, .int 0)]) [1, 2, 0] rfl ?_
  refine l_X10_addDirect_L2 l hG D c9 ad ad1 r_t_rows r_t_cells X o9 ?_ 5000 t_rows t_cells 0 ho9
  obtain rfl := Option.some.inj hf
  exact v_vret X (Nat.zero_le _) (Nat.zero_le _) dX10_addDirect_72
theorem pd_X10_addDirect : yX10_addDirect.cls ≠ "java/lang/invoke/MethodHandle" ∧ yX10_addDirect.cls ≠ "java/lang/invoke/VarHandle" ∧ (parseMethodDescriptor yX10_addDirect.desc).map (fun d => d.parameters.length) = some 1 := by decide +kernel
theorem pd_X6_size_UX10_goThrough_28 : "TicketGate$Table" ≠ "java/lang/invoke/MethodHandle" ∧ "TicketGate$Table" ≠ "java/lang/invoke/VarHandle" ∧ (parseMethodDescriptor "()I").map (fun d => d.parameters.length) = some 0 := by decide +kernel
theorem pd_X6_get_UX10_goThrough_29 : "TicketGate$Table" ≠ "java/lang/invoke/MethodHandle" ∧ "TicketGate$Table" ≠ "java/lang/invoke/VarHandle" ∧ (parseMethodDescriptor "(II)I").map (fun d => d.parameters.length) = some 2 := by decide +kernel
theorem pd_X6_set_UX10_goThrough_24 : "TicketGate$Table" ≠ "java/lang/invoke/MethodHandle" ∧ "TicketGate$Table" ≠ "java/lang/invoke/VarHandle" ∧ (parseMethodDescriptor "(III)V").map (fun d => d.parameters.length) = some 3 := by decide +kernel
def f_X10_goThrough_L12 (t_rows : Int32) (v1 : Int32) (v2 : Int32) : Nat → (Nat → Int32) → Int32 → Option ((Nat → Int32))
  | 0, _, _ => none
  | n + 1, t_cells, v3 =>
    (f_X6_size 25 t_rows).bind fun o2 =>
    if o2 ≤ v3 then (
      some (t_cells))
    else (
      (f_X6_get 25 5 t_rows t_cells v2 v1).bind fun o3 =>
      (f_X6_get 25 5 t_rows t_cells v1 v3).bind fun o4 =>
      (f_X6_get 25 5 t_rows t_cells v2 v3).bind fun o5 =>
      (f_X6_set 25 5 t_rows t_cells v2 v3 (imin (o3 + o4) o5)).bind fun o6 =>
      f_X10_goThrough_L12 t_rows v1 v2 n o6 (v3 + 1))
def f_X10_goThrough_L2 (t_rows : Int32) (v1 : Int32) : Nat → (Nat → Int32) → Int32 → Option ((Nat → Int32))
  | 0, _, _ => none
  | n + 1, t_cells, v2 =>
    (f_X6_size 25 t_rows).bind fun o1 =>
    if o1 ≤ v2 then (
      some (t_cells))
    else (
      (f_X10_goThrough_L12 t_rows v1 v2 5000 t_cells 0).bind fun o7 =>
      f_X10_goThrough_L2 t_rows v1 n o7 (v2 + 1))
def f_X10_goThrough (t_rows : Int32) (t_cells : Nat → Int32) (v1 : Int32) : Option ((Nat → Int32)) :=
  (f_X10_goThrough_L2 t_rows v1 5000 t_cells 0).bind fun o8 =>
  some (o8)
set_option maxRecDepth 100000 in
set_option maxHeartbeats 4000000 in
theorem l_X10_goThrough_L12 (l : Launch) {G : (Nat → Prop) → State → Heap → Prop} (hG : vG G) (D : va_G) (c9 : Nat → ClassId) (ad : Nat → Nat) (t_rows : Int32) (v1 : Int32) (v2 : Int32) {p : Program} {e : Env} {s : State} {m : MethodId} {args : Array Value} {below : List Frame} {meth : Method} {c : Code} {A : Nat → Prop} {F : va_W} (X : vX p s m args meth c cX10_goThrough 5 none RX10 (wq yX10_goThrough cX10_goThrough 5 none) D (tyA c9) G A) {Q : State → Prop} (o : (Nat → Int32)) (K : vW p l e { frames := 1, cells := 0, slots := 0, locals := 40 } s m args below meth c 5 D A F 0 0 Q (wX10 ad c9 t_rows o) 58 [(0, .ref (ad 0)), (1, .int v1), (2, .int v2)] []) :
    ∀ (n : Nat) (t_cells : Nat → Int32) (v3 : Int32), f_X10_goThrough_L12 t_rows v1 v2 n t_cells v3 = some o → vW p l e { frames := 1, cells := 0, slots := 0, locals := 40 } s m args below meth c 5 D A F 0 0 Q (wX10 ad c9 t_rows t_cells) 12 [(0, .ref (ad 0)), (1, .int v1), (2, .int v2), (3, .int v3)] [] := by
  intro n
  induction n with
  | zero =>
    intro t_cells v3 hf
    rw [f_X10_goThrough_L12] at hf
    cases hf
  | succ n ih =>
    intro t_cells v3 hf
    rw [f_X10_goThrough_L12] at hf
    refine v_iload_n X dX10_goThrough_12 3 rfl rfl 13 rfl ?_
    refine v_aload_n X dX10_goThrough_13 0 rfl rfl 14 rfl ?_
    obtain ⟨o2, ho2, hf⟩ := bnd hf
    refine v_callUi X (ci := 9) (T := TX10) (C := RX10) (owner := "TicketGate$Table") (As := []) (rest := [.int v3]) (ws' := (wX10 ad c9 t_rows t_cells)) (c_X6_size l hG D c9 ad 25 9 RX10 rfl layc_X10 5 5 t_rows t_cells ho2) 0 (gU wc_153 wc_154 wc_155 wc_62 wc_35 wc_63) rfl rfl rfl rfl pd_X6_size_UX10_goThrough_28 ⟨Nat.le_of_ble_eq_true rfl, Nat.le_of_ble_eq_true rfl⟩ 0 rfl rfl rfl rfl (Nat.le_of_ble_eq_true rfl) ⟨Nat.zero_le _, Nat.zero_le _⟩ [0, 1] [] [0, 1] rfl rfl rfl rfl dX10_goThrough_14 17 rfl ?_
    refine v_icmp_ge X (tgt := 58) dX10_goThrough_17 rfl 20 rfl hf (fun hf => ?_) (fun hf => ?_)
    · obtain rfl := Option.some.inj hf
      refine v_sub (lv' := [(0, .ref (ad 0)), (1, .int v1), (2, .int v2)]) [0, 1, 2] rfl ?_
      exact K
    · refine v_aload_n X dX10_goThrough_20 0 rfl rfl 21 rfl ?_
      refine v_iload_n X dX10_goThrough_21 2 rfl rfl 22 rfl ?_
      refine v_iload_n X dX10_goThrough_22 1 rfl rfl 23 rfl ?_
      obtain ⟨o3, ho3, hf⟩ := bnd hf
      refine v_callUi X (ci := 9) (T := TX10) (C := RX10) (owner := "TicketGate$Table") (As := [.int v2, .int v1]) (rest := []) (ws' := (wX10 ad c9 t_rows t_cells)) (c_X6_get l hG D c9 ad 25 9 RX10 rfl layc_X10 5 5 t_rows t_cells v2 v1 ho3) 2 (gU wc_156 wc_157 wc_158 wc_34 wc_35 wc_36) rfl rfl rfl rfl pd_X6_get_UX10_goThrough_29 ⟨Nat.le_of_ble_eq_true rfl, Nat.le_of_ble_eq_true rfl⟩ 0 rfl rfl rfl rfl (Nat.le_of_ble_eq_true rfl) ⟨Nat.zero_le _, Nat.zero_le _⟩ [0, 1] [] [0, 1] rfl rfl rfl rfl dX10_goThrough_23 26 rfl ?_
      refine v_aload_n X dX10_goThrough_26 0 rfl rfl 27 rfl ?_
      refine v_iload_n X dX10_goThrough_27 1 rfl rfl 28 rfl ?_
      refine v_iload_n X dX10_goThrough_28 3 rfl rfl 29 rfl ?_
      obtain ⟨o4, ho4, hf⟩ := bnd hf
      refine v_callUi X (ci := 9) (T := TX10) (C := RX10) (owner := "TicketGate$Table") (As := [.int v1, .int v3]) (rest := [.int o3]) (ws' := (wX10 ad c9 t_rows t_cells)) (c_X6_get l hG D c9 ad 25 9 RX10 rfl layc_X10 5 5 t_rows t_cells v1 v3 ho4) 2 (gU wc_156 wc_157 wc_158 wc_34 wc_35 wc_36) rfl rfl rfl rfl pd_X6_get_UX10_goThrough_29 ⟨Nat.le_of_ble_eq_true rfl, Nat.le_of_ble_eq_true rfl⟩ 0 rfl rfl rfl rfl (Nat.le_of_ble_eq_true rfl) ⟨Nat.zero_le _, Nat.zero_le _⟩ [0, 1] [] [0, 1] rfl rfl rfl rfl dX10_goThrough_29 32 rfl ?_
      refine v_iadd X dX10_goThrough_32 33 rfl ?_
      refine v_istore X (lv' := [(4, .int (o3 + o4)), (0, .ref (ad 0)), (1, .int v1), (2, .int v2), (3, .int v3)]) dX10_goThrough_33 (by decide) rfl 35 rfl ?_
      refine v_aload_n X dX10_goThrough_35 1 rfl rfl 36 rfl ?_
      refine v_iload_n X dX10_goThrough_36 3 rfl rfl 37 rfl ?_
      refine v_iload_n X dX10_goThrough_37 4 rfl rfl 38 rfl ?_
      refine v_iload X dX10_goThrough_38 0 rfl 40 rfl ?_
      refine v_aload_n X dX10_goThrough_40 1 rfl rfl 41 rfl ?_
      refine v_iload_n X dX10_goThrough_41 3 rfl rfl 42 rfl ?_
      refine v_iload_n X dX10_goThrough_42 4 rfl rfl 43 rfl ?_
      obtain ⟨o5, ho5, hf⟩ := bnd hf
      refine v_callUi X (ci := 9) (T := TX10) (C := RX10) (owner := "TicketGate$Table") (As := [.int v2, .int v3]) (rest := [.int (o3 + o4), .int v3, .int v2, .ref (ad 0)]) (ws' := (wX10 ad c9 t_rows t_cells)) (c_X6_get l hG D c9 ad 25 9 RX10 rfl layc_X10 5 5 t_rows t_cells v2 v3 ho5) 2 (gU wc_156 wc_157 wc_158 wc_34 wc_35 wc_36) rfl rfl rfl rfl pd_X6_get_UX10_goThrough_29 ⟨Nat.le_of_ble_eq_true rfl, Nat.le_of_ble_eq_true rfl⟩ 0 rfl rfl rfl rfl (Nat.le_of_ble_eq_true rfl) ⟨Nat.zero_le _, Nat.zero_le _⟩ [0, 1] [] [0, 1] rfl rfl rfl rfl dX10_goThrough_43 46 rfl ?_
      refine v_mmin X dX10_goThrough_46 (mw wc_159) (mw wc_25) (mw wc_26) (mw wc_27) (Nat.le_of_ble_eq_true rfl) (Nat.le_of_ble_eq_true rfl) (Nat.zero_le _) (Nat.zero_le _) 49 rfl ?_
      obtain ⟨o6, ho6, hf⟩ := bnd hf
      refine v_callUv X (ci := 9) (T := TX10) (C := RX10) (owner := "TicketGate$Table") (As := [.int v2, .int v3, .int (imin (o3 + o4) o5)]) (rest := []) (ws' := (wX10 ad c9 t_rows o6)) (c_X6_set l hG D c9 ad 25 9 RX10 rfl layc_X10 5 5 t_rows t_cells v2 v3 (imin (o3 + o4) o5) ho6) 3 (gU wc_150 wc_151 wc_152 wc_54 wc_35 wc_55) rfl rfl rfl rfl pd_X6_set_UX10_goThrough_24 ⟨Nat.le_of_ble_eq_true rfl, Nat.le_of_ble_eq_true rfl⟩ 0 rfl rfl rfl rfl (Nat.le_of_ble_eq_true rfl) ⟨Nat.zero_le _, Nat.zero_le _⟩ [0, 1] [] [0, 1] rfl rfl rfl rfl dX10_goThrough_49 52 rfl ?_
      refine v_iinc X (lv' := [(3, .int (v3 + 1)), (4, .int (o3 + o4)), (0, .ref (ad 0)), (1, .int v1), (2, .int v2)]) dX10_goThrough_52 4 rfl ic_1 (by decide) rfl 55 rfl ?_
      refine v_goto X (tgt := 12) dX10_goThrough_55 rfl ?_
      refine v_sub (lv' := [(0, .ref (ad 0)), (1, .int v1), (2, .int v2), (3, .int (v3 + 1))]) [2, 3, 4, 0] rfl ?_
      exact ih o6 (v3 + 1) hf
set_option maxRecDepth 100000 in
set_option maxHeartbeats 4000000 in
theorem l_X10_goThrough_L2 (l : Launch) {G : (Nat → Prop) → State → Heap → Prop} (hG : vG G) (D : va_G) (c9 : Nat → ClassId) (ad : Nat → Nat) (t_rows : Int32) (v1 : Int32) {p : Program} {e : Env} {s : State} {m : MethodId} {args : Array Value} {below : List Frame} {meth : Method} {c : Code} {A : Nat → Prop} {F : va_W} (X : vX p s m args meth c cX10_goThrough 5 none RX10 (wq yX10_goThrough cX10_goThrough 5 none) D (tyA c9) G A) {Q : State → Prop} (o : (Nat → Int32)) (K : vW p l e { frames := 1, cells := 0, slots := 0, locals := 40 } s m args below meth c 5 D A F 0 0 Q (wX10 ad c9 t_rows o) 64 [] []) :
    ∀ (n : Nat) (t_cells : Nat → Int32) (v2 : Int32), f_X10_goThrough_L2 t_rows v1 n t_cells v2 = some o → vW p l e { frames := 1, cells := 0, slots := 0, locals := 40 } s m args below meth c 5 D A F 0 0 Q (wX10 ad c9 t_rows t_cells) 2 [(0, .ref (ad 0)), (1, .int v1), (2, .int v2)] [] := by
  intro n
  induction n with
  | zero =>
    intro t_cells v2 hf
    rw [f_X10_goThrough_L2] at hf
    cases hf
  | succ n ih =>
    intro t_cells v2 hf
    rw [f_X10_goThrough_L2] at hf
    refine v_iload_n X dX10_goThrough_2 2 rfl rfl 3 rfl ?_
    refine v_aload_n X dX10_goThrough_3 0 rfl rfl 4 rfl ?_
    obtain ⟨o1, ho1, hf⟩ := bnd hf
    refine v_callUi X (ci := 9) (T := TX10) (C := RX10) (owner := "TicketGate$Table") (As := []) (rest := [.int v2]) (ws' := (wX10 ad c9 t_rows t_cells)) (c_X6_size l hG D c9 ad 25 9 RX10 rfl layc_X10 5 5 t_rows t_cells ho1) 0 (gU wc_153 wc_154 wc_155 wc_62 wc_35 wc_63) rfl rfl rfl rfl pd_X6_size_UX10_goThrough_28 ⟨Nat.le_of_ble_eq_true rfl, Nat.le_of_ble_eq_true rfl⟩ 0 rfl rfl rfl rfl (Nat.le_of_ble_eq_true rfl) ⟨Nat.zero_le _, Nat.zero_le _⟩ [0, 1] [] [0, 1] rfl rfl rfl rfl dX10_goThrough_4 7 rfl ?_
    refine v_icmp_ge X (tgt := 64) dX10_goThrough_7 rfl 10 rfl hf (fun hf => ?_) (fun hf => ?_)
    · obtain rfl := Option.some.inj hf
      refine v_sub (lv' := []) [] rfl ?_
      exact K
    · refine v_iconst X dX10_goThrough_10 ic_0 11 rfl ?_
      refine v_istore_n X (lv' := [(3, .int 0), (0, .ref (ad 0)), (1, .int v1), (2, .int v2)]) dX10_goThrough_11 rfl (by decide) rfl 12 rfl ?_
      obtain ⟨o7, ho7, hf⟩ := bnd hf
      refine v_sub (lv' := [(0, .ref (ad 0)), (1, .int v1), (2, .int v2), (3, .int 0)]) [1, 2, 3, 0] rfl ?_
      refine l_X10_goThrough_L12 l hG D c9 ad t_rows v1 v2 X o7 ?_ 5000 t_cells 0 ho7
      refine v_iinc X (lv' := [(2, .int (v2 + 1)), (0, .ref (ad 0)), (1, .int v1)]) dX10_goThrough_58 2 rfl ic_1 (by decide) rfl 61 rfl ?_
      refine v_goto X (tgt := 2) dX10_goThrough_61 rfl ?_
      refine v_sub (lv' := [(0, .ref (ad 0)), (1, .int v1), (2, .int (v2 + 1))]) [1, 2, 0] rfl ?_
      exact ih o7 (v2 + 1) hf
set_option maxRecDepth 100000 in
set_option maxHeartbeats 4000000 in
theorem c_X10_goThrough (l : Launch) {G : (Nat → Prop) → State → Heap → Prop} (hG : vG G) (D : va_G) (c9 : Nat → ClassId) (ad : Nat → Nat) (t_rows : Int32) (t_cells : Nat → Int32) (v1 : Int32) {o : (Nat → Int32)} (hf : f_X10_goThrough t_rows t_cells v1 = some o) : mV l yX10_goThrough (wq yX10_goThrough cX10_goThrough 5 none) { frames := 1, cells := 0, slots := 0, locals := 40 } G D (tyA c9) [.ref (ad 0), .int v1] (wX10 ad c9 t_rows t_cells) [] 0 0 (wX10 ad c9 t_rows o) := by
  refine mV_of hG (cc := cX10_goThrough) (maxL := 5) (by decide) rfl (Nat.le_of_ble_eq_true rfl) ?_
  intro p e s m args below meth c A hnm X
  have X : vX p s m args meth c cX10_goThrough 5 none RX10 (wq yX10_goThrough cX10_goThrough 5 none) D (tyA c9) G A := X
  refine v_eq (lv2 := [(0, .ref (ad 0)), (1, .int v1)]) rfl rfl rfl rfl ?_
  rw [f_X10_goThrough] at hf
  refine v_iconst X dX10_goThrough_0 ic_0 1 rfl ?_
  refine v_istore_n X (lv' := [(2, .int 0), (0, .ref (ad 0)), (1, .int v1)]) dX10_goThrough_1 rfl (by decide) rfl 2 rfl ?_
  obtain ⟨o8, ho8, hf⟩ := bnd hf
  refine v_sub (lv' := [(0, .ref (ad 0)), (1, .int v1), (2, .int 0)]) [1, 2, 0] rfl ?_
  refine l_X10_goThrough_L2 l hG D c9 ad t_rows v1 X o8 ?_ 5000 t_cells 0 ho8
  obtain rfl := Option.some.inj hf
  exact v_vret X (Nat.zero_le _) (Nat.zero_le _) dX10_goThrough_64
theorem pd_X10_goThrough : yX10_goThrough.cls ≠ "java/lang/invoke/MethodHandle" ∧ yX10_goThrough.cls ≠ "java/lang/invoke/VarHandle" ∧ (parseMethodDescriptor yX10_goThrough.desc).map (fun d => d.parameters.length) = some 1 := by decide +kernel
theorem pd_X6_get_UX10_lengthOf_29 : "TicketGate$Table" ≠ "java/lang/invoke/MethodHandle" ∧ "TicketGate$Table" ≠ "java/lang/invoke/VarHandle" ∧ (parseMethodDescriptor "(II)I").map (fun d => d.parameters.length) = some 2 := by decide +kernel
def f_X10_lengthOf (t_rows : Int32) (t_cells : Nat → Int32) (v1 : Int32) (v2 : Int32) : Option (Int32) :=
  (f_X6_get 25 5 t_rows t_cells v1 v2).bind fun o1 =>
  if o1 < 1000 then (
    some (o1))
  else (
    some ((-1)))
set_option maxRecDepth 100000 in
set_option maxHeartbeats 4000000 in
theorem c_X10_lengthOf (l : Launch) {G : (Nat → Prop) → State → Heap → Prop} (hG : vG G) (D : va_G) (c9 : Nat → ClassId) (ad : Nat → Nat) (t_rows : Int32) (t_cells : Nat → Int32) (v1 : Int32) (v2 : Int32) {o : Int32} (hf : f_X10_lengthOf t_rows t_cells v1 v2 = some o) : mI l yX10_lengthOf (wq yX10_lengthOf cX10_lengthOf 4 (some .int)) { frames := 1, cells := 0, slots := 0, locals := 24 } G D (tyA c9) [.ref (ad 0), .int v1, .int v2] (wX10 ad c9 t_rows t_cells) [] 0 0 o (wX10 ad c9 t_rows t_cells) := by
  refine mI_of hG (cc := cX10_lengthOf) (maxL := 4) (ty := .int) (by decide) rfl (Nat.le_of_ble_eq_true rfl) ?_
  intro p e s m args below meth c A X
  have X : vX p s m args meth c cX10_lengthOf 4 (some .int) RX10 (wq yX10_lengthOf cX10_lengthOf 4 (some .int)) D (tyA c9) G A := X
  refine v_eq (lv2 := [(0, .ref (ad 0)), (1, .int v1), (2, .int v2)]) rfl rfl rfl rfl ?_
  rw [f_X10_lengthOf] at hf
  refine v_aload_n X dX10_lengthOf_0 0 rfl rfl 1 rfl ?_
  refine v_iload_n X dX10_lengthOf_1 1 rfl rfl 2 rfl ?_
  refine v_iload_n X dX10_lengthOf_2 2 rfl rfl 3 rfl ?_
  obtain ⟨o1, ho1, hf⟩ := bnd hf
  refine v_callUi X (ci := 9) (T := TX10) (C := RX10) (owner := "TicketGate$Table") (As := [.int v1, .int v2]) (rest := []) (ws' := (wX10 ad c9 t_rows t_cells)) (c_X6_get l hG D c9 ad 25 9 RX10 rfl layc_X10 5 5 t_rows t_cells v1 v2 ho1) 2 (gU wc_156 wc_157 wc_158 wc_34 wc_35 wc_36) rfl rfl rfl rfl pd_X6_get_UX10_lengthOf_29 ⟨Nat.le_of_ble_eq_true rfl, Nat.le_of_ble_eq_true rfl⟩ 0 rfl rfl rfl rfl (Nat.le_of_ble_eq_true rfl) ⟨Nat.zero_le _, Nat.zero_le _⟩ [0, 1] [] [0, 1] rfl rfl rfl rfl dX10_lengthOf_3 6 rfl ?_
  refine v_istore_n X (lv' := [(3, .int o1), (0, .ref (ad 0)), (1, .int v1), (2, .int v2)]) dX10_lengthOf_6 rfl (by decide) rfl 7 rfl ?_
  refine v_iload_n X dX10_lengthOf_7 0 rfl rfl 8 rfl ?_
  refine v_sipush X dX10_lengthOf_8 sp_1000 11 rfl ?_
  refine v_icmp_lt X (tgt := 18) dX10_lengthOf_11 rfl 14 rfl hf (fun hf => ?_) (fun hf => ?_)
  · refine v_iload_n X dX10_lengthOf_18 0 rfl rfl 19 rfl ?_
    obtain rfl := Option.some.inj hf
    exact v_iret X (Nat.zero_le _) (Nat.zero_le _) dX10_lengthOf_19
  · refine v_iconst X dX10_lengthOf_14 ic_m1 15 rfl ?_
    refine v_goto X (tgt := 19) dX10_lengthOf_15 rfl ?_
    obtain rfl := Option.some.inj hf
    exact v_iret X (Nat.zero_le _) (Nat.zero_le _) dX10_lengthOf_19
theorem pd_X10_lengthOf : yX10_lengthOf.cls ≠ "java/lang/invoke/MethodHandle" ∧ yX10_lengthOf.cls ≠ "java/lang/invoke/VarHandle" ∧ (parseMethodDescriptor yX10_lengthOf.desc).map (fun d => d.parameters.length) = some 2 := by decide +kernel
theorem pd_X6_removeAll_UX5_begin_46 : "TicketGate$Table" ≠ "java/lang/invoke/MethodHandle" ∧ "TicketGate$Table" ≠ "java/lang/invoke/VarHandle" ∧ (parseMethodDescriptor "()V").map (fun d => d.parameters.length) = some 0 := by decide +kernel
theorem pd_X6_removeAll_UX5_begin_49 : "TicketGate$Table" ≠ "java/lang/invoke/MethodHandle" ∧ "TicketGate$Table" ≠ "java/lang/invoke/VarHandle" ∧ (parseMethodDescriptor "()V").map (fun d => d.parameters.length) = some 0 := by decide +kernel
theorem pd_X6_removeAll_UX5_begin_50 : "TicketGate$Table" ≠ "java/lang/invoke/MethodHandle" ∧ "TicketGate$Table" ≠ "java/lang/invoke/VarHandle" ∧ (parseMethodDescriptor "()V").map (fun d => d.parameters.length) = some 0 := by decide +kernel
theorem pd_X6_removeAll_UX5_begin_51 : "TicketGate$Table" ≠ "java/lang/invoke/MethodHandle" ∧ "TicketGate$Table" ≠ "java/lang/invoke/VarHandle" ∧ (parseMethodDescriptor "()V").map (fun d => d.parameters.length) = some 0 := by decide +kernel
theorem pd_X6_removeAll_UX5_begin_52 : "TicketGate$Table" ≠ "java/lang/invoke/MethodHandle" ∧ "TicketGate$Table" ≠ "java/lang/invoke/VarHandle" ∧ (parseMethodDescriptor "()V").map (fun d => d.parameters.length) = some 0 := by decide +kernel
def f_X5_begin (s_time : Int32) (s_tolerance : Int32) (s_seed : Int32) (s_madeTickets : Int32) (s_cheesesOfText : Int32) (s_R_rows : Int32) (s_U_rows : Int32) (s_S_rows : Int32) (s_T_rows : Int32) (s_E_rows : Int32) (v1 : Int32) (v2 : Int32) : Option (Int32 × Int32 × Int32 × Int32 × Int32 × Int32 × Int32 × Int32 × Int32 × Int32) :=
  (f_X6_removeAll 25 s_R_rows).bind fun o1 =>
  (f_X6_removeAll 30 s_U_rows).bind fun o2 =>
  (f_X6_removeAll 18 s_S_rows).bind fun o3 =>
  (f_X6_removeAll 240 s_T_rows).bind fun o4 =>
  (f_X6_removeAll 120 s_E_rows).bind fun o5 =>
  some (0, v1, v2, 0, 0, o1, o2, o3, o4, o5)
set_option maxRecDepth 100000 in
set_option maxHeartbeats 4000000 in
theorem c_X5_begin (l : Launch) {G : (Nat → Prop) → State → Heap → Prop} (hG : vG G) (D : va_G) (c9 : Nat → ClassId) (ad : Nat → Nat) (s_time : Int32) (s_tolerance : Int32) (s_seed : Int32) (s_madeTickets : Int32) (s_cheesesOfText : Int32) (s_R_rows : Int32) (s_R_cells : Nat → Int32) (s_U_rows : Int32) (s_U_cells : Nat → Int32) (s_S_rows : Int32) (s_S_cells : Nat → Int32) (s_T_rows : Int32) (s_T_cells : Nat → Int32) (s_E_rows : Int32) (s_E_cells : Nat → Int32) (v1 : Int32) (v2 : Int32) {o : Int32 × Int32 × Int32 × Int32 × Int32 × Int32 × Int32 × Int32 × Int32 × Int32} (hf : f_X5_begin s_time s_tolerance s_seed s_madeTickets s_cheesesOfText s_R_rows s_U_rows s_S_rows s_T_rows s_E_rows v1 v2 = some o) : mV l yX5_begin (wq yX5_begin cX5_begin 3 none) { frames := 1, cells := 0, slots := 0, locals := 20 } G D (tyA c9) [.ref (ad 0), .int v1, .int v2] (wX5 ad c9 s_time s_tolerance s_seed s_madeTickets s_cheesesOfText s_R_rows s_R_cells s_U_rows s_U_cells s_S_rows s_S_cells s_T_rows s_T_cells s_E_rows s_E_cells) [] 0 0 (wX5 ad c9 o.1 o.2.1 o.2.2.1 o.2.2.2.1 o.2.2.2.2.1 o.2.2.2.2.2.1 s_R_cells o.2.2.2.2.2.2.1 s_U_cells o.2.2.2.2.2.2.2.1 s_S_cells o.2.2.2.2.2.2.2.2.1 s_T_cells o.2.2.2.2.2.2.2.2.2 s_E_cells) := by
  refine mV_of hG (cc := cX5_begin) (maxL := 3) (by decide) rfl (Nat.le_of_ble_eq_true rfl) ?_
  intro p e s m args below meth c A hnm X
  have X : vX p s m args meth c cX5_begin 3 none RX5 (wq yX5_begin cX5_begin 3 none) D (tyA c9) G A := X
  refine v_eq (lv2 := [(0, .ref (ad 0)), (1, .int v1), (2, .int v2)]) rfl rfl rfl rfl ?_
  rw [f_X5_begin] at hf
  refine v_aload_n X dX5_begin_0 0 rfl rfl 1 rfl ?_
  refine v_get X (C := RX5) (T := TX5) (N := 10) (ci := 5) (v := _) dX5_begin_1 (lay_of layc_X5) 0 rfl rfl 0 (by decide) (mw wc_170) rfl rfl 4 rfl ?_
  obtain ⟨o1, ho1, hf⟩ := bnd hf
  refine v_callUv X (ci := 2) (T := TX2) (C := RX2) (owner := "TicketGate$Table") (As := []) (rest := []) (ws' := (wX5 ad c9 s_time s_tolerance s_seed s_madeTickets s_cheesesOfText o1 s_R_cells s_U_rows s_U_cells s_S_rows s_S_cells s_T_rows s_T_cells s_E_rows s_E_cells)) (c_X6_removeAll l hG D c9 (fun k => ad ([1, 2].getD k 0)) 25 2 RX2 rfl layc_X2 5 5 s_R_rows s_R_cells ho1) 0 (gU wc_171 wc_172 wc_173 wc_174 wc_35 wc_175) rfl rfl rfl rfl pd_X6_removeAll_UX5_begin_46 ⟨Nat.le_of_ble_eq_true rfl, Nat.le_of_ble_eq_true rfl⟩ 1 rfl rfl rfl rfl (Nat.le_of_ble_eq_true rfl) ⟨Nat.zero_le _, Nat.zero_le _⟩ [1, 2] [0, 3, 4, 5, 6, 7, 8, 9, 10] [0, 9, 10, 1, 2, 3, 4, 5, 6, 7, 8] rfl rfl rfl rfl dX5_begin_4 7 rfl ?_
  refine v_aload_n X dX5_begin_7 0 rfl rfl 8 rfl ?_
  refine v_get X (C := RX5) (T := TX5) (N := 10) (ci := 5) (v := _) dX5_begin_8 (lay_of layc_X5) 0 rfl rfl 1 (by decide) (mw wc_176) rfl rfl 11 rfl ?_
  obtain ⟨o2, ho2, hf⟩ := bnd hf
  refine v_callUv X (ci := 7) (T := TX8) (C := RX8) (owner := "TicketGate$Table") (As := []) (rest := []) (ws' := (wX5 ad c9 s_time s_tolerance s_seed s_madeTickets s_cheesesOfText o1 s_R_cells o2 s_U_cells s_S_rows s_S_cells s_T_rows s_T_cells s_E_rows s_E_cells)) (c_X6_removeAll l hG D c9 (fun k => ad ([3, 4].getD k 0)) 30 7 RX8 rfl layc_X8 6 5 s_U_rows s_U_cells ho2) 0 (gU wc_177 wc_178 wc_179 wc_174 wc_35 wc_175) rfl rfl rfl rfl pd_X6_removeAll_UX5_begin_49 ⟨Nat.le_of_ble_eq_true rfl, Nat.le_of_ble_eq_true rfl⟩ 3 rfl rfl rfl rfl (Nat.le_of_ble_eq_true rfl) ⟨Nat.zero_le _, Nat.zero_le _⟩ [3, 4] [0, 1, 2, 5, 6, 7, 8, 9, 10] [0, 1, 2, 9, 10, 3, 4, 5, 6, 7, 8] rfl rfl rfl rfl dX5_begin_11 14 rfl ?_
  refine v_aload_n X dX5_begin_14 0 rfl rfl 15 rfl ?_
  refine v_get X (C := RX5) (T := TX5) (N := 10) (ci := 5) (v := _) dX5_begin_15 (lay_of layc_X5) 0 rfl rfl 2 (by decide) (mw wc_180) rfl rfl 18 rfl ?_
  obtain ⟨o3, ho3, hf⟩ := bnd hf
  refine v_callUv X (ci := 3) (T := TX3) (C := RX3) (owner := "TicketGate$Table") (As := []) (rest := []) (ws' := (wX5 ad c9 s_time s_tolerance s_seed s_madeTickets s_cheesesOfText o1 s_R_cells o2 s_U_cells o3 s_S_cells s_T_rows s_T_cells s_E_rows s_E_cells)) (c_X6_removeAll l hG D c9 (fun k => ad ([5, 6].getD k 0)) 18 3 RX3 rfl layc_X3 6 3 s_S_rows s_S_cells ho3) 0 (gU wc_181 wc_182 wc_183 wc_174 wc_35 wc_175) rfl rfl rfl rfl pd_X6_removeAll_UX5_begin_50 ⟨Nat.le_of_ble_eq_true rfl, Nat.le_of_ble_eq_true rfl⟩ 5 rfl rfl rfl rfl (Nat.le_of_ble_eq_true rfl) ⟨Nat.zero_le _, Nat.zero_le _⟩ [5, 6] [0, 1, 2, 3, 4, 7, 8, 9, 10] [0, 1, 2, 3, 4, 9, 10, 5, 6, 7, 8] rfl rfl rfl rfl dX5_begin_18 21 rfl ?_
  refine v_aload_n X dX5_begin_21 0 rfl rfl 22 rfl ?_
  refine v_get X (C := RX5) (T := TX5) (N := 10) (ci := 5) (v := _) dX5_begin_22 (lay_of layc_X5) 0 rfl rfl 3 (by decide) (mw wc_184) rfl rfl 25 rfl ?_
  obtain ⟨o4, ho4, hf⟩ := bnd hf
  refine v_callUv X (ci := 6) (T := TX7) (C := RX7) (owner := "TicketGate$Table") (As := []) (rest := []) (ws' := (wX5 ad c9 s_time s_tolerance s_seed s_madeTickets s_cheesesOfText o1 s_R_cells o2 s_U_cells o3 s_S_cells o4 s_T_cells s_E_rows s_E_cells)) (c_X6_removeAll l hG D c9 (fun k => ad ([7, 8].getD k 0)) 240 6 RX7 rfl layc_X7 24 10 s_T_rows s_T_cells ho4) 0 (gU wc_185 wc_186 wc_187 wc_174 wc_35 wc_175) rfl rfl rfl rfl pd_X6_removeAll_UX5_begin_51 ⟨Nat.le_of_ble_eq_true rfl, Nat.le_of_ble_eq_true rfl⟩ 7 rfl rfl rfl rfl (Nat.le_of_ble_eq_true rfl) ⟨Nat.zero_le _, Nat.zero_le _⟩ [7, 8] [0, 1, 2, 3, 4, 5, 6, 9, 10] [0, 1, 2, 3, 4, 5, 6, 9, 10, 7, 8] rfl rfl rfl rfl dX5_begin_25 28 rfl ?_
  refine v_aload_n X dX5_begin_28 0 rfl rfl 29 rfl ?_
  refine v_get X (C := RX5) (T := TX5) (N := 10) (ci := 5) (v := _) dX5_begin_29 (lay_of layc_X5) 0 rfl rfl 4 (by decide) (mw wc_188) rfl rfl 32 rfl ?_
  obtain ⟨o5, ho5, hf⟩ := bnd hf
  refine v_callUv X (ci := 8) (T := TX9) (C := RX9) (owner := "TicketGate$Table") (As := []) (rest := []) (ws' := (wX5 ad c9 s_time s_tolerance s_seed s_madeTickets s_cheesesOfText o1 s_R_cells o2 s_U_cells o3 s_S_cells o4 s_T_cells o5 s_E_cells)) (c_X6_removeAll l hG D c9 (fun k => ad ([9, 10].getD k 0)) 120 8 RX9 rfl layc_X9 30 4 s_E_rows s_E_cells ho5) 0 (gU wc_189 wc_190 wc_191 wc_174 wc_35 wc_175) rfl rfl rfl rfl pd_X6_removeAll_UX5_begin_52 ⟨Nat.le_of_ble_eq_true rfl, Nat.le_of_ble_eq_true rfl⟩ 9 rfl rfl rfl rfl (Nat.le_of_ble_eq_true rfl) ⟨Nat.zero_le _, Nat.zero_le _⟩ [9, 10] [0, 1, 2, 3, 4, 5, 6, 7, 8] [0, 1, 2, 3, 4, 5, 6, 7, 8, 9, 10] rfl rfl rfl rfl dX5_begin_32 35 rfl ?_
  refine v_aload_n X dX5_begin_35 0 rfl rfl 36 rfl ?_
  refine v_iconst X dX5_begin_36 ic_0 37 rfl ?_
  refine v_put X (C := RX5) (T := TX5) (N := 10) (ci := 5) (ty := tyX5 5) (ws' := (wX5 ad c9 0 s_tolerance s_seed s_madeTickets s_cheesesOfText o1 s_R_cells o2 s_U_cells o3 s_S_cells o4 s_T_cells o5 s_E_cells)) dX5_begin_37 (lay_of layc_X5) 0 rfl rfl 5 (by decide) tyX5 tyX5_ok nmX5 (mw wc_192) rfl rfl (tyX5_ok 5 (by decide)) rfl rfl (Nat.le_of_ble_eq_true rfl) rfl 40 rfl ?_
  refine v_aload_n X dX5_begin_40 0 rfl rfl 41 rfl ?_
  refine v_iload_n X dX5_begin_41 1 rfl rfl 42 rfl ?_
  refine v_put X (C := RX5) (T := TX5) (N := 10) (ci := 5) (ty := tyX5 6) (ws' := (wX5 ad c9 0 v1 s_seed s_madeTickets s_cheesesOfText o1 s_R_cells o2 s_U_cells o3 s_S_cells o4 s_T_cells o5 s_E_cells)) dX5_begin_42 (lay_of layc_X5) 0 rfl rfl 6 (by decide) tyX5 tyX5_ok nmX5 (mw wc_193) rfl rfl (tyX5_ok 6 (by decide)) rfl rfl (Nat.le_of_ble_eq_true rfl) rfl 45 rfl ?_
  refine v_aload_n X dX5_begin_45 0 rfl rfl 46 rfl ?_
  refine v_iload_n X dX5_begin_46 2 rfl rfl 47 rfl ?_
  refine v_put X (C := RX5) (T := TX5) (N := 10) (ci := 5) (ty := tyX5 7) (ws' := (wX5 ad c9 0 v1 v2 s_madeTickets s_cheesesOfText o1 s_R_cells o2 s_U_cells o3 s_S_cells o4 s_T_cells o5 s_E_cells)) dX5_begin_47 (lay_of layc_X5) 0 rfl rfl 7 (by decide) tyX5 tyX5_ok nmX5 (mw wc_194) rfl rfl (tyX5_ok 7 (by decide)) rfl rfl (Nat.le_of_ble_eq_true rfl) rfl 50 rfl ?_
  refine v_aload_n X dX5_begin_50 0 rfl rfl 51 rfl ?_
  refine v_iconst X dX5_begin_51 ic_0 52 rfl ?_
  refine v_put X (C := RX5) (T := TX5) (N := 10) (ci := 5) (ty := tyX5 8) (ws' := (wX5 ad c9 0 v1 v2 0 s_cheesesOfText o1 s_R_cells o2 s_U_cells o3 s_S_cells o4 s_T_cells o5 s_E_cells)) dX5_begin_52 (lay_of layc_X5) 0 rfl rfl 8 (by decide) tyX5 tyX5_ok nmX5 (mw wc_195) rfl rfl (tyX5_ok 8 (by decide)) rfl rfl (Nat.le_of_ble_eq_true rfl) rfl 55 rfl ?_
  refine v_aload_n X dX5_begin_55 0 rfl rfl 56 rfl ?_
  refine v_iconst X dX5_begin_56 ic_0 57 rfl ?_
  refine v_put X (C := RX5) (T := TX5) (N := 10) (ci := 5) (ty := tyX5 9) (ws' := (wX5 ad c9 0 v1 v2 0 0 o1 s_R_cells o2 s_U_cells o3 s_S_cells o4 s_T_cells o5 s_E_cells)) dX5_begin_57 (lay_of layc_X5) 0 rfl rfl 9 (by decide) tyX5 tyX5_ok nmX5 (mw wc_196) rfl rfl (tyX5_ok 9 (by decide)) rfl rfl (Nat.le_of_ble_eq_true rfl) rfl 60 rfl ?_
  obtain rfl := Option.some.inj hf
  exact v_vret X (Nat.zero_le _) (Nat.zero_le _) dX5_begin_60
theorem pd_X5_begin : yX5_begin.cls ≠ "java/lang/invoke/MethodHandle" ∧ yX5_begin.cls ≠ "java/lang/invoke/VarHandle" ∧ (parseMethodDescriptor yX5_begin.desc).map (fun d => d.parameters.length) = some 2 := by decide +kernel
theorem pd_X6_copyFrom_UX5_copyFrom_69 : "TicketGate$Table" ≠ "java/lang/invoke/MethodHandle" ∧ "TicketGate$Table" ≠ "java/lang/invoke/VarHandle" ∧ (parseMethodDescriptor "(LTicketGate$Table;)V").map (fun d => d.parameters.length) = some 1 := by decide +kernel
theorem pd_X6_copyFrom_UX5_copyFrom_73 : "TicketGate$Table" ≠ "java/lang/invoke/MethodHandle" ∧ "TicketGate$Table" ≠ "java/lang/invoke/VarHandle" ∧ (parseMethodDescriptor "(LTicketGate$Table;)V").map (fun d => d.parameters.length) = some 1 := by decide +kernel
theorem pd_X6_copyFrom_UX5_copyFrom_74 : "TicketGate$Table" ≠ "java/lang/invoke/MethodHandle" ∧ "TicketGate$Table" ≠ "java/lang/invoke/VarHandle" ∧ (parseMethodDescriptor "(LTicketGate$Table;)V").map (fun d => d.parameters.length) = some 1 := by decide +kernel
theorem pd_X6_copyFrom_UX5_copyFrom_75 : "TicketGate$Table" ≠ "java/lang/invoke/MethodHandle" ∧ "TicketGate$Table" ≠ "java/lang/invoke/VarHandle" ∧ (parseMethodDescriptor "(LTicketGate$Table;)V").map (fun d => d.parameters.length) = some 1 := by decide +kernel
theorem pd_X6_copyFrom_UX5_copyFrom_76 : "TicketGate$Table" ≠ "java/lang/invoke/MethodHandle" ∧ "TicketGate$Table" ≠ "java/lang/invoke/VarHandle" ∧ (parseMethodDescriptor "(LTicketGate$Table;)V").map (fun d => d.parameters.length) = some 1 := by decide +kernel
def f_X5_copyFrom (s_time : Int32) (s_tolerance : Int32) (s_seed : Int32) (s_madeTickets : Int32) (s_cheesesOfText : Int32) (s_R_rows : Int32) (s_R_cells : Nat → Int32) (s_U_rows : Int32) (s_U_cells : Nat → Int32) (s_S_rows : Int32) (s_S_cells : Nat → Int32) (s_T_rows : Int32) (s_T_cells : Nat → Int32) (s_E_rows : Int32) (s_E_cells : Nat → Int32) (zs_time : Int32) (zs_tolerance : Int32) (zs_seed : Int32) (zs_madeTickets : Int32) (zs_cheesesOfText : Int32) (zs_R_rows : Int32) (zs_R_cells : Nat → Int32) (zs_U_rows : Int32) (zs_U_cells : Nat → Int32) (zs_S_rows : Int32) (zs_S_cells : Nat → Int32) (zs_T_rows : Int32) (zs_T_cells : Nat → Int32) (zs_E_rows : Int32) (zs_E_cells : Nat → Int32) : Option (Int32 × Int32 × Int32 × Int32 × Int32 × Int32 × (Nat → Int32) × Int32 × (Nat → Int32) × Int32 × (Nat → Int32) × Int32 × (Nat → Int32) × Int32 × (Nat → Int32)) :=
  (f_X6_copyFrom 25 25 s_R_rows s_R_cells zs_R_rows zs_R_cells).bind fun o1 =>
  (f_X6_copyFrom 30 30 s_U_rows s_U_cells zs_U_rows zs_U_cells).bind fun o2 =>
  (f_X6_copyFrom 18 18 s_S_rows s_S_cells zs_S_rows zs_S_cells).bind fun o3 =>
  (f_X6_copyFrom 240 240 s_T_rows s_T_cells zs_T_rows zs_T_cells).bind fun o4 =>
  (f_X6_copyFrom 120 120 s_E_rows s_E_cells zs_E_rows zs_E_cells).bind fun o5 =>
  some (zs_time, zs_tolerance, zs_seed, zs_madeTickets, zs_cheesesOfText, o1.1, o1.2, o2.1, o2.2, o3.1, o3.2, o4.1, o4.2, o5.1, o5.2)
set_option maxRecDepth 100000 in
set_option maxHeartbeats 4000000 in
theorem c_X5_copyFrom (l : Launch) {G : (Nat → Prop) → State → Heap → Prop} (hG : vG G) (D : va_G) (c9 : Nat → ClassId) (ad : Nat → Nat) (ad1 : Nat → Nat) (s_time : Int32) (s_tolerance : Int32) (s_seed : Int32) (s_madeTickets : Int32) (s_cheesesOfText : Int32) (s_R_rows : Int32) (s_R_cells : Nat → Int32) (s_U_rows : Int32) (s_U_cells : Nat → Int32) (s_S_rows : Int32) (s_S_cells : Nat → Int32) (s_T_rows : Int32) (s_T_cells : Nat → Int32) (s_E_rows : Int32) (s_E_cells : Nat → Int32) (zs_time : Int32) (zs_tolerance : Int32) (zs_seed : Int32) (zs_madeTickets : Int32) (zs_cheesesOfText : Int32) (zs_R_rows : Int32) (zs_R_cells : Nat → Int32) (zs_U_rows : Int32) (zs_U_cells : Nat → Int32) (zs_S_rows : Int32) (zs_S_cells : Nat → Int32) (zs_T_rows : Int32) (zs_T_cells : Nat → Int32) (zs_E_rows : Int32) (zs_E_cells : Nat → Int32)  {o : Int32 × Int32 × Int32 × Int32 × Int32 × Int32 × (Nat → Int32) × Int32 × (Nat → Int32) × Int32 × (Nat → Int32) × Int32 × (Nat → Int32) × Int32 × (Nat → Int32)} (hf : f_X5_copyFrom s_time s_tolerance s_seed s_madeTickets s_cheesesOfText s_R_rows s_R_cells s_U_rows s_U_cells s_S_rows s_S_cells s_T_rows s_T_cells s_E_rows s_E_cells zs_time zs_tolerance zs_seed zs_madeTickets zs_cheesesOfText zs_R_rows zs_R_cells zs_U_rows zs_U_cells zs_S_rows zs_S_cells zs_T_rows zs_T_cells zs_E_rows zs_E_cells = some o) : mV l yX5_copyFrom (wq yX5_copyFrom cX5_copyFrom 2 none) { frames := 2, cells := 0, slots := 0, locals := 62 } G D (tyA c9) [.ref (ad 0), .ref (ad1 0)] ((wX5 ad c9 s_time s_tolerance s_seed s_madeTickets s_cheesesOfText s_R_rows s_R_cells s_U_rows s_U_cells s_S_rows s_S_cells s_T_rows s_T_cells s_E_rows s_E_cells) ++ (wX5 ad1 c9 zs_time zs_tolerance zs_seed zs_madeTickets zs_cheesesOfText zs_R_rows zs_R_cells zs_U_rows zs_U_cells zs_S_rows zs_S_cells zs_T_rows zs_T_cells zs_E_rows zs_E_cells)) [] 0 0 ((wX5 ad c9 o.1 o.2.1 o.2.2.1 o.2.2.2.1 o.2.2.2.2.1 o.2.2.2.2.2.1 o.2.2.2.2.2.2.1 o.2.2.2.2.2.2.2.1 o.2.2.2.2.2.2.2.2.1 o.2.2.2.2.2.2.2.2.2.1 o.2.2.2.2.2.2.2.2.2.2.1 o.2.2.2.2.2.2.2.2.2.2.2.1 o.2.2.2.2.2.2.2.2.2.2.2.2.1 o.2.2.2.2.2.2.2.2.2.2.2.2.2.1 o.2.2.2.2.2.2.2.2.2.2.2.2.2.2) ++ (wX5 ad1 c9 zs_time zs_tolerance zs_seed zs_madeTickets zs_cheesesOfText zs_R_rows zs_R_cells zs_U_rows zs_U_cells zs_S_rows zs_S_cells zs_T_rows zs_T_cells zs_E_rows zs_E_cells)) := by
  refine mV_of hG (cc := cX5_copyFrom) (maxL := 2) (by decide) rfl (Nat.le_of_ble_eq_true rfl) ?_
  intro p e s m args below meth c A hnm X
  have X : vX p s m args meth c cX5_copyFrom 2 none RX5 (wq yX5_copyFrom cX5_copyFrom 2 none) D (tyA c9) G A := X
  refine v_eq (lv2 := [(0, .ref (ad 0)), (1, .ref (ad1 0))]) rfl rfl rfl rfl ?_
  rw [f_X5_copyFrom] at hf
  refine v_aload_n X dX5_copyFrom_0 0 rfl rfl 1 rfl ?_
  refine v_get X (C := RX5) (T := TX5) (N := 10) (ci := 5) (v := _) dX5_copyFrom_1 (lay_of layc_X5) 0 rfl rfl 0 (by decide) (mw wc_170) rfl rfl 4 rfl ?_
  refine v_aload_n X dX5_copyFrom_4 1 rfl rfl 5 rfl ?_
  refine v_get X (C := RX5) (T := TX5) (N := 10) (ci := 5) (v := _) dX5_copyFrom_5 (lay_of layc_X5) 11 rfl rfl 0 (by decide) (mw wc_170) rfl rfl 8 rfl ?_
  obtain ⟨o1, ho1, hf⟩ := bnd hf
  refine v_callUv X (ci := 2) (T := TX2) (C := RX2) (owner := "TicketGate$Table") (As := [.ref (ad1 1)]) (rest := []) (ws' := ((wX5 ad c9 s_time s_tolerance s_seed s_madeTickets s_cheesesOfText o1.1 o1.2 s_U_rows s_U_cells s_S_rows s_S_cells s_T_rows s_T_cells s_E_rows s_E_cells) ++ (wX5 ad1 c9 zs_time zs_tolerance zs_seed zs_madeTickets zs_cheesesOfText zs_R_rows zs_R_cells zs_U_rows zs_U_cells zs_S_rows zs_S_cells zs_T_rows zs_T_cells zs_E_rows zs_E_cells))) (c_X6_copyFrom l hG D c9 (fun k => ad ([1, 2].getD k 0)) (fun k => ad1 ([1, 2].getD k 0)) 25 25 2 RX2 rfl layc_X2 5 5 s_R_rows s_R_cells 5 5 zs_R_rows zs_R_cells ho1) 1 (gU wc_197 wc_198 wc_199 wc_200 wc_35 wc_201) rfl rfl rfl rfl pd_X6_copyFrom_UX5_copyFrom_69 ⟨Nat.le_of_ble_eq_true rfl, Nat.le_of_ble_eq_true rfl⟩ 1 rfl rfl rfl rfl (Nat.le_of_ble_eq_true rfl) ⟨Nat.zero_le _, Nat.zero_le _⟩ [1, 2, 12, 13] [0, 3, 4, 5, 6, 7, 8, 9, 10, 11, 14, 15, 16, 17, 18, 19, 20, 21] [0, 18, 19, 1, 2, 3, 4, 5, 6, 7, 8, 9, 20, 21, 10, 11, 12, 13, 14, 15, 16, 17] rfl rfl rfl rfl dX5_copyFrom_8 11 rfl ?_
  refine v_aload_n X dX5_copyFrom_11 0 rfl rfl 12 rfl ?_
  refine v_get X (C := RX5) (T := TX5) (N := 10) (ci := 5) (v := _) dX5_copyFrom_12 (lay_of layc_X5) 0 rfl rfl 1 (by decide) (mw wc_176) rfl rfl 15 rfl ?_
  refine v_aload_n X dX5_copyFrom_15 1 rfl rfl 16 rfl ?_
  refine v_get X (C := RX5) (T := TX5) (N := 10) (ci := 5) (v := _) dX5_copyFrom_16 (lay_of layc_X5) 11 rfl rfl 1 (by decide) (mw wc_176) rfl rfl 19 rfl ?_
  obtain ⟨o2, ho2, hf⟩ := bnd hf
  refine v_callUv X (ci := 7) (T := TX8) (C := RX8) (owner := "TicketGate$Table") (As := [.ref (ad1 3)]) (rest := []) (ws' := ((wX5 ad c9 s_time s_tolerance s_seed s_madeTickets s_cheesesOfText o1.1 o1.2 o2.1 o2.2 s_S_rows s_S_cells s_T_rows s_T_cells s_E_rows s_E_cells) ++ (wX5 ad1 c9 zs_time zs_tolerance zs_seed zs_madeTickets zs_cheesesOfText zs_R_rows zs_R_cells zs_U_rows zs_U_cells zs_S_rows zs_S_cells zs_T_rows zs_T_cells zs_E_rows zs_E_cells))) (c_X6_copyFrom l hG D c9 (fun k => ad ([3, 4].getD k 0)) (fun k => ad1 ([3, 4].getD k 0)) 30 30 7 RX8 rfl layc_X8 6 5 s_U_rows s_U_cells 6 5 zs_U_rows zs_U_cells ho2) 1 (gU wc_202 wc_203 wc_204 wc_200 wc_35 wc_201) rfl rfl rfl rfl pd_X6_copyFrom_UX5_copyFrom_73 ⟨Nat.le_of_ble_eq_true rfl, Nat.le_of_ble_eq_true rfl⟩ 3 rfl rfl rfl rfl (Nat.le_of_ble_eq_true rfl) ⟨Nat.zero_le _, Nat.zero_le _⟩ [3, 4, 14, 15] [0, 1, 2, 5, 6, 7, 8, 9, 10, 11, 12, 13, 16, 17, 18, 19, 20, 21] [0, 1, 2, 18, 19, 3, 4, 5, 6, 7, 8, 9, 10, 11, 20, 21, 12, 13, 14, 15, 16, 17] rfl rfl rfl rfl dX5_copyFrom_19 22 rfl ?_
  refine v_aload_n X dX5_copyFrom_22 0 rfl rfl 23 rfl ?_
  refine v_get X (C := RX5) (T := TX5) (N := 10) (ci := 5) (v := _) dX5_copyFrom_23 (lay_of layc_X5) 0 rfl rfl 2 (by decide) (mw wc_180) rfl rfl 26 rfl ?_
  refine v_aload_n X dX5_copyFrom_26 1 rfl rfl 27 rfl ?_
  refine v_get X (C := RX5) (T := TX5) (N := 10) (ci := 5) (v := _) dX5_copyFrom_27 (lay_of layc_X5) 11 rfl rfl 2 (by decide) (mw wc_180) rfl rfl 30 rfl ?_
  obtain ⟨o3, ho3, hf⟩ := bnd hf
  refine v_callUv X (ci := 3) (T := TX3) (C := RX3) (owner := "TicketGate$Table") (As := [.ref (ad1 5)]) (rest := []) (ws' := ((wX5 ad c9 s_time s_tolerance s_seed s_madeTickets s_cheesesOfText o1.1 o1.2 o2.1 o2.2 o3.1 o3.2 s_T_rows s_T_cells s_E_rows s_E_cells) ++ (wX5 ad1 c9 zs_time zs_tolerance zs_seed zs_madeTickets zs_cheesesOfText zs_R_rows zs_R_cells zs_U_rows zs_U_cells zs_S_rows zs_S_cells zs_T_rows zs_T_cells zs_E_rows zs_E_cells))) (c_X6_copyFrom l hG D c9 (fun k => ad ([5, 6].getD k 0)) (fun k => ad1 ([5, 6].getD k 0)) 18 18 3 RX3 rfl layc_X3 6 3 s_S_rows s_S_cells 6 3 zs_S_rows zs_S_cells ho3) 1 (gU wc_205 wc_206 wc_207 wc_200 wc_35 wc_201) rfl rfl rfl rfl pd_X6_copyFrom_UX5_copyFrom_74 ⟨Nat.le_of_ble_eq_true rfl, Nat.le_of_ble_eq_true rfl⟩ 5 rfl rfl rfl rfl (Nat.le_of_ble_eq_true rfl) ⟨Nat.zero_le _, Nat.zero_le _⟩ [5, 6, 16, 17] [0, 1, 2, 3, 4, 7, 8, 9, 10, 11, 12, 13, 14, 15, 18, 19, 20, 21] [0, 1, 2, 3, 4, 18, 19, 5, 6, 7, 8, 9, 10, 11, 12, 13, 20, 21, 14, 15, 16, 17] rfl rfl rfl rfl dX5_copyFrom_30 33 rfl ?_
  refine v_aload_n X dX5_copyFrom_33 0 rfl rfl 34 rfl ?_
  refine v_get X (C := RX5) (T := TX5) (N := 10) (ci := 5) (v := _) dX5_copyFrom_34 (lay_of layc_X5) 0 rfl rfl 3 (by decide) (mw wc_184) rfl rfl 37 rfl ?_
  refine v_aload_n X dX5_copyFrom_37 1 rfl rfl 38 rfl ?_
  refine v_get X (C := RX5) (T := TX5) (N := 10) (ci := 5) (v := _) dX5_copyFrom_38 (lay_of layc_X5) 11 rfl rfl 3 (by decide) (mw wc_184) rfl rfl 41 rfl ?_
  obtain ⟨o4, ho4, hf⟩ := bnd hf
  refine v_callUv X (ci := 6) (T := TX7) (C := RX7) (owner := "TicketGate$Table") (As := [.ref (ad1 7)]) (rest := []) (ws' := ((wX5 ad c9 s_time s_tolerance s_seed s_madeTickets s_cheesesOfText o1.1 o1.2 o2.1 o2.2 o3.1 o3.2 o4.1 o4.2 s_E_rows s_E_cells) ++ (wX5 ad1 c9 zs_time zs_tolerance zs_seed zs_madeTickets zs_cheesesOfText zs_R_rows zs_R_cells zs_U_rows zs_U_cells zs_S_rows zs_S_cells zs_T_rows zs_T_cells zs_E_rows zs_E_cells))) (c_X6_copyFrom l hG D c9 (fun k => ad ([7, 8].getD k 0)) (fun k => ad1 ([7, 8].getD k 0)) 240 240 6 RX7 rfl layc_X7 24 10 s_T_rows s_T_cells 24 10 zs_T_rows zs_T_cells ho4) 1 (gU wc_208 wc_209 wc_210 wc_200 wc_35 wc_201) rfl rfl rfl rfl pd_X6_copyFrom_UX5_copyFrom_75 ⟨Nat.le_of_ble_eq_true rfl, Nat.le_of_ble_eq_true rfl⟩ 7 rfl rfl rfl rfl (Nat.le_of_ble_eq_true rfl) ⟨Nat.zero_le _, Nat.zero_le _⟩ [7, 8, 18, 19] [0, 1, 2, 3, 4, 5, 6, 9, 10, 11, 12, 13, 14, 15, 16, 17, 20, 21] [0, 1, 2, 3, 4, 5, 6, 18, 19, 7, 8, 9, 10, 11, 12, 13, 14, 15, 20, 21, 16, 17] rfl rfl rfl rfl dX5_copyFrom_41 44 rfl ?_
  refine v_aload_n X dX5_copyFrom_44 0 rfl rfl 45 rfl ?_
  refine v_get X (C := RX5) (T := TX5) (N := 10) (ci := 5) (v := _) dX5_copyFrom_45 (lay_of layc_X5) 0 rfl rfl 4 (by decide) (mw wc_188) rfl rfl 48 rfl ?_
  refine v_aload_n X dX5_copyFrom_48 1 rfl rfl 49 rfl ?_
  refine v_get X (C := RX5) (T := TX5) (N := 10) (ci := 5) (v := _) dX5_copyFrom_49 (lay_of layc_X5) 11 rfl rfl 4 (by decide) (mw wc_188) rfl rfl 52 rfl ?_
  obtain ⟨o5, ho5, hf⟩ := bnd hf
  refine v_callUv X (ci := 8) (T := TX9) (C := RX9) (owner := "TicketGate$Table") (As := [.ref (ad1 9)]) (rest := []) (ws' := ((wX5 ad c9 s_time s_tolerance s_seed s_madeTickets s_cheesesOfText o1.1 o1.2 o2.1 o2.2 o3.1 o3.2 o4.1 o4.2 o5.1 o5.2) ++ (wX5 ad1 c9 zs_time zs_tolerance zs_seed zs_madeTickets zs_cheesesOfText zs_R_rows zs_R_cells zs_U_rows zs_U_cells zs_S_rows zs_S_cells zs_T_rows zs_T_cells zs_E_rows zs_E_cells))) (c_X6_copyFrom l hG D c9 (fun k => ad ([9, 10].getD k 0)) (fun k => ad1 ([9, 10].getD k 0)) 120 120 8 RX9 rfl layc_X9 30 4 s_E_rows s_E_cells 30 4 zs_E_rows zs_E_cells ho5) 1 (gU wc_211 wc_212 wc_213 wc_200 wc_35 wc_201) rfl rfl rfl rfl pd_X6_copyFrom_UX5_copyFrom_76 ⟨Nat.le_of_ble_eq_true rfl, Nat.le_of_ble_eq_true rfl⟩ 9 rfl rfl rfl rfl (Nat.le_of_ble_eq_true rfl) ⟨Nat.zero_le _, Nat.zero_le _⟩ [9, 10, 20, 21] [0, 1, 2, 3, 4, 5, 6, 7, 8, 11, 12, 13, 14, 15, 16, 17, 18, 19] [0, 1, 2, 3, 4, 5, 6, 7, 8, 18, 19, 9, 10, 11, 12, 13, 14, 15, 16, 17, 20, 21] rfl rfl rfl rfl dX5_copyFrom_52 55 rfl ?_
  refine v_aload_n X dX5_copyFrom_55 0 rfl rfl 56 rfl ?_
  refine v_aload_n X dX5_copyFrom_56 1 rfl rfl 57 rfl ?_
  refine v_get X (C := RX5) (T := TX5) (N := 10) (ci := 5) (v := _) dX5_copyFrom_57 (lay_of layc_X5) 11 rfl rfl 5 (by decide) (mw wc_192) rfl rfl 60 rfl ?_
  refine v_put X (C := RX5) (T := TX5) (N := 10) (ci := 5) (ty := tyX5 5) (ws' := ((wX5 ad c9 zs_time s_tolerance s_seed s_madeTickets s_cheesesOfText o1.1 o1.2 o2.1 o2.2 o3.1 o3.2 o4.1 o4.2 o5.1 o5.2) ++ (wX5 ad1 c9 zs_time zs_tolerance zs_seed zs_madeTickets zs_cheesesOfText zs_R_rows zs_R_cells zs_U_rows zs_U_cells zs_S_rows zs_S_cells zs_T_rows zs_T_cells zs_E_rows zs_E_cells))) dX5_copyFrom_60 (lay_of layc_X5) 0 rfl rfl 5 (by decide) tyX5 tyX5_ok nmX5 (mw wc_192) rfl rfl (tyX5_ok 5 (by decide)) rfl rfl (Nat.le_of_ble_eq_true rfl) rfl 63 rfl ?_
  refine v_aload_n X dX5_copyFrom_63 0 rfl rfl 64 rfl ?_
  refine v_aload_n X dX5_copyFrom_64 1 rfl rfl 65 rfl ?_
  refine v_get X (C := RX5) (T := TX5) (N := 10) (ci := 5) (v := _) dX5_copyFrom_65 (lay_of layc_X5) 11 rfl rfl 6 (by decide) (mw wc_193) rfl rfl 68 rfl ?_
  refine v_put X (C := RX5) (T := TX5) (N := 10) (ci := 5) (ty := tyX5 6) (ws' := ((wX5 ad c9 zs_time zs_tolerance s_seed s_madeTickets s_cheesesOfText o1.1 o1.2 o2.1 o2.2 o3.1 o3.2 o4.1 o4.2 o5.1 o5.2) ++ (wX5 ad1 c9 zs_time zs_tolerance zs_seed zs_madeTickets zs_cheesesOfText zs_R_rows zs_R_cells zs_U_rows zs_U_cells zs_S_rows zs_S_cells zs_T_rows zs_T_cells zs_E_rows zs_E_cells))) dX5_copyFrom_68 (lay_of layc_X5) 0 rfl rfl 6 (by decide) tyX5 tyX5_ok nmX5 (mw wc_193) rfl rfl (tyX5_ok 6 (by decide)) rfl rfl (Nat.le_of_ble_eq_true rfl) rfl 71 rfl ?_
  refine v_aload_n X dX5_copyFrom_71 0 rfl rfl 72 rfl ?_
  refine v_aload_n X dX5_copyFrom_72 1 rfl rfl 73 rfl ?_
  refine v_get X (C := RX5) (T := TX5) (N := 10) (ci := 5) (v := _) dX5_copyFrom_73 (lay_of layc_X5) 11 rfl rfl 7 (by decide) (mw wc_194) rfl rfl 76 rfl ?_
  refine v_put X (C := RX5) (T := TX5) (N := 10) (ci := 5) (ty := tyX5 7) (ws' := ((wX5 ad c9 zs_time zs_tolerance zs_seed s_madeTickets s_cheesesOfText o1.1 o1.2 o2.1 o2.2 o3.1 o3.2 o4.1 o4.2 o5.1 o5.2) ++ (wX5 ad1 c9 zs_time zs_tolerance zs_seed zs_madeTickets zs_cheesesOfText zs_R_rows zs_R_cells zs_U_rows zs_U_cells zs_S_rows zs_S_cells zs_T_rows zs_T_cells zs_E_rows zs_E_cells))) dX5_copyFrom_76 (lay_of layc_X5) 0 rfl rfl 7 (by decide) tyX5 tyX5_ok nmX5 (mw wc_194) rfl rfl (tyX5_ok 7 (by decide)) rfl rfl (Nat.le_of_ble_eq_true rfl) rfl 79 rfl ?_
  refine v_aload_n X dX5_copyFrom_79 0 rfl rfl 80 rfl ?_
  refine v_aload_n X dX5_copyFrom_80 1 rfl rfl 81 rfl ?_
  refine v_get X (C := RX5) (T := TX5) (N := 10) (ci := 5) (v := _) dX5_copyFrom_81 (lay_of layc_X5) 11 rfl rfl 8 (by decide) (mw wc_195) rfl rfl 84 rfl ?_
  refine v_put X (C := RX5) (T := TX5) (N := 10) (ci := 5) (ty := tyX5 8) (ws' := ((wX5 ad c9 zs_time zs_tolerance zs_seed zs_madeTickets s_cheesesOfText o1.1 o1.2 o2.1 o2.2 o3.1 o3.2 o4.1 o4.2 o5.1 o5.2) ++ (wX5 ad1 c9 zs_time zs_tolerance zs_seed zs_madeTickets zs_cheesesOfText zs_R_rows zs_R_cells zs_U_rows zs_U_cells zs_S_rows zs_S_cells zs_T_rows zs_T_cells zs_E_rows zs_E_cells))) dX5_copyFrom_84 (lay_of layc_X5) 0 rfl rfl 8 (by decide) tyX5 tyX5_ok nmX5 (mw wc_195) rfl rfl (tyX5_ok 8 (by decide)) rfl rfl (Nat.le_of_ble_eq_true rfl) rfl 87 rfl ?_
  refine v_aload_n X dX5_copyFrom_87 0 rfl rfl 88 rfl ?_
  refine v_aload_n X dX5_copyFrom_88 1 rfl rfl 89 rfl ?_
  refine v_get X (C := RX5) (T := TX5) (N := 10) (ci := 5) (v := _) dX5_copyFrom_89 (lay_of layc_X5) 11 rfl rfl 9 (by decide) (mw wc_196) rfl rfl 92 rfl ?_
  refine v_put X (C := RX5) (T := TX5) (N := 10) (ci := 5) (ty := tyX5 9) (ws' := ((wX5 ad c9 zs_time zs_tolerance zs_seed zs_madeTickets zs_cheesesOfText o1.1 o1.2 o2.1 o2.2 o3.1 o3.2 o4.1 o4.2 o5.1 o5.2) ++ (wX5 ad1 c9 zs_time zs_tolerance zs_seed zs_madeTickets zs_cheesesOfText zs_R_rows zs_R_cells zs_U_rows zs_U_cells zs_S_rows zs_S_cells zs_T_rows zs_T_cells zs_E_rows zs_E_cells))) dX5_copyFrom_92 (lay_of layc_X5) 0 rfl rfl 9 (by decide) tyX5 tyX5_ok nmX5 (mw wc_196) rfl rfl (tyX5_ok 9 (by decide)) rfl rfl (Nat.le_of_ble_eq_true rfl) rfl 95 rfl ?_
  obtain rfl := Option.some.inj hf
  exact v_vret X (Nat.zero_le _) (Nat.zero_le _) dX5_copyFrom_95
theorem pd_X5_copyFrom : yX5_copyFrom.cls ≠ "java/lang/invoke/MethodHandle" ∧ yX5_copyFrom.cls ≠ "java/lang/invoke/VarHandle" ∧ (parseMethodDescriptor yX5_copyFrom.desc).map (fun d => d.parameters.length) = some 1 := by decide +kernel
theorem pd_X6_rowWith_UX5_codeOfName_77 : "TicketGate$Table" ≠ "java/lang/invoke/MethodHandle" ∧ "TicketGate$Table" ≠ "java/lang/invoke/VarHandle" ∧ (parseMethodDescriptor "(II)I").map (fun d => d.parameters.length) = some 2 := by decide +kernel
theorem pd_X6_rowWith_UX5_codeOfName_81 : "TicketGate$Table" ≠ "java/lang/invoke/MethodHandle" ∧ "TicketGate$Table" ≠ "java/lang/invoke/VarHandle" ∧ (parseMethodDescriptor "(II)I").map (fun d => d.parameters.length) = some 2 := by decide +kernel
theorem pd_X6_rowWith_UX5_codeOfName_82 : "TicketGate$Table" ≠ "java/lang/invoke/MethodHandle" ∧ "TicketGate$Table" ≠ "java/lang/invoke/VarHandle" ∧ (parseMethodDescriptor "(II)I").map (fun d => d.parameters.length) = some 2 := by decide +kernel
def f_X5_codeOfName (s_R_rows : Int32) (s_R_cells : Nat → Int32) (s_U_rows : Int32) (s_U_cells : Nat → Int32) (s_S_rows : Int32) (s_S_cells : Nat → Int32) (v1 : Int32) : Option (Int32) :=
  (f_X6_rowWith 25 5 s_R_rows s_R_cells 0 v1).bind fun o1 =>
  (f_X6_rowWith 30 5 s_U_rows s_U_cells 0 v1).bind fun o2 =>
  (f_X6_rowWith 18 3 s_S_rows s_S_cells 0 v1).bind fun o3 =>
  if o1 = (-1) then (
    if o2 = (-1) then (
      if o3 = (-1) then (
        some ((-1)))
      else (
        some ((200 + o3))))
    else (
      some ((100 + o2))))
  else (
    some (o1))
set_option maxRecDepth 100000 in
set_option maxHeartbeats 4000000 in
theorem c_X5_codeOfName (l : Launch) {G : (Nat → Prop) → State → Heap → Prop} (hG : vG G) (D : va_G) (c9 : Nat → ClassId) (ad : Nat → Nat) (s_time : Int32) (s_tolerance : Int32) (s_seed : Int32) (s_madeTickets : Int32) (s_cheesesOfText : Int32) (s_R_rows : Int32) (s_R_cells : Nat → Int32) (s_U_rows : Int32) (s_U_cells : Nat → Int32) (s_S_rows : Int32) (s_S_cells : Nat → Int32) (s_T_rows : Int32) (s_T_cells : Nat → Int32) (s_E_rows : Int32) (s_E_cells : Nat → Int32) (v1 : Int32) {o : Int32} (hf : f_X5_codeOfName s_R_rows s_R_cells s_U_rows s_U_cells s_S_rows s_S_cells v1 = some o) : mI l yX5_codeOfName (wq yX5_codeOfName cX5_codeOfName 5 (some .int)) { frames := 2, cells := 0, slots := 0, locals := 47 } G D (tyA c9) [.ref (ad 0), .int v1] (wX5 ad c9 s_time s_tolerance s_seed s_madeTickets s_cheesesOfText s_R_rows s_R_cells s_U_rows s_U_cells s_S_rows s_S_cells s_T_rows s_T_cells s_E_rows s_E_cells) [] 0 0 o (wX5 ad c9 s_time s_tolerance s_seed s_madeTickets s_cheesesOfText s_R_rows s_R_cells s_U_rows s_U_cells s_S_rows s_S_cells s_T_rows s_T_cells s_E_rows s_E_cells) := by
  refine mI_of hG (cc := cX5_codeOfName) (maxL := 5) (ty := .int) (by decide) rfl (Nat.le_of_ble_eq_true rfl) ?_
  intro p e s m args below meth c A X
  have X : vX p s m args meth c cX5_codeOfName 5 (some .int) RX5 (wq yX5_codeOfName cX5_codeOfName 5 (some .int)) D (tyA c9) G A := X
  refine v_eq (lv2 := [(0, .ref (ad 0)), (1, .int v1)]) rfl rfl rfl rfl ?_
  rw [f_X5_codeOfName] at hf
  refine v_aload_n X dX5_codeOfName_0 0 rfl rfl 1 rfl ?_
  refine v_get X (C := RX5) (T := TX5) (N := 10) (ci := 5) (v := _) dX5_codeOfName_1 (lay_of layc_X5) 0 rfl rfl 0 (by decide) (mw wc_170) rfl rfl 4 rfl ?_
  refine v_iconst X dX5_codeOfName_4 ic_0 5 rfl ?_
  refine v_iload_n X dX5_codeOfName_5 1 rfl rfl 6 rfl ?_
  obtain ⟨o1, ho1, hf⟩ := bnd hf
  refine v_callUi X (ci := 2) (T := TX2) (C := RX2) (owner := "TicketGate$Table") (As := [.int 0, .int v1]) (rest := []) (ws' := (wX5 ad c9 s_time s_tolerance s_seed s_madeTickets s_cheesesOfText s_R_rows s_R_cells s_U_rows s_U_cells s_S_rows s_S_cells s_T_rows s_T_cells s_E_rows s_E_cells)) (c_X6_rowWith l hG D c9 (fun k => ad ([1, 2].getD k 0)) 25 2 RX2 rfl layc_X2 wc_214 5 5 s_R_rows s_R_cells 0 v1 ho1) 2 (gU wc_215 wc_216 wc_217 wc_218 wc_35 wc_219) rfl rfl rfl rfl pd_X6_rowWith_UX5_codeOfName_77 ⟨Nat.le_of_ble_eq_true rfl, Nat.le_of_ble_eq_true rfl⟩ 1 rfl rfl rfl rfl (Nat.le_of_ble_eq_true rfl) ⟨Nat.zero_le _, Nat.zero_le _⟩ [1, 2] [0, 3, 4, 5, 6, 7, 8, 9, 10] [0, 9, 10, 1, 2, 3, 4, 5, 6, 7, 8] rfl rfl rfl rfl dX5_codeOfName_6 9 rfl ?_
  refine v_istore_n X (lv' := [(2, .int o1), (0, .ref (ad 0)), (1, .int v1)]) dX5_codeOfName_9 rfl (by decide) rfl 10 rfl ?_
  refine v_aload_n X dX5_codeOfName_10 1 rfl rfl 11 rfl ?_
  refine v_get X (C := RX5) (T := TX5) (N := 10) (ci := 5) (v := _) dX5_codeOfName_11 (lay_of layc_X5) 0 rfl rfl 1 (by decide) (mw wc_176) rfl rfl 14 rfl ?_
  refine v_iconst X dX5_codeOfName_14 ic_0 15 rfl ?_
  refine v_iload_n X dX5_codeOfName_15 2 rfl rfl 16 rfl ?_
  obtain ⟨o2, ho2, hf⟩ := bnd hf
  refine v_callUi X (ci := 7) (T := TX8) (C := RX8) (owner := "TicketGate$Table") (As := [.int 0, .int v1]) (rest := []) (ws' := (wX5 ad c9 s_time s_tolerance s_seed s_madeTickets s_cheesesOfText s_R_rows s_R_cells s_U_rows s_U_cells s_S_rows s_S_cells s_T_rows s_T_cells s_E_rows s_E_cells)) (c_X6_rowWith l hG D c9 (fun k => ad ([3, 4].getD k 0)) 30 7 RX8 rfl layc_X8 wc_220 6 5 s_U_rows s_U_cells 0 v1 ho2) 2 (gU wc_221 wc_222 wc_223 wc_218 wc_35 wc_219) rfl rfl rfl rfl pd_X6_rowWith_UX5_codeOfName_81 ⟨Nat.le_of_ble_eq_true rfl, Nat.le_of_ble_eq_true rfl⟩ 3 rfl rfl rfl rfl (Nat.le_of_ble_eq_true rfl) ⟨Nat.zero_le _, Nat.zero_le _⟩ [3, 4] [0, 1, 2, 5, 6, 7, 8, 9, 10] [0, 1, 2, 9, 10, 3, 4, 5, 6, 7, 8] rfl rfl rfl rfl dX5_codeOfName_16 19 rfl ?_
  refine v_istore_n X (lv' := [(3, .int o2), (2, .int o1), (0, .ref (ad 0)), (1, .int v1)]) dX5_codeOfName_19 rfl (by decide) rfl 20 rfl ?_
  refine v_aload_n X dX5_codeOfName_20 2 rfl rfl 21 rfl ?_
  refine v_get X (C := RX5) (T := TX5) (N := 10) (ci := 5) (v := _) dX5_codeOfName_21 (lay_of layc_X5) 0 rfl rfl 2 (by decide) (mw wc_180) rfl rfl 24 rfl ?_
  refine v_iconst X dX5_codeOfName_24 ic_0 25 rfl ?_
  refine v_iload_n X dX5_codeOfName_25 3 rfl rfl 26 rfl ?_
  obtain ⟨o3, ho3, hf⟩ := bnd hf
  refine v_callUi X (ci := 3) (T := TX3) (C := RX3) (owner := "TicketGate$Table") (As := [.int 0, .int v1]) (rest := []) (ws' := (wX5 ad c9 s_time s_tolerance s_seed s_madeTickets s_cheesesOfText s_R_rows s_R_cells s_U_rows s_U_cells s_S_rows s_S_cells s_T_rows s_T_cells s_E_rows s_E_cells)) (c_X6_rowWith l hG D c9 (fun k => ad ([5, 6].getD k 0)) 18 3 RX3 rfl layc_X3 wc_224 6 3 s_S_rows s_S_cells 0 v1 ho3) 2 (gU wc_225 wc_226 wc_227 wc_218 wc_35 wc_219) rfl rfl rfl rfl pd_X6_rowWith_UX5_codeOfName_82 ⟨Nat.le_of_ble_eq_true rfl, Nat.le_of_ble_eq_true rfl⟩ 5 rfl rfl rfl rfl (Nat.le_of_ble_eq_true rfl) ⟨Nat.zero_le _, Nat.zero_le _⟩ [5, 6] [0, 1, 2, 3, 4, 7, 8, 9, 10] [0, 1, 2, 3, 4, 9, 10, 5, 6, 7, 8] rfl rfl rfl rfl dX5_codeOfName_26 29 rfl ?_
  refine v_istore X (lv' := [(4, .int o3), (3, .int o2), (2, .int o1), (0, .ref (ad 0)), (1, .int v1)]) dX5_codeOfName_29 (by decide) rfl 31 rfl ?_
  refine v_iload_n X dX5_codeOfName_31 2 rfl rfl 32 rfl ?_
  refine v_iconst X dX5_codeOfName_32 ic_m1 33 rfl ?_
  refine v_icmp_eq X (tgt := 38) dX5_codeOfName_33 rfl 36 rfl hf (fun hf => ?_) (fun hf => ?_)
  · refine v_iload_n X dX5_codeOfName_38 1 rfl rfl 39 rfl ?_
    refine v_iconst X dX5_codeOfName_39 ic_m1 40 rfl ?_
    refine v_icmp_eq X (tgt := 48) dX5_codeOfName_40 rfl 43 rfl hf (fun hf => ?_) (fun hf => ?_)
    · refine v_iload X dX5_codeOfName_48 0 rfl 50 rfl ?_
      refine v_iconst X dX5_codeOfName_50 ic_m1 51 rfl ?_
      refine v_icmp_ne X (tgt := 58) dX5_codeOfName_51 rfl 54 rfl hf (fun hf => ?_) (fun hf => ?_)
      · refine v_sipush X dX5_codeOfName_58 sp_200 61 rfl ?_
        refine v_iload X dX5_codeOfName_61 0 rfl 63 rfl ?_
        refine v_iadd X dX5_codeOfName_63 64 rfl ?_
        obtain rfl := Option.some.inj hf
        exact v_iret X (Nat.zero_le _) (Nat.zero_le _) dX5_codeOfName_64
      · refine v_iconst X dX5_codeOfName_54 ic_m1 55 rfl ?_
        refine v_goto X (tgt := 64) dX5_codeOfName_55 rfl ?_
        obtain rfl := Option.some.inj hf
        exact v_iret X (Nat.zero_le _) (Nat.zero_le _) dX5_codeOfName_64
    · refine v_bipush X dX5_codeOfName_43 bp_100 45 rfl ?_
      refine v_iload_n X dX5_codeOfName_45 1 rfl rfl 46 rfl ?_
      refine v_iadd X dX5_codeOfName_46 47 rfl ?_
      obtain rfl := Option.some.inj hf
      exact v_iret X (Nat.zero_le _) (Nat.zero_le _) dX5_codeOfName_47
  · refine v_iload_n X dX5_codeOfName_36 2 rfl rfl 37 rfl ?_
    obtain rfl := Option.some.inj hf
    exact v_iret X (Nat.zero_le _) (Nat.zero_le _) dX5_codeOfName_37
theorem pd_X5_codeOfName : yX5_codeOfName.cls ≠ "java/lang/invoke/MethodHandle" ∧ yX5_codeOfName.cls ≠ "java/lang/invoke/VarHandle" ∧ (parseMethodDescriptor yX5_codeOfName.desc).map (fun d => d.parameters.length) = some 1 := by decide +kernel
theorem pd_X6_get_UX5_skewOf_83 : "TicketGate$Table" ≠ "java/lang/invoke/MethodHandle" ∧ "TicketGate$Table" ≠ "java/lang/invoke/VarHandle" ∧ (parseMethodDescriptor "(II)I").map (fun d => d.parameters.length) = some 2 := by decide +kernel
theorem pd_X6_get_UX5_skewOf_86 : "TicketGate$Table" ≠ "java/lang/invoke/MethodHandle" ∧ "TicketGate$Table" ≠ "java/lang/invoke/VarHandle" ∧ (parseMethodDescriptor "(II)I").map (fun d => d.parameters.length) = some 2 := by decide +kernel
def f_X5_skewOf (s_R_rows : Int32) (s_R_cells : Nat → Int32) (s_U_rows : Int32) (s_U_cells : Nat → Int32) (v1 : Int32) (v2 : Int32) : Option (Int32) :=
  (f_X6_get 30 5 s_U_rows s_U_cells v1 3).bind fun o1 =>
  (f_X6_get 25 5 s_R_rows s_R_cells v2 3).bind fun o2 =>
  some ((iabs (o1 - o2)))
set_option maxRecDepth 100000 in
set_option maxHeartbeats 4000000 in
theorem c_X5_skewOf (l : Launch) {G : (Nat → Prop) → State → Heap → Prop} (hG : vG G) (D : va_G) (c9 : Nat → ClassId) (ad : Nat → Nat) (s_time : Int32) (s_tolerance : Int32) (s_seed : Int32) (s_madeTickets : Int32) (s_cheesesOfText : Int32) (s_R_rows : Int32) (s_R_cells : Nat → Int32) (s_U_rows : Int32) (s_U_cells : Nat → Int32) (s_S_rows : Int32) (s_S_cells : Nat → Int32) (s_T_rows : Int32) (s_T_cells : Nat → Int32) (s_E_rows : Int32) (s_E_cells : Nat → Int32) (v1 : Int32) (v2 : Int32) {o : Int32} (hf : f_X5_skewOf s_R_rows s_R_cells s_U_rows s_U_cells v1 v2 = some o) : mI l yX5_skewOf (wq yX5_skewOf cX5_skewOf 3 (some .int)) { frames := 1, cells := 0, slots := 0, locals := 40 } G D (tyA c9) [.ref (ad 0), .int v1, .int v2] (wX5 ad c9 s_time s_tolerance s_seed s_madeTickets s_cheesesOfText s_R_rows s_R_cells s_U_rows s_U_cells s_S_rows s_S_cells s_T_rows s_T_cells s_E_rows s_E_cells) [] 0 0 o (wX5 ad c9 s_time s_tolerance s_seed s_madeTickets s_cheesesOfText s_R_rows s_R_cells s_U_rows s_U_cells s_S_rows s_S_cells s_T_rows s_T_cells s_E_rows s_E_cells) := by
  refine mI_of hG (cc := cX5_skewOf) (maxL := 3) (ty := .int) (by decide) rfl (Nat.le_of_ble_eq_true rfl) ?_
  intro p e s m args below meth c A X
  have X : vX p s m args meth c cX5_skewOf 3 (some .int) RX5 (wq yX5_skewOf cX5_skewOf 3 (some .int)) D (tyA c9) G A := X
  refine v_eq (lv2 := [(0, .ref (ad 0)), (1, .int v1), (2, .int v2)]) rfl rfl rfl rfl ?_
  rw [f_X5_skewOf] at hf
  refine v_aload_n X dX5_skewOf_0 0 rfl rfl 1 rfl ?_
  refine v_get X (C := RX5) (T := TX5) (N := 10) (ci := 5) (v := _) dX5_skewOf_1 (lay_of layc_X5) 0 rfl rfl 1 (by decide) (mw wc_176) rfl rfl 4 rfl ?_
  refine v_iload_n X dX5_skewOf_4 1 rfl rfl 5 rfl ?_
  refine v_iconst X dX5_skewOf_5 ic_3 6 rfl ?_
  obtain ⟨o1, ho1, hf⟩ := bnd hf
  refine v_callUi X (ci := 7) (T := TX8) (C := RX8) (owner := "TicketGate$Table") (As := [.int v1, .int 3]) (rest := []) (ws' := (wX5 ad c9 s_time s_tolerance s_seed s_madeTickets s_cheesesOfText s_R_rows s_R_cells s_U_rows s_U_cells s_S_rows s_S_cells s_T_rows s_T_cells s_E_rows s_E_cells)) (c_X6_get l hG D c9 (fun k => ad ([3, 4].getD k 0)) 30 7 RX8 rfl layc_X8 6 5 s_U_rows s_U_cells v1 3 ho1) 2 (gU wc_228 wc_229 wc_230 wc_34 wc_35 wc_36) rfl rfl rfl rfl pd_X6_get_UX5_skewOf_83 ⟨Nat.le_of_ble_eq_true rfl, Nat.le_of_ble_eq_true rfl⟩ 3 rfl rfl rfl rfl (Nat.le_of_ble_eq_true rfl) ⟨Nat.zero_le _, Nat.zero_le _⟩ [3, 4] [0, 1, 2, 5, 6, 7, 8, 9, 10] [0, 1, 2, 9, 10, 3, 4, 5, 6, 7, 8] rfl rfl rfl rfl dX5_skewOf_6 9 rfl ?_
  refine v_aload_n X dX5_skewOf_9 0 rfl rfl 10 rfl ?_
  refine v_get X (C := RX5) (T := TX5) (N := 10) (ci := 5) (v := _) dX5_skewOf_10 (lay_of layc_X5) 0 rfl rfl 0 (by decide) (mw wc_170) rfl rfl 13 rfl ?_
  refine v_iload_n X dX5_skewOf_13 2 rfl rfl 14 rfl ?_
  refine v_iconst X dX5_skewOf_14 ic_3 15 rfl ?_
  obtain ⟨o2, ho2, hf⟩ := bnd hf
  refine v_callUi X (ci := 2) (T := TX2) (C := RX2) (owner := "TicketGate$Table") (As := [.int v2, .int 3]) (rest := [.int o1]) (ws' := (wX5 ad c9 s_time s_tolerance s_seed s_madeTickets s_cheesesOfText s_R_rows s_R_cells s_U_rows s_U_cells s_S_rows s_S_cells s_T_rows s_T_cells s_E_rows s_E_cells)) (c_X6_get l hG D c9 (fun k => ad ([1, 2].getD k 0)) 25 2 RX2 rfl layc_X2 5 5 s_R_rows s_R_cells v2 3 ho2) 2 (gU wc_231 wc_57 wc_58 wc_34 wc_35 wc_36) rfl rfl rfl rfl pd_X6_get_UX5_skewOf_86 ⟨Nat.le_of_ble_eq_true rfl, Nat.le_of_ble_eq_true rfl⟩ 1 rfl rfl rfl rfl (Nat.le_of_ble_eq_true rfl) ⟨Nat.zero_le _, Nat.zero_le _⟩ [1, 2] [0, 3, 4, 5, 6, 7, 8, 9, 10] [0, 9, 10, 1, 2, 3, 4, 5, 6, 7, 8] rfl rfl rfl rfl dX5_skewOf_15 18 rfl ?_
  refine v_isub X dX5_skewOf_18 19 rfl ?_
  refine v_mabs X dX5_skewOf_19 (mw wc_232) (mw wc_233) (mw wc_26) (mw wc_234) (Nat.le_of_ble_eq_true rfl) (Nat.le_of_ble_eq_true rfl) (Nat.zero_le _) (Nat.zero_le _) 22 rfl ?_
  obtain rfl := Option.some.inj hf
  exact v_iret X (Nat.zero_le _) (Nat.zero_le _) dX5_skewOf_22
theorem pd_X5_skewOf : yX5_skewOf.cls ≠ "java/lang/invoke/MethodHandle" ∧ yX5_skewOf.cls ≠ "java/lang/invoke/VarHandle" ∧ (parseMethodDescriptor yX5_skewOf.desc).map (fun d => d.parameters.length) = some 2 := by decide +kernel
theorem pd_X6_get_UX5_isSkewed_93 : "TicketGate$Table" ≠ "java/lang/invoke/MethodHandle" ∧ "TicketGate$Table" ≠ "java/lang/invoke/VarHandle" ∧ (parseMethodDescriptor "(II)I").map (fun d => d.parameters.length) = some 2 := by decide +kernel
def f_X5_isSkewed (s_tolerance : Int32) (s_R_rows : Int32) (s_R_cells : Nat → Int32) (s_U_rows : Int32) (s_U_cells : Nat → Int32) (s_T_rows : Int32) (s_T_cells : Nat → Int32) (v1 : Int32) : Option (Int32) :=
  (f_X6_get 240 10 s_T_rows s_T_cells v1 2).bind fun o1 =>
  (f_X6_get 240 10 s_T_rows s_T_cells v1 3).bind fun o2 =>
  (f_X5_skewOf s_R_rows s_R_cells s_U_rows s_U_cells o1 o2).bind fun o3 =>
  if o3 ≤ s_tolerance then (
    some (0))
  else (
    some (1))
set_option maxRecDepth 100000 in
set_option maxHeartbeats 4000000 in
theorem c_X5_isSkewed (l : Launch) {G : (Nat → Prop) → State → Heap → Prop} (hG : vG G) (D : va_G) (c9 : Nat → ClassId) (ad : Nat → Nat) (s_time : Int32) (s_tolerance : Int32) (s_seed : Int32) (s_madeTickets : Int32) (s_cheesesOfText : Int32) (s_R_rows : Int32) (s_R_cells : Nat → Int32) (s_U_rows : Int32) (s_U_cells : Nat → Int32) (s_S_rows : Int32) (s_S_cells : Nat → Int32) (s_T_rows : Int32) (s_T_cells : Nat → Int32) (s_E_rows : Int32) (s_E_cells : Nat → Int32) (v1 : Int32) {o : Int32} (hf : f_X5_isSkewed s_tolerance s_R_rows s_R_cells s_U_rows s_U_cells s_T_rows s_T_cells v1 = some o) : mI l yX5_isSkewed (wq yX5_isSkewed cX5_isSkewed 3 (some .boolean)) { frames := 2, cells := 0, slots := 0, locals := 62 } G D (tyA c9) [.ref (ad 0), .int v1] (wX5 ad c9 s_time s_tolerance s_seed s_madeTickets s_cheesesOfText s_R_rows s_R_cells s_U_rows s_U_cells s_S_rows s_S_cells s_T_rows s_T_cells s_E_rows s_E_cells) [] 0 0 o (wX5 ad c9 s_time s_tolerance s_seed s_madeTickets s_cheesesOfText s_R_rows s_R_cells s_U_rows s_U_cells s_S_rows s_S_cells s_T_rows s_T_cells s_E_rows s_E_cells) := by
  refine mI_of hG (cc := cX5_isSkewed) (maxL := 3) (ty := .boolean) (by decide) rfl (Nat.le_of_ble_eq_true rfl) ?_
  intro p e s m args below meth c A X
  have X : vX p s m args meth c cX5_isSkewed 3 (some .boolean) RX5 (wq yX5_isSkewed cX5_isSkewed 3 (some .boolean)) D (tyA c9) G A := X
  refine v_eq (lv2 := [(0, .ref (ad 0)), (1, .int v1)]) rfl rfl rfl rfl ?_
  rw [f_X5_isSkewed] at hf
  refine v_aload_n X dX5_isSkewed_0 0 rfl rfl 1 rfl ?_
  refine v_get X (C := RX5) (T := TX5) (N := 10) (ci := 5) (v := _) dX5_isSkewed_1 (lay_of layc_X5) 0 rfl rfl 3 (by decide) (mw wc_184) rfl rfl 4 rfl ?_
  refine v_iload_n X dX5_isSkewed_4 1 rfl rfl 5 rfl ?_
  refine v_iconst X dX5_isSkewed_5 ic_2 6 rfl ?_
  obtain ⟨o1, ho1, hf⟩ := bnd hf
  refine v_callUi X (ci := 6) (T := TX7) (C := RX7) (owner := "TicketGate$Table") (As := [.int v1, .int 2]) (rest := []) (ws' := (wX5 ad c9 s_time s_tolerance s_seed s_madeTickets s_cheesesOfText s_R_rows s_R_cells s_U_rows s_U_cells s_S_rows s_S_cells s_T_rows s_T_cells s_E_rows s_E_cells)) (c_X6_get l hG D c9 (fun k => ad ([7, 8].getD k 0)) 240 6 RX7 rfl layc_X7 24 10 s_T_rows s_T_cells v1 2 ho1) 2 (gU wc_235 wc_92 wc_93 wc_34 wc_35 wc_36) rfl rfl rfl rfl pd_X6_get_UX5_isSkewed_93 ⟨Nat.le_of_ble_eq_true rfl, Nat.le_of_ble_eq_true rfl⟩ 7 rfl rfl rfl rfl (Nat.le_of_ble_eq_true rfl) ⟨Nat.zero_le _, Nat.zero_le _⟩ [7, 8] [0, 1, 2, 3, 4, 5, 6, 9, 10] [0, 1, 2, 3, 4, 5, 6, 9, 10, 7, 8] rfl rfl rfl rfl dX5_isSkewed_6 9 rfl ?_
  refine v_istore_n X (lv' := [(2, .int o1), (0, .ref (ad 0)), (1, .int v1)]) dX5_isSkewed_9 rfl (by decide) rfl 10 rfl ?_
  refine v_aload_n X dX5_isSkewed_10 1 rfl rfl 11 rfl ?_
  refine v_iload_n X dX5_isSkewed_11 0 rfl rfl 12 rfl ?_
  refine v_aload_n X dX5_isSkewed_12 1 rfl rfl 13 rfl ?_
  refine v_get X (C := RX5) (T := TX5) (N := 10) (ci := 5) (v := _) dX5_isSkewed_13 (lay_of layc_X5) 0 rfl rfl 3 (by decide) (mw wc_184) rfl rfl 16 rfl ?_
  refine v_iload_n X dX5_isSkewed_16 2 rfl rfl 17 rfl ?_
  refine v_iconst X dX5_isSkewed_17 ic_3 18 rfl ?_
  obtain ⟨o2, ho2, hf⟩ := bnd hf
  refine v_callUi X (ci := 6) (T := TX7) (C := RX7) (owner := "TicketGate$Table") (As := [.int v1, .int 3]) (rest := [.int o1, .ref (ad 0)]) (ws' := (wX5 ad c9 s_time s_tolerance s_seed s_madeTickets s_cheesesOfText s_R_rows s_R_cells s_U_rows s_U_cells s_S_rows s_S_cells s_T_rows s_T_cells s_E_rows s_E_cells)) (c_X6_get l hG D c9 (fun k => ad ([7, 8].getD k 0)) 240 6 RX7 rfl layc_X7 24 10 s_T_rows s_T_cells v1 3 ho2) 2 (gU wc_235 wc_92 wc_93 wc_34 wc_35 wc_36) rfl rfl rfl rfl pd_X6_get_UX5_isSkewed_93 ⟨Nat.le_of_ble_eq_true rfl, Nat.le_of_ble_eq_true rfl⟩ 7 rfl rfl rfl rfl (Nat.le_of_ble_eq_true rfl) ⟨Nat.zero_le _, Nat.zero_le _⟩ [7, 8] [0, 1, 2, 3, 4, 5, 6, 9, 10] [0, 1, 2, 3, 4, 5, 6, 9, 10, 7, 8] rfl rfl rfl rfl dX5_isSkewed_18 21 rfl ?_
  obtain ⟨o3, ho3, hf⟩ := bnd hf
  refine v_callVi X (ci := 5) (T := TX5) (C := RX5) (As := [.int o1, .int o2]) (rest := []) (ws' := (wX5 ad c9 s_time s_tolerance s_seed s_madeTickets s_cheesesOfText s_R_rows s_R_cells s_U_rows s_U_cells s_S_rows s_S_cells s_T_rows s_T_cells s_E_rows s_E_cells)) (c_X5_skewOf l hG D c9 ad s_time s_tolerance s_seed s_madeTickets s_cheesesOfText s_R_rows s_R_cells s_U_rows s_U_cells s_S_rows s_S_cells s_T_rows s_T_cells s_E_rows s_E_cells o1 o2 ho3) 2 (gV wc_236 wc_237 wc_238 wc_239 wc_240) rfl rfl rfl ⟨rfl, pd_X5_skewOf⟩ ⟨Nat.le_of_ble_eq_true rfl, Nat.le_of_ble_eq_true rfl⟩ 0 rfl rfl rfl rfl (Nat.le_of_ble_eq_true rfl) ⟨Nat.zero_le _, Nat.zero_le _⟩ [0, 1, 2, 3, 4, 5, 6, 7, 8, 9, 10] [] [0, 1, 2, 3, 4, 5, 6, 7, 8, 9, 10] rfl rfl rfl rfl dX5_isSkewed_21 24 rfl ?_
  refine v_aload_n X dX5_isSkewed_24 1 rfl rfl 25 rfl ?_
  refine v_get X (C := RX5) (T := TX5) (N := 10) (ci := 5) (v := _) dX5_isSkewed_25 (lay_of layc_X5) 0 rfl rfl 6 (by decide) (mw wc_193) rfl rfl 28 rfl ?_
  refine v_icmp_le X (tgt := 35) dX5_isSkewed_28 rfl 31 rfl hf (fun hf => ?_) (fun hf => ?_)
  · refine v_iconst X dX5_isSkewed_35 ic_0 36 rfl ?_
    obtain rfl := Option.some.inj hf
    exact v_zret X (Nat.zero_le _) (Nat.zero_le _) nz0 dX5_isSkewed_36
  · refine v_iconst X dX5_isSkewed_31 ic_1 32 rfl ?_
    refine v_goto X (tgt := 36) dX5_isSkewed_32 rfl ?_
    obtain rfl := Option.some.inj hf
    exact v_zret X (Nat.zero_le _) (Nat.zero_le _) nz1 dX5_isSkewed_36
theorem pd_X5_isSkewed : yX5_isSkewed.cls ≠ "java/lang/invoke/MethodHandle" ∧ yX5_isSkewed.cls ≠ "java/lang/invoke/VarHandle" ∧ (parseMethodDescriptor yX5_isSkewed.desc).map (fun d => d.parameters.length) = some 1 := by decide +kernel
theorem pd_X6_get_UX5_whyNoLogin_83 : "TicketGate$Table" ≠ "java/lang/invoke/MethodHandle" ∧ "TicketGate$Table" ≠ "java/lang/invoke/VarHandle" ∧ (parseMethodDescriptor "(II)I").map (fun d => d.parameters.length) = some 2 := by decide +kernel
theorem pd_X6_isFull_UX5_whyNoLogin_97 : "TicketGate$Table" ≠ "java/lang/invoke/MethodHandle" ∧ "TicketGate$Table" ≠ "java/lang/invoke/VarHandle" ∧ (parseMethodDescriptor "()Z").map (fun d => d.parameters.length) = some 0 := by decide +kernel
def f_X5_whyNoLogin (s_tolerance : Int32) (s_R_rows : Int32) (s_R_cells : Nat → Int32) (s_U_rows : Int32) (s_U_cells : Nat → Int32) (s_T_rows : Int32) (v1 : Int32) (v2 : Int32) : Option (Int32) :=
  (f_X6_get 30 5 s_U_rows s_U_cells v1 2).bind fun o1 =>
  if o1 = v2 then (
    (f_X6_get 30 5 s_U_rows s_U_cells v1 1).bind fun o2 =>
    (f_X5_skewOf s_R_rows s_R_cells s_U_rows s_U_cells v1 o2).bind fun o3 =>
    if o3 ≤ s_tolerance then (
      (f_X6_isFull 240 24 s_T_rows).bind fun o4 =>
      if o4 = 0 then (
        some (0))
      else (
        some (3)))
    else (
      some (2)))
  else (
    some (1))
set_option maxRecDepth 100000 in
set_option maxHeartbeats 4000000 in
theorem c_X5_whyNoLogin (l : Launch) {G : (Nat → Prop) → State → Heap → Prop} (hG : vG G) (D : va_G) (c9 : Nat → ClassId) (ad : Nat → Nat) (s_time : Int32) (s_tolerance : Int32) (s_seed : Int32) (s_madeTickets : Int32) (s_cheesesOfText : Int32) (s_R_rows : Int32) (s_R_cells : Nat → Int32) (s_U_rows : Int32) (s_U_cells : Nat → Int32) (s_S_rows : Int32) (s_S_cells : Nat → Int32) (s_T_rows : Int32) (s_T_cells : Nat → Int32) (s_E_rows : Int32) (s_E_cells : Nat → Int32) (v1 : Int32) (v2 : Int32) {o : Int32} (hf : f_X5_whyNoLogin s_tolerance s_R_rows s_R_cells s_U_rows s_U_cells s_T_rows v1 v2 = some o) : mI l yX5_whyNoLogin (wq yX5_whyNoLogin cX5_whyNoLogin 3 (some .int)) { frames := 2, cells := 0, slots := 0, locals := 62 } G D (tyA c9) [.ref (ad 0), .int v1, .int v2] (wX5 ad c9 s_time s_tolerance s_seed s_madeTickets s_cheesesOfText s_R_rows s_R_cells s_U_rows s_U_cells s_S_rows s_S_cells s_T_rows s_T_cells s_E_rows s_E_cells) [] 0 0 o (wX5 ad c9 s_time s_tolerance s_seed s_madeTickets s_cheesesOfText s_R_rows s_R_cells s_U_rows s_U_cells s_S_rows s_S_cells s_T_rows s_T_cells s_E_rows s_E_cells) := by
  refine mI_of hG (cc := cX5_whyNoLogin) (maxL := 3) (ty := .int) (by decide) rfl (Nat.le_of_ble_eq_true rfl) ?_
  intro p e s m args below meth c A X
  have X : vX p s m args meth c cX5_whyNoLogin 3 (some .int) RX5 (wq yX5_whyNoLogin cX5_whyNoLogin 3 (some .int)) D (tyA c9) G A := X
  refine v_eq (lv2 := [(0, .ref (ad 0)), (1, .int v1), (2, .int v2)]) rfl rfl rfl rfl ?_
  rw [f_X5_whyNoLogin] at hf
  refine v_aload_n X dX5_whyNoLogin_0 0 rfl rfl 1 rfl ?_
  refine v_get X (C := RX5) (T := TX5) (N := 10) (ci := 5) (v := _) dX5_whyNoLogin_1 (lay_of layc_X5) 0 rfl rfl 1 (by decide) (mw wc_176) rfl rfl 4 rfl ?_
  refine v_iload_n X dX5_whyNoLogin_4 1 rfl rfl 5 rfl ?_
  refine v_iconst X dX5_whyNoLogin_5 ic_2 6 rfl ?_
  obtain ⟨o1, ho1, hf⟩ := bnd hf
  refine v_callUi X (ci := 7) (T := TX8) (C := RX8) (owner := "TicketGate$Table") (As := [.int v1, .int 2]) (rest := []) (ws' := (wX5 ad c9 s_time s_tolerance s_seed s_madeTickets s_cheesesOfText s_R_rows s_R_cells s_U_rows s_U_cells s_S_rows s_S_cells s_T_rows s_T_cells s_E_rows s_E_cells)) (c_X6_get l hG D c9 (fun k => ad ([3, 4].getD k 0)) 30 7 RX8 rfl layc_X8 6 5 s_U_rows s_U_cells v1 2 ho1) 2 (gU wc_228 wc_229 wc_230 wc_34 wc_35 wc_36) rfl rfl rfl rfl pd_X6_get_UX5_whyNoLogin_83 ⟨Nat.le_of_ble_eq_true rfl, Nat.le_of_ble_eq_true rfl⟩ 3 rfl rfl rfl rfl (Nat.le_of_ble_eq_true rfl) ⟨Nat.zero_le _, Nat.zero_le _⟩ [3, 4] [0, 1, 2, 5, 6, 7, 8, 9, 10] [0, 1, 2, 9, 10, 3, 4, 5, 6, 7, 8] rfl rfl rfl rfl dX5_whyNoLogin_6 9 rfl ?_
  refine v_iload_n X dX5_whyNoLogin_9 2 rfl rfl 10 rfl ?_
  refine v_icmp_eq X (tgt := 15) dX5_whyNoLogin_10 rfl 13 rfl hf (fun hf => ?_) (fun hf => ?_)
  · refine v_aload_n X dX5_whyNoLogin_15 0 rfl rfl 16 rfl ?_
    refine v_iload_n X dX5_whyNoLogin_16 1 rfl rfl 17 rfl ?_
    refine v_aload_n X dX5_whyNoLogin_17 0 rfl rfl 18 rfl ?_
    refine v_get X (C := RX5) (T := TX5) (N := 10) (ci := 5) (v := _) dX5_whyNoLogin_18 (lay_of layc_X5) 0 rfl rfl 1 (by decide) (mw wc_176) rfl rfl 21 rfl ?_
    refine v_iload_n X dX5_whyNoLogin_21 1 rfl rfl 22 rfl ?_
    refine v_iconst X dX5_whyNoLogin_22 ic_1 23 rfl ?_
    obtain ⟨o2, ho2, hf⟩ := bnd hf
    refine v_callUi X (ci := 7) (T := TX8) (C := RX8) (owner := "TicketGate$Table") (As := [.int v1, .int 1]) (rest := [.int v1, .ref (ad 0)]) (ws' := (wX5 ad c9 s_time s_tolerance s_seed s_madeTickets s_cheesesOfText s_R_rows s_R_cells s_U_rows s_U_cells s_S_rows s_S_cells s_T_rows s_T_cells s_E_rows s_E_cells)) (c_X6_get l hG D c9 (fun k => ad ([3, 4].getD k 0)) 30 7 RX8 rfl layc_X8 6 5 s_U_rows s_U_cells v1 1 ho2) 2 (gU wc_228 wc_229 wc_230 wc_34 wc_35 wc_36) rfl rfl rfl rfl pd_X6_get_UX5_whyNoLogin_83 ⟨Nat.le_of_ble_eq_true rfl, Nat.le_of_ble_eq_true rfl⟩ 3 rfl rfl rfl rfl (Nat.le_of_ble_eq_true rfl) ⟨Nat.zero_le _, Nat.zero_le _⟩ [3, 4] [0, 1, 2, 5, 6, 7, 8, 9, 10] [0, 1, 2, 9, 10, 3, 4, 5, 6, 7, 8] rfl rfl rfl rfl dX5_whyNoLogin_23 26 rfl ?_
    obtain ⟨o3, ho3, hf⟩ := bnd hf
    refine v_callVi X (ci := 5) (T := TX5) (C := RX5) (As := [.int v1, .int o2]) (rest := []) (ws' := (wX5 ad c9 s_time s_tolerance s_seed s_madeTickets s_cheesesOfText s_R_rows s_R_cells s_U_rows s_U_cells s_S_rows s_S_cells s_T_rows s_T_cells s_E_rows s_E_cells)) (c_X5_skewOf l hG D c9 ad s_time s_tolerance s_seed s_madeTickets s_cheesesOfText s_R_rows s_R_cells s_U_rows s_U_cells s_S_rows s_S_cells s_T_rows s_T_cells s_E_rows s_E_cells v1 o2 ho3) 2 (gV wc_236 wc_237 wc_238 wc_239 wc_240) rfl rfl rfl ⟨rfl, pd_X5_skewOf⟩ ⟨Nat.le_of_ble_eq_true rfl, Nat.le_of_ble_eq_true rfl⟩ 0 rfl rfl rfl rfl (Nat.le_of_ble_eq_true rfl) ⟨Nat.zero_le _, Nat.zero_le _⟩ [0, 1, 2, 3, 4, 5, 6, 7, 8, 9, 10] [] [0, 1, 2, 3, 4, 5, 6, 7, 8, 9, 10] rfl rfl rfl rfl dX5_whyNoLogin_26 29 rfl ?_
    refine v_aload_n X dX5_whyNoLogin_29 0 rfl rfl 30 rfl ?_
    refine v_get X (C := RX5) (T := TX5) (N := 10) (ci := 5) (v := _) dX5_whyNoLogin_30 (lay_of layc_X5) 0 rfl rfl 6 (by decide) (mw wc_193) rfl rfl 33 rfl ?_
    refine v_icmp_le X (tgt := 38) dX5_whyNoLogin_33 rfl 36 rfl hf (fun hf => ?_) (fun hf => ?_)
    · refine v_aload_n X dX5_whyNoLogin_38 0 rfl rfl 39 rfl ?_
      refine v_get X (C := RX5) (T := TX5) (N := 10) (ci := 5) (v := _) dX5_whyNoLogin_39 (lay_of layc_X5) 0 rfl rfl 3 (by decide) (mw wc_184) rfl rfl 42 rfl ?_
      obtain ⟨o4, ho4, hf⟩ := bnd hf
      refine v_callUi X (ci := 6) (T := TX7) (C := RX7) (owner := "TicketGate$Table") (As := []) (rest := []) (ws' := (wX5 ad c9 s_time s_tolerance s_seed s_madeTickets s_cheesesOfText s_R_rows s_R_cells s_U_rows s_U_cells s_S_rows s_S_cells s_T_rows s_T_cells s_E_rows s_E_cells)) (c_X6_isFull l hG D c9 (fun k => ad ([7, 8].getD k 0)) 240 6 RX7 rfl layc_X7 24 10 s_T_rows s_T_cells ho4) 0 (gU wc_241 wc_242 wc_243 wc_124 wc_35 wc_125) rfl rfl rfl rfl pd_X6_isFull_UX5_whyNoLogin_97 ⟨Nat.le_of_ble_eq_true rfl, Nat.le_of_ble_eq_true rfl⟩ 7 rfl rfl rfl rfl (Nat.le_of_ble_eq_true rfl) ⟨Nat.zero_le _, Nat.zero_le _⟩ [7, 8] [0, 1, 2, 3, 4, 5, 6, 9, 10] [0, 1, 2, 3, 4, 5, 6, 9, 10, 7, 8] rfl rfl rfl rfl dX5_whyNoLogin_42 45 rfl ?_
      refine v_if_eq X (tgt := 52) dX5_whyNoLogin_45 rfl 48 rfl hf (fun hf => ?_) (fun hf => ?_)
      · refine v_iconst X dX5_whyNoLogin_52 ic_0 53 rfl ?_
        obtain rfl := Option.some.inj hf
        exact v_iret X (Nat.zero_le _) (Nat.zero_le _) dX5_whyNoLogin_53
      · refine v_iconst X dX5_whyNoLogin_48 ic_3 49 rfl ?_
        refine v_goto X (tgt := 53) dX5_whyNoLogin_49 rfl ?_
        obtain rfl := Option.some.inj hf
        exact v_iret X (Nat.zero_le _) (Nat.zero_le _) dX5_whyNoLogin_53
    · refine v_iconst X dX5_whyNoLogin_36 ic_2 37 rfl ?_
      obtain rfl := Option.some.inj hf
      exact v_iret X (Nat.zero_le _) (Nat.zero_le _) dX5_whyNoLogin_37
  · refine v_iconst X dX5_whyNoLogin_13 ic_1 14 rfl ?_
    obtain rfl := Option.some.inj hf
    exact v_iret X (Nat.zero_le _) (Nat.zero_le _) dX5_whyNoLogin_14
theorem pd_X5_whyNoLogin : yX5_whyNoLogin.cls ≠ "java/lang/invoke/MethodHandle" ∧ yX5_whyNoLogin.cls ≠ "java/lang/invoke/VarHandle" ∧ (parseMethodDescriptor yX5_whyNoLogin.desc).map (fun d => d.parameters.length) = some 2 := by decide +kernel
theorem pd_X6_get_UX5_whyNoReferral_93 : "TicketGate$Table" ≠ "java/lang/invoke/MethodHandle" ∧ "TicketGate$Table" ≠ "java/lang/invoke/VarHandle" ∧ (parseMethodDescriptor "(II)I").map (fun d => d.parameters.length) = some 2 := by decide +kernel
theorem pd_X6_isFull_UX5_whyNoReferral_97 : "TicketGate$Table" ≠ "java/lang/invoke/MethodHandle" ∧ "TicketGate$Table" ≠ "java/lang/invoke/VarHandle" ∧ (parseMethodDescriptor "()Z").map (fun d => d.parameters.length) = some 0 := by decide +kernel
def f_X5_whyNoReferral (s_time : Int32) (s_tolerance : Int32) (s_R_rows : Int32) (s_R_cells : Nat → Int32) (s_U_rows : Int32) (s_U_cells : Nat → Int32) (s_T_rows : Int32) (s_T_cells : Nat → Int32) (v1 : Int32) (v2 : Int32) : Option (Int32) :=
  (f_X6_get 240 10 s_T_rows s_T_cells v1 1).bind fun o1 =>
  if o1 = 0 then (
    (f_X7_isAlive s_T_rows s_T_cells v1 s_time).bind fun o2 =>
    if o2 = 0 then (
      some (2))
    else (
      (f_X6_get 240 10 s_T_rows s_T_cells v1 3).bind fun o3 =>
      (f_X2_hasTrust s_R_rows s_R_cells o3 v2).bind fun o4 =>
      if o4 = 0 then (
        some (3))
      else (
        (f_X5_isSkewed s_tolerance s_R_rows s_R_cells s_U_rows s_U_cells s_T_rows s_T_cells v1).bind fun o5 =>
        if o5 = 0 then (
          (f_X6_isFull 240 24 s_T_rows).bind fun o6 =>
          if o6 = 0 then (
            some (0))
          else (
            some (5)))
        else (
          some (4)))))
  else (
    some (1))
set_option maxRecDepth 100000 in
set_option maxHeartbeats 4000000 in
theorem c_X5_whyNoReferral (l : Launch) {G : (Nat → Prop) → State → Heap → Prop} (hG : vG G) (D : va_G) (c9 : Nat → ClassId) (ad : Nat → Nat) (s_time : Int32) (s_tolerance : Int32) (s_seed : Int32) (s_madeTickets : Int32) (s_cheesesOfText : Int32) (s_R_rows : Int32) (s_R_cells : Nat → Int32) (s_U_rows : Int32) (s_U_cells : Nat → Int32) (s_S_rows : Int32) (s_S_cells : Nat → Int32) (s_T_rows : Int32) (s_T_cells : Nat → Int32) (s_E_rows : Int32) (s_E_cells : Nat → Int32) (v1 : Int32) (v2 : Int32) {o : Int32} (hf : f_X5_whyNoReferral s_time s_tolerance s_R_rows s_R_cells s_U_rows s_U_cells s_T_rows s_T_cells v1 v2 = some o) : mI l yX5_whyNoReferral (wq yX5_whyNoReferral cX5_whyNoReferral 3 (some .int)) { frames := 3, cells := 0, slots := 0, locals := 84 } G D (tyA c9) [.ref (ad 0), .int v1, .int v2] (wX5 ad c9 s_time s_tolerance s_seed s_madeTickets s_cheesesOfText s_R_rows s_R_cells s_U_rows s_U_cells s_S_rows s_S_cells s_T_rows s_T_cells s_E_rows s_E_cells) [] 0 0 o (wX5 ad c9 s_time s_tolerance s_seed s_madeTickets s_cheesesOfText s_R_rows s_R_cells s_U_rows s_U_cells s_S_rows s_S_cells s_T_rows s_T_cells s_E_rows s_E_cells) := by
  refine mI_of hG (cc := cX5_whyNoReferral) (maxL := 3) (ty := .int) (by decide) rfl (Nat.le_of_ble_eq_true rfl) ?_
  intro p e s m args below meth c A X
  have X : vX p s m args meth c cX5_whyNoReferral 3 (some .int) RX5 (wq yX5_whyNoReferral cX5_whyNoReferral 3 (some .int)) D (tyA c9) G A := X
  refine v_eq (lv2 := [(0, .ref (ad 0)), (1, .int v1), (2, .int v2)]) rfl rfl rfl rfl ?_
  rw [f_X5_whyNoReferral] at hf
  refine v_aload_n X dX5_whyNoReferral_0 0 rfl rfl 1 rfl ?_
  refine v_get X (C := RX5) (T := TX5) (N := 10) (ci := 5) (v := _) dX5_whyNoReferral_1 (lay_of layc_X5) 0 rfl rfl 3 (by decide) (mw wc_184) rfl rfl 4 rfl ?_
  refine v_iload_n X dX5_whyNoReferral_4 1 rfl rfl 5 rfl ?_
  refine v_iconst X dX5_whyNoReferral_5 ic_1 6 rfl ?_
  obtain ⟨o1, ho1, hf⟩ := bnd hf
  refine v_callUi X (ci := 6) (T := TX7) (C := RX7) (owner := "TicketGate$Table") (As := [.int v1, .int 1]) (rest := []) (ws' := (wX5 ad c9 s_time s_tolerance s_seed s_madeTickets s_cheesesOfText s_R_rows s_R_cells s_U_rows s_U_cells s_S_rows s_S_cells s_T_rows s_T_cells s_E_rows s_E_cells)) (c_X6_get l hG D c9 (fun k => ad ([7, 8].getD k 0)) 240 6 RX7 rfl layc_X7 24 10 s_T_rows s_T_cells v1 1 ho1) 2 (gU wc_235 wc_92 wc_93 wc_34 wc_35 wc_36) rfl rfl rfl rfl pd_X6_get_UX5_whyNoReferral_93 ⟨Nat.le_of_ble_eq_true rfl, Nat.le_of_ble_eq_true rfl⟩ 7 rfl rfl rfl rfl (Nat.le_of_ble_eq_true rfl) ⟨Nat.zero_le _, Nat.zero_le _⟩ [7, 8] [0, 1, 2, 3, 4, 5, 6, 9, 10] [0, 1, 2, 3, 4, 5, 6, 9, 10, 7, 8] rfl rfl rfl rfl dX5_whyNoReferral_6 9 rfl ?_
  refine v_if_eq X (tgt := 14) dX5_whyNoReferral_9 rfl 12 rfl hf (fun hf => ?_) (fun hf => ?_)
  · refine v_aload_n X dX5_whyNoReferral_14 0 rfl rfl 15 rfl ?_
    refine v_get X (C := RX5) (T := TX5) (N := 10) (ci := 5) (v := _) dX5_whyNoReferral_15 (lay_of layc_X5) 0 rfl rfl 3 (by decide) (mw wc_184) rfl rfl 18 rfl ?_
    refine v_iload_n X dX5_whyNoReferral_18 1 rfl rfl 19 rfl ?_
    refine v_aload_n X dX5_whyNoReferral_19 0 rfl rfl 20 rfl ?_
    refine v_get X (C := RX5) (T := TX5) (N := 10) (ci := 5) (v := _) dX5_whyNoReferral_20 (lay_of layc_X5) 0 rfl rfl 5 (by decide) (mw wc_192) rfl rfl 23 rfl ?_
    obtain ⟨o2, ho2, hf⟩ := bnd hf
    refine v_callVi X (ci := 6) (T := TX7) (C := RX7) (As := [.int v1, .int s_time]) (rest := []) (ws' := (wX5 ad c9 s_time s_tolerance s_seed s_madeTickets s_cheesesOfText s_R_rows s_R_cells s_U_rows s_U_cells s_S_rows s_S_cells s_T_rows s_T_cells s_E_rows s_E_cells)) (c_X7_isAlive l hG D c9 (fun k => ad ([7, 8].getD k 0)) s_T_rows s_T_cells v1 s_time ho2) 2 (gV wc_244 wc_98 wc_99 wc_100 wc_101) rfl rfl rfl ⟨rfl, pd_X7_isAlive⟩ ⟨Nat.le_of_ble_eq_true rfl, Nat.le_of_ble_eq_true rfl⟩ 7 rfl rfl rfl rfl (Nat.le_of_ble_eq_true rfl) ⟨Nat.zero_le _, Nat.zero_le _⟩ [7, 8] [0, 1, 2, 3, 4, 5, 6, 9, 10] [0, 1, 2, 3, 4, 5, 6, 9, 10, 7, 8] rfl rfl rfl rfl dX5_whyNoReferral_23 26 rfl ?_
    refine v_if_ne X (tgt := 31) dX5_whyNoReferral_26 rfl 29 rfl hf (fun hf => ?_) (fun hf => ?_)
    · refine v_aload_n X dX5_whyNoReferral_31 0 rfl rfl 32 rfl ?_
      refine v_get X (C := RX5) (T := TX5) (N := 10) (ci := 5) (v := _) dX5_whyNoReferral_32 (lay_of layc_X5) 0 rfl rfl 0 (by decide) (mw wc_170) rfl rfl 35 rfl ?_
      refine v_aload_n X dX5_whyNoReferral_35 0 rfl rfl 36 rfl ?_
      refine v_get X (C := RX5) (T := TX5) (N := 10) (ci := 5) (v := _) dX5_whyNoReferral_36 (lay_of layc_X5) 0 rfl rfl 3 (by decide) (mw wc_184) rfl rfl 39 rfl ?_
      refine v_iload_n X dX5_whyNoReferral_39 1 rfl rfl 40 rfl ?_
      refine v_iconst X dX5_whyNoReferral_40 ic_3 41 rfl ?_
      obtain ⟨o3, ho3, hf⟩ := bnd hf
      refine v_callUi X (ci := 6) (T := TX7) (C := RX7) (owner := "TicketGate$Table") (As := [.int v1, .int 3]) (rest := [.ref (ad 1)]) (ws' := (wX5 ad c9 s_time s_tolerance s_seed s_madeTickets s_cheesesOfText s_R_rows s_R_cells s_U_rows s_U_cells s_S_rows s_S_cells s_T_rows s_T_cells s_E_rows s_E_cells)) (c_X6_get l hG D c9 (fun k => ad ([7, 8].getD k 0)) 240 6 RX7 rfl layc_X7 24 10 s_T_rows s_T_cells v1 3 ho3) 2 (gU wc_235 wc_92 wc_93 wc_34 wc_35 wc_36) rfl rfl rfl rfl pd_X6_get_UX5_whyNoReferral_93 ⟨Nat.le_of_ble_eq_true rfl, Nat.le_of_ble_eq_true rfl⟩ 7 rfl rfl rfl rfl (Nat.le_of_ble_eq_true rfl) ⟨Nat.zero_le _, Nat.zero_le _⟩ [7, 8] [0, 1, 2, 3, 4, 5, 6, 9, 10] [0, 1, 2, 3, 4, 5, 6, 9, 10, 7, 8] rfl rfl rfl rfl dX5_whyNoReferral_41 44 rfl ?_
      refine v_iload_n X dX5_whyNoReferral_44 2 rfl rfl 45 rfl ?_
      obtain ⟨o4, ho4, hf⟩ := bnd hf
      refine v_callVi X (ci := 2) (T := TX2) (C := RX2) (As := [.int o3, .int v2]) (rest := []) (ws' := (wX5 ad c9 s_time s_tolerance s_seed s_madeTickets s_cheesesOfText s_R_rows s_R_cells s_U_rows s_U_cells s_S_rows s_S_cells s_T_rows s_T_cells s_E_rows s_E_cells)) (c_X2_hasTrust l hG D c9 (fun k => ad ([1, 2].getD k 0)) s_R_rows s_R_cells o3 v2 ho4) 2 (gV wc_245 wc_74 wc_75 wc_67 wc_76) rfl rfl rfl ⟨rfl, pd_X2_hasTrust⟩ ⟨Nat.le_of_ble_eq_true rfl, Nat.le_of_ble_eq_true rfl⟩ 1 rfl rfl rfl rfl (Nat.le_of_ble_eq_true rfl) ⟨Nat.zero_le _, Nat.zero_le _⟩ [1, 2] [0, 3, 4, 5, 6, 7, 8, 9, 10] [0, 9, 10, 1, 2, 3, 4, 5, 6, 7, 8] rfl rfl rfl rfl dX5_whyNoReferral_45 48 rfl ?_
      refine v_if_ne X (tgt := 53) dX5_whyNoReferral_48 rfl 51 rfl hf (fun hf => ?_) (fun hf => ?_)
      · refine v_aload_n X dX5_whyNoReferral_53 0 rfl rfl 54 rfl ?_
        refine v_iload_n X dX5_whyNoReferral_54 1 rfl rfl 55 rfl ?_
        obtain ⟨o5, ho5, hf⟩ := bnd hf
        refine v_callVi X (ci := 5) (T := TX5) (C := RX5) (As := [.int v1]) (rest := []) (ws' := (wX5 ad c9 s_time s_tolerance s_seed s_madeTickets s_cheesesOfText s_R_rows s_R_cells s_U_rows s_U_cells s_S_rows s_S_cells s_T_rows s_T_cells s_E_rows s_E_cells)) (c_X5_isSkewed l hG D c9 ad s_time s_tolerance s_seed s_madeTickets s_cheesesOfText s_R_rows s_R_cells s_U_rows s_U_cells s_S_rows s_S_cells s_T_rows s_T_cells s_E_rows s_E_cells v1 ho5) 1 (gV wc_246 wc_247 wc_248 wc_239 wc_249) rfl rfl rfl ⟨rfl, pd_X5_isSkewed⟩ ⟨Nat.le_of_ble_eq_true rfl, Nat.le_of_ble_eq_true rfl⟩ 0 rfl rfl rfl rfl (Nat.le_of_ble_eq_true rfl) ⟨Nat.zero_le _, Nat.zero_le _⟩ [0, 1, 2, 3, 4, 5, 6, 7, 8, 9, 10] [] [0, 1, 2, 3, 4, 5, 6, 7, 8, 9, 10] rfl rfl rfl rfl dX5_whyNoReferral_55 58 rfl ?_
        refine v_if_eq X (tgt := 63) dX5_whyNoReferral_58 rfl 61 rfl hf (fun hf => ?_) (fun hf => ?_)
        · refine v_aload_n X dX5_whyNoReferral_63 0 rfl rfl 64 rfl ?_
          refine v_get X (C := RX5) (T := TX5) (N := 10) (ci := 5) (v := _) dX5_whyNoReferral_64 (lay_of layc_X5) 0 rfl rfl 3 (by decide) (mw wc_184) rfl rfl 67 rfl ?_
          obtain ⟨o6, ho6, hf⟩ := bnd hf
          refine v_callUi X (ci := 6) (T := TX7) (C := RX7) (owner := "TicketGate$Table") (As := []) (rest := []) (ws' := (wX5 ad c9 s_time s_tolerance s_seed s_madeTickets s_cheesesOfText s_R_rows s_R_cells s_U_rows s_U_cells s_S_rows s_S_cells s_T_rows s_T_cells s_E_rows s_E_cells)) (c_X6_isFull l hG D c9 (fun k => ad ([7, 8].getD k 0)) 240 6 RX7 rfl layc_X7 24 10 s_T_rows s_T_cells ho6) 0 (gU wc_241 wc_242 wc_243 wc_124 wc_35 wc_125) rfl rfl rfl rfl pd_X6_isFull_UX5_whyNoReferral_97 ⟨Nat.le_of_ble_eq_true rfl, Nat.le_of_ble_eq_true rfl⟩ 7 rfl rfl rfl rfl (Nat.le_of_ble_eq_true rfl) ⟨Nat.zero_le _, Nat.zero_le _⟩ [7, 8] [0, 1, 2, 3, 4, 5, 6, 9, 10] [0, 1, 2, 3, 4, 5, 6, 9, 10, 7, 8] rfl rfl rfl rfl dX5_whyNoReferral_67 70 rfl ?_
          refine v_if_eq X (tgt := 77) dX5_whyNoReferral_70 rfl 73 rfl hf (fun hf => ?_) (fun hf => ?_)
          · refine v_iconst X dX5_whyNoReferral_77 ic_0 78 rfl ?_
            obtain rfl := Option.some.inj hf
            exact v_iret X (Nat.zero_le _) (Nat.zero_le _) dX5_whyNoReferral_78
          · refine v_iconst X dX5_whyNoReferral_73 ic_5 74 rfl ?_
            refine v_goto X (tgt := 78) dX5_whyNoReferral_74 rfl ?_
            obtain rfl := Option.some.inj hf
            exact v_iret X (Nat.zero_le _) (Nat.zero_le _) dX5_whyNoReferral_78
        · refine v_iconst X dX5_whyNoReferral_61 ic_4 62 rfl ?_
          obtain rfl := Option.some.inj hf
          exact v_iret X (Nat.zero_le _) (Nat.zero_le _) dX5_whyNoReferral_62
      · refine v_iconst X dX5_whyNoReferral_51 ic_3 52 rfl ?_
        obtain rfl := Option.some.inj hf
        exact v_iret X (Nat.zero_le _) (Nat.zero_le _) dX5_whyNoReferral_52
    · refine v_iconst X dX5_whyNoReferral_29 ic_2 30 rfl ?_
      obtain rfl := Option.some.inj hf
      exact v_iret X (Nat.zero_le _) (Nat.zero_le _) dX5_whyNoReferral_30
  · refine v_iconst X dX5_whyNoReferral_12 ic_1 13 rfl ?_
    obtain rfl := Option.some.inj hf
    exact v_iret X (Nat.zero_le _) (Nat.zero_le _) dX5_whyNoReferral_13
theorem pd_X5_whyNoReferral : yX5_whyNoReferral.cls ≠ "java/lang/invoke/MethodHandle" ∧ yX5_whyNoReferral.cls ≠ "java/lang/invoke/VarHandle" ∧ (parseMethodDescriptor yX5_whyNoReferral.desc).map (fun d => d.parameters.length) = some 2 := by decide +kernel
