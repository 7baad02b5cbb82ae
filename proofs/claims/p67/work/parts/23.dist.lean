/-! The realms' distances, counted twice. -/
section VD
variable {p : Program} {l : Launch} {e : Env} {R : Room} {s : State} {m : MethodId} {args : Array Value} {below : List Frame} {meth : Method} {c : Code} {cc : ByteArray} {nL : Nat} {ret : Option FieldType} {own : String} {Ts : List Cond} {D : va_G} {tys : List (ClassId × FieldType)} {G : (Nat → Prop) → State → Heap → Prop} {A : Nat → Prop} {F : va_W} {cells slots : Nat} {Q : State → Prop} {ws : va_W} {pc : Nat} {lv : List (Nat × Value)} {st : List Value}
theorem v_iretD {mc ms : Nat} {r : Int32} {dr : va_W} (X : vX p s m args meth c cc nL (some .int) own Ts D tys G A) (hc : cells ≤ mc) (hs : slots ≤ ms) (d : decode cc pc = .ok (.ireturn, 1)) : vW p l e R s m args below meth c nL D A F cells slots (MQ below (eI D tys A r (ws ++ F)) args s mc ms A) (ws ++ dr) pc lv [.int r] :=
  fun H locs ls hP hD hS hl => W.widen hc hs (W.iret (v := r) X.1 X.2.1 X.2.2.1 (fun t ht hW => ⟨⟨r, (), rfl, rfl, by rw [ht]; exact va_P_of fun _ hq => va_P_mem hP ((((List.sublist_append_left ws dr).append_right F).mem) hq), va_K.moved hW.alike X.2.2.2.2.2.2.2.1, va_D_iff.mpr ⟨((((List.sublist_append_left ws dr).append_right F).map Prod.fst).nodup) (va_D_iff.mp hD).1, fun q hq => (va_D_iff.mp hD).2 q ((((List.sublist_append_left ws dr).append_right F).mem) hq)⟩⟩, hS.F ht⟩) hS.2.2 d X.2.2.2.2.2.2.1)
end VD
theorem wdst_0 : Cond.methodLink RX2 42 yX10_addDirect ∈ Wg := t4_in (List.mem_of_getElem? (i := 91) rfl) rfl
theorem wdst_1 : Cond.instanceMethod yX10_addDirect ∈ Wg := t4_in (List.mem_of_getElem? (i := 92) rfl) rfl
theorem wdst_2 : Cond.selects RX10 yX10_addDirect yX10_addDirect ∈ Wg := t4_in (List.mem_of_getElem? (i := 93) rfl) rfl
theorem wdst_3 : Cond.initialized RX10 ∈ Wg := t1_in (List.mem_of_getElem? (i := 32) rfl) rfl
theorem wdst_4 : Cond.code yX10_addDirect cX10_addDirect 5 none ∈ Wg := t4_in (List.mem_of_getElem? (i := 94) rfl) rfl
theorem wdst_5 : Cond.laysFinal RX2 "TicketGate$Table" "limit" "I" ∈ Wg := t1_in (List.mem_of_getElem? (i := 84) rfl) rfl
theorem wdst_6 : Cond.laysFinal RX2 "TicketGate$Table" "width" "I" ∈ Wg := t1_in (List.mem_of_getElem? (i := 86) rfl) rfl
theorem wdst_7 : Cond.laysFinal RX2 "TicketGate$Table" "cells" "[I" ∈ Wg := t1_in (List.mem_of_getElem? (i := 88) rfl) rfl
theorem wdst_8 : Cond.lays RX2 "TicketGate$Table" "rows" "I" ∈ Wg := t1_in (List.mem_of_getElem? (i := 90) rfl) rfl
theorem wdst_9 : Cond.methodLink RX2 27 ⟨"TicketGate$Realms", "size", "()I"⟩ ∈ Wg := t4_in (List.mem_of_getElem? (i := 103) rfl) rfl
theorem wdst_10 : Cond.sameMethod "TicketGate$Realms" "TicketGate$Table" "size" "()I" ∈ Wg := t4_in (List.mem_of_getElem? (i := 42) rfl) rfl
theorem wdst_11 : Cond.selects RX2 ⟨"TicketGate$Realms", "size", "()I"⟩ yX6_size ∈ Wg := t4_in (List.mem_of_getElem? (i := 43) rfl) rfl
theorem wdst_12 : Cond.instanceMethod yX6_size ∈ Wg := t3_in (List.mem_of_getElem? (i := 152) rfl) rfl
theorem wdst_13 : Cond.initialized RX6 ∈ Wg := t1_in (List.mem_of_getElem? (i := 6) rfl) rfl
theorem wdst_14 : Cond.code yX6_size cX6_size 1 (some .int) ∈ Wg := t3_in (List.mem_of_getElem? (i := 153) rfl) rfl
theorem wdst_15 : Cond.methodLink RX2 46 yX10_goThrough ∈ Wg := t4_in (List.mem_of_getElem? (i := 104) rfl) rfl
theorem wdst_16 : Cond.instanceMethod yX10_goThrough ∈ Wg := t4_in (List.mem_of_getElem? (i := 105) rfl) rfl
theorem wdst_17 : Cond.selects RX10 yX10_goThrough yX10_goThrough ∈ Wg := t4_in (List.mem_of_getElem? (i := 106) rfl) rfl
theorem wdst_18 : Cond.code yX10_goThrough cX10_goThrough 5 none ∈ Wg := t4_in (List.mem_of_getElem? (i := 107) rfl) rfl
theorem wdst_19 : Cond.methodLink RX2 50 yX10_lengthOf ∈ Wg := t4_in (List.mem_of_getElem? (i := 115) rfl) rfl
theorem wdst_20 : Cond.instanceMethod yX10_lengthOf ∈ Wg := t4_in (List.mem_of_getElem? (i := 116) rfl) rfl
theorem wdst_21 : Cond.selects RX10 yX10_lengthOf yX10_lengthOf ∈ Wg := t4_in (List.mem_of_getElem? (i := 117) rfl) rfl
theorem wdst_22 : Cond.code yX10_lengthOf cX10_lengthOf 4 (some .int) ∈ Wg := t4_in (List.mem_of_getElem? (i := 118) rfl) rfl
theorem wdst_23 : Cond.methodLink RX2 30 yX2_referrals ∈ Wg := t4_in (List.mem_of_getElem? (i := 119) rfl) rfl
theorem wdst_24 : Cond.instanceMethod yX2_referrals ∈ Wg := t4_in (List.mem_of_getElem? (i := 120) rfl) rfl
theorem wdst_25 : Cond.selects RX2 yX2_referrals yX2_referrals ∈ Wg := t4_in (List.mem_of_getElem? (i := 121) rfl) rfl
theorem wdst_26 : Cond.initialized RX2 ∈ Wg := t1_in (List.mem_of_getElem? (i := 7) rfl) rfl
theorem wdst_27 : Cond.code yX2_referrals cX2_referrals 5 (some .int) ∈ Wg := t4_in (List.mem_of_getElem? (i := 122) rfl) rfl
theorem wdst_28 : Cond.laysFinal RX10 "TicketGate$Table" "limit" "I" ∈ Wg := t4_in (List.mem_of_getElem? (i := 86) rfl) rfl
theorem wdst_29 : Cond.laysFinal RX10 "TicketGate$Table" "width" "I" ∈ Wg := t4_in (List.mem_of_getElem? (i := 87) rfl) rfl
theorem wdst_30 : Cond.laysFinal RX10 "TicketGate$Table" "cells" "[I" ∈ Wg := t4_in (List.mem_of_getElem? (i := 88) rfl) rfl
theorem wdst_31 : Cond.lays RX10 "TicketGate$Table" "rows" "I" ∈ Wg := t4_in (List.mem_of_getElem? (i := 89) rfl) rfl
theorem wdst_32 : Cond.classLink RX2 37 RX10 ∈ Wg := t4_in (List.mem_of_getElem? (i := 80) rfl) rfl
theorem wdst_33 : Cond.instantiable RX10 4 ∈ Wg := t4_in (List.mem_of_getElem? (i := 81) rfl) rfl
theorem wdst_34 : Cond.methodLink RX2 39 yX10_init ∈ Wg := t4_in (List.mem_of_getElem? (i := 82) rfl) rfl
theorem wdst_35 : Cond.code yX10_init cX10_init 1 none ∈ Wg := t4_in (List.mem_of_getElem? (i := 84) rfl) rfl
theorem wdst_36 : Cond.instanceMethod yX10_init ∈ Wg := t4_in (List.mem_of_getElem? (i := 83) rfl) rfl
theorem wdst_37 : Cond.laysFinal RX11 "TicketGate" "input" "LTicketGate$Bytes;" ∈ Wg := t4_in (List.mem_of_getElem? (i := 15) rfl) rfl
theorem wdst_38 : Cond.laysFinal RX11 "TicketGate" "output" "LTicketGate$Bytes;" ∈ Wg := t4_in (List.mem_of_getElem? (i := 17) rfl) rfl
theorem wdst_39 : Cond.laysFinal RX11 "TicketGate" "parser" "LTicketGate$Parser;" ∈ Wg := t4_in (List.mem_of_getElem? (i := 19) rfl) rfl
theorem wdst_40 : Cond.laysFinal RX11 "TicketGate" "state" "LTicketGate$State;" ∈ Wg := t4_in (List.mem_of_getElem? (i := 21) rfl) rfl
theorem wdst_41 : Cond.laysFinal RX11 "TicketGate" "slots" "LTicketGate$Shelf;" ∈ Wg := t4_in (List.mem_of_getElem? (i := 23) rfl) rfl
theorem wdst_42 : Cond.laysFinal RX11 "TicketGate" "past" "LTicketGate$Shelf;" ∈ Wg := t4_in (List.mem_of_getElem? (i := 25) rfl) rfl
theorem wdst_43 : Cond.lays RX11 "TicketGate" "nextPast" "I" ∈ Wg := t4_in (List.mem_of_getElem? (i := 27) rfl) rfl
theorem wdst_44 : Cond.lays RX11 "TicketGate" "pastCount" "I" ∈ Wg := t4_in (List.mem_of_getElem? (i := 29) rfl) rfl
theorem wdst_45 : Cond.fieldLink RX11 33 "TicketGate" "state" "LTicketGate$State;" ∈ Wg := t4_in (List.mem_of_getElem? (i := 10) rfl) rfl
theorem wdst_46 : Cond.laysFinal RX5 "TicketGate$State" "realms" "LTicketGate$Realms;" ∈ Wg := t1_in (List.mem_of_getElem? (i := 161) rfl) rfl
theorem wdst_47 : Cond.laysFinal RX5 "TicketGate$State" "users" "LTicketGate$Users;" ∈ Wg := t1_in (List.mem_of_getElem? (i := 163) rfl) rfl
theorem wdst_48 : Cond.laysFinal RX5 "TicketGate$State" "services" "LTicketGate$Services;" ∈ Wg := t1_in (List.mem_of_getElem? (i := 165) rfl) rfl
theorem wdst_49 : Cond.laysFinal RX5 "TicketGate$State" "tickets" "LTicketGate$Tickets;" ∈ Wg := t1_in (List.mem_of_getElem? (i := 167) rfl) rfl
theorem wdst_50 : Cond.laysFinal RX5 "TicketGate$State" "uses" "LTicketGate$Uses;" ∈ Wg := t1_in (List.mem_of_getElem? (i := 169) rfl) rfl
theorem wdst_51 : Cond.lays RX5 "TicketGate$State" "time" "I" ∈ Wg := t1_in (List.mem_of_getElem? (i := 171) rfl) rfl
theorem wdst_52 : Cond.lays RX5 "TicketGate$State" "tolerance" "I" ∈ Wg := t1_in (List.mem_of_getElem? (i := 173) rfl) rfl
theorem wdst_53 : Cond.lays RX5 "TicketGate$State" "seed" "I" ∈ Wg := t1_in (List.mem_of_getElem? (i := 175) rfl) rfl
theorem wdst_54 : Cond.lays RX5 "TicketGate$State" "madeTickets" "I" ∈ Wg := t1_in (List.mem_of_getElem? (i := 177) rfl) rfl
theorem wdst_55 : Cond.lays RX5 "TicketGate$State" "cheesesOfText" "I" ∈ Wg := t1_in (List.mem_of_getElem? (i := 179) rfl) rfl
theorem wdst_56 : Cond.methodLink RX11 242 yX2_countDistanceErrors ∈ Wg := t4_in (List.mem_of_getElem? (i := 76) rfl) rfl
theorem wdst_57 : Cond.instanceMethod yX2_countDistanceErrors ∈ Wg := t4_in (List.mem_of_getElem? (i := 77) rfl) rfl
theorem wdst_58 : Cond.selects RX2 yX2_countDistanceErrors yX2_countDistanceErrors ∈ Wg := t4_in (List.mem_of_getElem? (i := 78) rfl) rfl
theorem wdst_59 : Cond.code yX2_countDistanceErrors cX2_countDistanceErrors 5 (some .int) ∈ Wg := t4_in (List.mem_of_getElem? (i := 79) rfl) rfl
theorem laydst_X2 : ∀ k, k < 4 → u_lay RX2 TX2 k ∈ Wg := fun k hk => match k, hk with
  | 0, _ => wdst_5
  | 1, _ => wdst_6
  | 2, _ => wdst_7
  | 3, _ => wdst_8
  | k + 4, h => absurd h (by omega)
theorem laydst_X10 : ∀ k, k < 4 → u_lay RX10 TX10 k ∈ Wg := fun k hk => match k, hk with
  | 0, _ => wdst_28
  | 1, _ => wdst_29
  | 2, _ => wdst_30
  | 3, _ => wdst_31
  | k + 4, h => absurd h (by omega)
theorem laydst_X11 : ∀ k, k < 8 → u_lay RX11 TX11 k ∈ Wg := fun k hk => match k, hk with
  | 0, _ => wdst_37
  | 1, _ => wdst_38
  | 2, _ => wdst_39
  | 3, _ => wdst_40
  | 4, _ => wdst_41
  | 5, _ => wdst_42
  | 6, _ => wdst_43
  | 7, _ => wdst_44
  | k + 8, h => absurd h (by omega)
theorem laydst_X5 : ∀ k, k < 10 → u_lay RX5 TX5 k ∈ Wg := fun k hk => match k, hk with
  | 0, _ => wdst_46
  | 1, _ => wdst_47
  | 2, _ => wdst_48
  | 3, _ => wdst_49
  | 4, _ => wdst_50
  | 5, _ => wdst_51
  | 6, _ => wdst_52
  | 7, _ => wdst_53
  | 8, _ => wdst_54
  | 9, _ => wdst_55
  | k + 10, h => absurd h (by omega)
theorem pd_X6_size_UX2_countDistanceErrors_27 : "TicketGate$Table" ≠ "java/lang/invoke/MethodHandle" ∧ "TicketGate$Table" ≠ "java/lang/invoke/VarHandle" ∧ (parseMethodDescriptor "()I").map (fun d => d.parameters.length) = some 0 := by decide +kernel
def f_X2_countDistanceErrors_L15 (t_rows : Int32) (w_rows : Int32) : Nat → (Nat → Int32) → Int32 → Option ((Nat → Int32))
  | 0, _, _ => none
  | n + 1, w_cells, v2 =>
    (f_X6_size 25 t_rows).bind fun o2 =>
    if o2 ≤ v2 then (
      some (w_cells))
    else (
      (f_X10_goThrough w_rows w_cells v2).bind fun o3 =>
      f_X2_countDistanceErrors_L15 t_rows w_rows n o3 (v2 + 1))
def f_X2_countDistanceErrors_L49 (t_rows : Int32) (t_cells : Nat → Int32) (w_rows : Int32) (w_cells : Nat → Int32) (v3 : Int32) : Nat → Int32 → Int32 → Option (Int32)
  | 0, _, _ => none
  | n + 1, v2, v4 =>
    (f_X6_size 25 t_rows).bind fun o6 =>
    if o6 ≤ v4 then (
      some (v2))
    else (
      (f_X10_lengthOf w_rows w_cells v3 v4).bind fun o7 =>
      (f_X2_referrals t_rows t_cells v3 v4).bind fun o8 =>
      Option.bind (if o7 = o8 then (
        some (0))
      else (
        some (1)) : Option (Int32)) fun j9 =>
      f_X2_countDistanceErrors_L49 t_rows t_cells w_rows w_cells v3 n  (v2 + j9) (v4 + 1))
def f_X2_countDistanceErrors_L38 (t_rows : Int32) (t_cells : Nat → Int32) (w_rows : Int32) (w_cells : Nat → Int32) : Nat → Int32 → Int32 → Option (Int32)
  | 0, _, _ => none
  | n + 1, v2, v3 =>
    (f_X6_size 25 t_rows).bind fun o5 =>
    if o5 ≤ v3 then (
      some (v2))
    else (
      (f_X2_countDistanceErrors_L49 t_rows t_cells w_rows w_cells v3 5000 v2 0).bind fun o10 =>
      f_X2_countDistanceErrors_L38 t_rows t_cells w_rows w_cells n  o10 (v3 + 1))
def f_X2_cderest (t_rows : Int32) (t_cells : Nat → Int32) (w_rows : Int32) (w_cells : Nat → Int32) : Option Int32 :=
  (f_X10_addDirect w_rows w_cells t_rows t_cells).bind fun o1 =>
  (f_X2_countDistanceErrors_L15 t_rows o1.1 5000 o1.2 0).bind fun o4 =>
  (f_X2_countDistanceErrors_L38 t_rows t_cells o1.1 o4 5000 0 0).bind fun o11 =>
  some o11
set_option maxRecDepth 100000 in
set_option maxHeartbeats 4000000 in
theorem l_X2_countDistanceErrors_L15 (l : Launch) {G : (Nat → Prop) → State → Heap → Prop} (hG : vG G) (D : va_G) (c9 : Nat → ClassId) (ad : Nat → Nat) (ad1 : Nat → Nat) (t_rows : Int32) (t_cells : Nat → Int32) (w_rows : Int32) {p : Program} {e : Env} {s : State} {m : MethodId} {args : Array Value} {below : List Frame} {meth : Method} {c : Code} {A : Nat → Prop} {F : va_W} (X : vX p s m args meth c cX2_countDistanceErrors 5 (some .int) RX2 (wq yX2_countDistanceErrors cX2_countDistanceErrors 5 (some .int)) D (tyA c9) G A) {Q : State → Prop} (o : (Nat → Int32)) (K : vW p l e { frames := 3, cells := 2, slots := 29, locals := 82 } s m args below meth c 5 D A F 2 29 Q ((wX2 ad c9 t_rows t_cells) ++ (wX10 ad1 c9 w_rows o)) 34 [(0, .ref (ad 0)), (1, .ref (ad1 0))] []) :
    ∀ (n : Nat) (w_cells : Nat → Int32) (v2 : Int32), f_X2_countDistanceErrors_L15 t_rows w_rows n w_cells v2 = some o → vW p l e { frames := 3, cells := 2, slots := 29, locals := 82 } s m args below meth c 5 D A F 2 29 Q ((wX2 ad c9 t_rows t_cells) ++ (wX10 ad1 c9 w_rows w_cells)) 15 [(0, .ref (ad 0)), (1, .ref (ad1 0)), (2, .int v2)] [] := by
  intro n
  induction n with
  | zero =>
    intro w_cells v2 hf
    rw [f_X2_countDistanceErrors_L15] at hf
    cases hf
  | succ n ih =>
    intro w_cells v2 hf
    rw [f_X2_countDistanceErrors_L15] at hf
    refine v_iload_n X dX2_countDistanceErrors_15 2 rfl rfl 16 rfl ?_
    refine v_aload_n X dX2_countDistanceErrors_16 0 rfl rfl 17 rfl ?_
    obtain ⟨o2, ho2, hf⟩ := bnd hf
    refine v_callUi X (ci := 4) (T := TX2) (C := RX2) (owner := "TicketGate$Table") (As := []) (rest := [.int v2]) (ws' := ((wX2 ad c9 t_rows t_cells) ++ (wX10 ad1 c9 w_rows w_cells))) (c_X6_size l hG D c9 ad 25 4 RX2 rfl laydst_X2 5 5 t_rows t_cells ho2) 0 (gU wdst_9 wdst_10 wdst_11 wdst_12 wdst_13 wdst_14) rfl rfl rfl rfl pd_X6_size_UX2_countDistanceErrors_27 ⟨Nat.le_of_ble_eq_true rfl, Nat.le_of_ble_eq_true rfl⟩ 0 rfl rfl rfl rfl (Nat.le_of_ble_eq_true rfl) ⟨(by first | exact Nat.le_of_ble_eq_true rfl | omega), (by first | exact Nat.le_of_ble_eq_true rfl | omega)⟩ [0, 1] [2, 3] [2, 3, 0, 1] rfl rfl rfl rfl dX2_countDistanceErrors_17 20 rfl ?_
    refine v_icmp_ge X (tgt := 34) dX2_countDistanceErrors_20 rfl 23 rfl hf (fun hf => ?_) (fun hf => ?_)
    · obtain rfl := Option.some.inj hf
      refine v_sub (lv' := [(0, .ref (ad 0)), (1, .ref (ad1 0))]) [0, 1] rfl ?_
      exact K
    · refine v_aload_n X dX2_countDistanceErrors_23 1 rfl rfl 24 rfl ?_
      refine v_iload_n X dX2_countDistanceErrors_24 2 rfl rfl 25 rfl ?_
      obtain ⟨o3, ho3, hf⟩ := bnd hf
      refine v_callVv X (ci := 11) (T := TX10) (C := RX10) (As := [.int v2]) (rest := []) (ws' := ((wX2 ad c9 t_rows t_cells) ++ (wX10 ad1 c9 w_rows o3))) (c_X10_goThrough l hG D c9 ad1 w_rows w_cells v2 ho3) 1 (gV wdst_15 wdst_16 wdst_17 wdst_3 wdst_18) rfl rfl rfl ⟨rfl, pd_X10_goThrough⟩ ⟨Nat.le_of_ble_eq_true rfl, Nat.le_of_ble_eq_true rfl⟩ 2 rfl rfl rfl rfl (Nat.le_of_ble_eq_true rfl) ⟨(by first | exact Nat.le_of_ble_eq_true rfl | omega), (by first | exact Nat.le_of_ble_eq_true rfl | omega)⟩ [2, 3] [0, 1] [0, 1, 2, 3] rfl rfl rfl rfl dX2_countDistanceErrors_25 28 rfl ?_
      refine v_iinc X (lv' := [(2, .int (v2 + 1)), (0, .ref (ad 0)), (1, .ref (ad1 0))]) dX2_countDistanceErrors_28 2 rfl ic_1 (by decide) rfl 31 rfl ?_
      refine v_goto X (tgt := 15) dX2_countDistanceErrors_31 rfl ?_
      refine v_sub (lv' := [(0, .ref (ad 0)), (1, .ref (ad1 0)), (2, .int (v2 + 1))]) [1, 2, 0] rfl ?_
      exact ih o3 (v2 + 1) hf
set_option maxRecDepth 100000 in
set_option maxHeartbeats 4000000 in
theorem l_X2_countDistanceErrors_L49 (l : Launch) {G : (Nat → Prop) → State → Heap → Prop} (hG : vG G) (D : va_G) (c9 : Nat → ClassId) (ad : Nat → Nat) (ad1 : Nat → Nat) (t_rows : Int32) (t_cells : Nat → Int32) (w_rows : Int32) (w_cells : Nat → Int32) (v3 : Int32) {p : Program} {e : Env} {s : State} {m : MethodId} {args : Array Value} {below : List Frame} {meth : Method} {c : Code} {A : Nat → Prop} {F : va_W} (X : vX p s m args meth c cX2_countDistanceErrors 5 (some .int) RX2 (wq yX2_countDistanceErrors cX2_countDistanceErrors 5 (some .int)) D (tyA c9) G A) {Q : State → Prop} (o : Int32) (K : vW p l e { frames := 3, cells := 2, slots := 29, locals := 82 } s m args below meth c 5 D A F 2 29 Q ((wX2 ad c9 t_rows t_cells) ++ (wX10 ad1 c9 w_rows w_cells)) 89 [(0, .ref (ad 0)), (1, .ref (ad1 0)), (2, .int o), (3, .int v3)] []) :
    ∀ (n : Nat) (v2 : Int32) (v4 : Int32), f_X2_countDistanceErrors_L49 t_rows t_cells w_rows w_cells v3 n v2 v4 = some o → vW p l e { frames := 3, cells := 2, slots := 29, locals := 82 } s m args below meth c 5 D A F 2 29 Q ((wX2 ad c9 t_rows t_cells) ++ (wX10 ad1 c9 w_rows w_cells)) 49 [(0, .ref (ad 0)), (1, .ref (ad1 0)), (2, .int v2), (3, .int v3), (4, .int v4)] [] := by
  intro n
  induction n with
  | zero =>
    intro v2 v4 hf
    rw [f_X2_countDistanceErrors_L49] at hf
    cases hf
  | succ n ih =>
    intro v2 v4 hf
    rw [f_X2_countDistanceErrors_L49] at hf
    refine v_iload X dX2_countDistanceErrors_49 4 rfl 51 rfl ?_
    refine v_aload_n X dX2_countDistanceErrors_51 0 rfl rfl 52 rfl ?_
    obtain ⟨o6, ho6, hf⟩ := bnd hf
    refine v_callUi X (ci := 4) (T := TX2) (C := RX2) (owner := "TicketGate$Table") (As := []) (rest := [.int v4]) (ws' := ((wX2 ad c9 t_rows t_cells) ++ (wX10 ad1 c9 w_rows w_cells))) (c_X6_size l hG D c9 ad 25 4 RX2 rfl laydst_X2 5 5 t_rows t_cells ho6) 0 (gU wdst_9 wdst_10 wdst_11 wdst_12 wdst_13 wdst_14) rfl rfl rfl rfl pd_X6_size_UX2_countDistanceErrors_27 ⟨Nat.le_of_ble_eq_true rfl, Nat.le_of_ble_eq_true rfl⟩ 0 rfl rfl rfl rfl (Nat.le_of_ble_eq_true rfl) ⟨(by first | exact Nat.le_of_ble_eq_true rfl | omega), (by first | exact Nat.le_of_ble_eq_true rfl | omega)⟩ [0, 1] [2, 3] [2, 3, 0, 1] rfl rfl rfl rfl dX2_countDistanceErrors_52 55 rfl ?_
    refine v_icmp_ge X (tgt := 89) dX2_countDistanceErrors_55 rfl 58 rfl hf (fun hf => ?_) (fun hf => ?_)
    · obtain rfl := Option.some.inj hf
      refine v_sub (lv' := [(0, .ref (ad 0)), (1, .ref (ad1 0)), (2, .int v2), (3, .int v3)]) [0, 1, 2, 3] rfl ?_
      exact K
    · refine v_iload_n X dX2_countDistanceErrors_58 2 rfl rfl 59 rfl ?_
      refine v_aload_n X dX2_countDistanceErrors_59 1 rfl rfl 60 rfl ?_
      refine v_iload_n X dX2_countDistanceErrors_60 3 rfl rfl 61 rfl ?_
      refine v_iload X dX2_countDistanceErrors_61 4 rfl 63 rfl ?_
      obtain ⟨o7, ho7, hf⟩ := bnd hf
      refine v_callVi X (ci := 11) (T := TX10) (C := RX10) (As := [.int v3, .int v4]) (rest := [.int v2]) (ws' := ((wX2 ad c9 t_rows t_cells) ++ (wX10 ad1 c9 w_rows w_cells))) (c_X10_lengthOf l hG D c9 ad1 w_rows w_cells v3 v4 ho7) 2 (gV wdst_19 wdst_20 wdst_21 wdst_3 wdst_22) rfl rfl rfl ⟨rfl, pd_X10_lengthOf⟩ ⟨Nat.le_of_ble_eq_true rfl, Nat.le_of_ble_eq_true rfl⟩ 2 rfl rfl rfl rfl (Nat.le_of_ble_eq_true rfl) ⟨(by first | exact Nat.le_of_ble_eq_true rfl | omega), (by first | exact Nat.le_of_ble_eq_true rfl | omega)⟩ [2, 3] [0, 1] [0, 1, 2, 3] rfl rfl rfl rfl dX2_countDistanceErrors_63 66 rfl ?_
      refine v_aload_n X dX2_countDistanceErrors_66 0 rfl rfl 67 rfl ?_
      refine v_iload_n X dX2_countDistanceErrors_67 3 rfl rfl 68 rfl ?_
      refine v_iload X dX2_countDistanceErrors_68 4 rfl 70 rfl ?_
      obtain ⟨o8, ho8, hf⟩ := bnd hf
      refine v_callVi X (ci := 4) (T := TX2) (C := RX2) (As := [.int v3, .int v4]) (rest := [.int o7, .int v2]) (ws' := ((wX2 ad c9 t_rows t_cells) ++ (wX10 ad1 c9 w_rows w_cells))) (c_X2_referrals l hG D c9 ad t_rows t_cells v3 v4 ho8) 2 (gV wdst_23 wdst_24 wdst_25 wdst_26 wdst_27) rfl rfl rfl ⟨rfl, pd_X2_referrals⟩ ⟨Nat.le_of_ble_eq_true rfl, Nat.le_of_ble_eq_true rfl⟩ 0 rfl rfl rfl rfl (Nat.le_of_ble_eq_true rfl) ⟨(by first | exact Nat.le_of_ble_eq_true rfl | omega), (by first | exact Nat.le_of_ble_eq_true rfl | omega)⟩ [0, 1] [2, 3] [2, 3, 0, 1] rfl rfl rfl rfl dX2_countDistanceErrors_70 73 rfl ?_
      obtain ⟨j9, hj9, hf⟩ := bnd hf
      have Jj9 : vW p l e { frames := 3, cells := 2, slots := 29, locals := 82 } s m args below meth c 5 D A F 2 29 Q ((wX2 ad c9 t_rows t_cells) ++ (wX10 ad1 c9 w_rows w_cells)) 81 [(0, .ref (ad 0)), (1, .ref (ad1 0)), (3, .int v3), (4, .int v4)] [.int j9, .int v2] := by
        refine v_iadd X dX2_countDistanceErrors_81 82 rfl ?_
        refine v_istore_n X (lv' := [(2, .int (v2 + j9)), (0, .ref (ad 0)), (1, .ref (ad1 0)), (3, .int v3), (4, .int v4)]) dX2_countDistanceErrors_82 rfl (by decide) rfl 83 rfl ?_
        refine v_iinc X (lv' := [(4, .int (v4 + 1)), (2, .int (v2 + j9)), (0, .ref (ad 0)), (1, .ref (ad1 0)), (3, .int v3)]) dX2_countDistanceErrors_83 4 rfl ic_1 (by decide) rfl 86 rfl ?_
        refine v_goto X (tgt := 49) dX2_countDistanceErrors_86 rfl ?_
        refine v_sub (lv' := [(0, .ref (ad 0)), (1, .ref (ad1 0)), (2, .int (v2 + j9)), (3, .int v3), (4, .int (v4 + 1))]) [2, 3, 1, 4, 0] rfl ?_
        exact ih (v2 + j9) (v4 + 1) hf
      clear hf
      refine v_icmp_ne X (tgt := 80) dX2_countDistanceErrors_73 rfl 76 rfl hj9 (fun hf => ?_) (fun hf => ?_)
      · refine v_iconst X dX2_countDistanceErrors_80 ic_1 81 rfl ?_
        obtain rfl := Option.some.inj hf
        refine v_sub (lv' := [(0, .ref (ad 0)), (1, .ref (ad1 0)), (3, .int v3), (4, .int v4)]) [0, 1, 3, 4] rfl ?_
        exact Jj9
      · refine v_iconst X dX2_countDistanceErrors_76 ic_0 77 rfl ?_
        refine v_goto X (tgt := 81) dX2_countDistanceErrors_77 rfl ?_
        obtain rfl := Option.some.inj hf
        refine v_sub (lv' := [(0, .ref (ad 0)), (1, .ref (ad1 0)), (3, .int v3), (4, .int v4)]) [0, 1, 3, 4] rfl ?_
        exact Jj9
set_option maxRecDepth 100000 in
set_option maxHeartbeats 4000000 in
theorem l_X2_countDistanceErrors_L38 (l : Launch) {G : (Nat → Prop) → State → Heap → Prop} (hG : vG G) (D : va_G) (c9 : Nat → ClassId) (ad : Nat → Nat) (ad1 : Nat → Nat) (t_rows : Int32) (t_cells : Nat → Int32) (w_rows : Int32) (w_cells : Nat → Int32) {p : Program} {e : Env} {s : State} {m : MethodId} {args : Array Value} {below : List Frame} {meth : Method} {c : Code} {A : Nat → Prop} {F : va_W} (X : vX p s m args meth c cX2_countDistanceErrors 5 (some .int) RX2 (wq yX2_countDistanceErrors cX2_countDistanceErrors 5 (some .int)) D (tyA c9) G A) {Q : State → Prop} (o : Int32) (K : vW p l e { frames := 3, cells := 2, slots := 29, locals := 82 } s m args below meth c 5 D A F 2 29 Q ((wX2 ad c9 t_rows t_cells) ++ (wX10 ad1 c9 w_rows w_cells)) 95 [(2, .int o)] []) :
    ∀ (n : Nat) (v2 : Int32) (v3 : Int32), f_X2_countDistanceErrors_L38 t_rows t_cells w_rows w_cells n v2 v3 = some o → vW p l e { frames := 3, cells := 2, slots := 29, locals := 82 } s m args below meth c 5 D A F 2 29 Q ((wX2 ad c9 t_rows t_cells) ++ (wX10 ad1 c9 w_rows w_cells)) 38 [(0, .ref (ad 0)), (1, .ref (ad1 0)), (2, .int v2), (3, .int v3)] [] := by
  intro n
  induction n with
  | zero =>
    intro v2 v3 hf
    rw [f_X2_countDistanceErrors_L38] at hf
    cases hf
  | succ n ih =>
    intro v2 v3 hf
    rw [f_X2_countDistanceErrors_L38] at hf
    refine v_iload_n X dX2_countDistanceErrors_38 3 rfl rfl 39 rfl ?_
    refine v_aload_n X dX2_countDistanceErrors_39 0 rfl rfl 40 rfl ?_
    obtain ⟨o5, ho5, hf⟩ := bnd hf
    refine v_callUi X (ci := 4) (T := TX2) (C := RX2) (owner := "TicketGate$Table") (As := []) (rest := [.int v3]) (ws' := ((wX2 ad c9 t_rows t_cells) ++ (wX10 ad1 c9 w_rows w_cells))) (c_X6_size l hG D c9 ad 25 4 RX2 rfl laydst_X2 5 5 t_rows t_cells ho5) 0 (gU wdst_9 wdst_10 wdst_11 wdst_12 wdst_13 wdst_14) rfl rfl rfl rfl pd_X6_size_UX2_countDistanceErrors_27 ⟨Nat.le_of_ble_eq_true rfl, Nat.le_of_ble_eq_true rfl⟩ 0 rfl rfl rfl rfl (Nat.le_of_ble_eq_true rfl) ⟨(by first | exact Nat.le_of_ble_eq_true rfl | omega), (by first | exact Nat.le_of_ble_eq_true rfl | omega)⟩ [0, 1] [2, 3] [2, 3, 0, 1] rfl rfl rfl rfl dX2_countDistanceErrors_40 43 rfl ?_
    refine v_icmp_ge X (tgt := 95) dX2_countDistanceErrors_43 rfl 46 rfl hf (fun hf => ?_) (fun hf => ?_)
    · obtain rfl := Option.some.inj hf
      refine v_sub (lv' := [(2, .int v2)]) [2] rfl ?_
      exact K
    · refine v_iconst X dX2_countDistanceErrors_46 ic_0 47 rfl ?_
      refine v_istore X (lv' := [(4, .int 0), (0, .ref (ad 0)), (1, .ref (ad1 0)), (2, .int v2), (3, .int v3)]) dX2_countDistanceErrors_47 (by decide) rfl 49 rfl ?_
      obtain ⟨o10, ho10, hf⟩ := bnd hf
      refine v_sub (lv' := [(0, .ref (ad 0)), (1, .ref (ad1 0)), (2, .int v2), (3, .int v3), (4, .int 0)]) [1, 2, 3, 4, 0] rfl ?_
      refine l_X2_countDistanceErrors_L49 l hG D c9 ad ad1 t_rows t_cells w_rows w_cells v3 X o10 ?_ 5000 v2 0 ho10
      refine v_iinc X (lv' := [(3, .int (v3 + 1)), (0, .ref (ad 0)), (1, .ref (ad1 0)), (2, .int o10)]) dX2_countDistanceErrors_89 3 rfl ic_1 (by decide) rfl 92 rfl ?_
      refine v_goto X (tgt := 38) dX2_countDistanceErrors_92 rfl ?_
      refine v_sub (lv' := [(0, .ref (ad 0)), (1, .ref (ad1 0)), (2, .int o10), (3, .int (v3 + 1))]) [1, 2, 3, 0] rfl ?_
      exact ih o10 (v3 + 1) hf
set_option maxRecDepth 100000 in
set_option maxHeartbeats 4000000 in
theorem l_X2_cderest (l : Launch) {G : (Nat → Prop) → State → Heap → Prop} (hG : vG G) (D : va_G) (c9 : Nat → ClassId) (ad : Nat → Nat) (ad1 : Nat → Nat) (t_rows : Int32) (t_cells : Nat → Int32) (w_rows : Int32) (w_cells : Nat → Int32) {p : Program} {e : Env} {s : State} {m : MethodId} {args : Array Value} {below : List Frame} {meth : Method} {c : Code} {A : Nat → Prop} {F : va_W} (X : vX p s m args meth c cX2_countDistanceErrors 5 (some .int) RX2 (wq yX2_countDistanceErrors cX2_countDistanceErrors 5 (some .int)) D (tyA c9) G A) {o : Int32} (hf : f_X2_cderest t_rows t_cells w_rows w_cells = some o) : vW p l e { frames := 3, cells := 2, slots := 29, locals := 82 } s m args below meth c 5 D A F 2 29 (MQ below (eI D (tyA c9) A o ((wX2 ad c9 t_rows t_cells) ++ F)) args s 2 29 A) ((wX2 ad c9 t_rows t_cells) ++ (wX10 ad1 c9 w_rows w_cells)) 8 [(0, .ref (ad 0)), (1, .ref (ad1 0))] [] := by
  rw [f_X2_cderest] at hf
  refine v_aload_n X dX2_countDistanceErrors_8 1 rfl rfl 9 rfl ?_
  refine v_aload_n X dX2_countDistanceErrors_9 0 rfl rfl 10 rfl ?_
  obtain ⟨o1, ho1, hf⟩ := bnd hf
  refine v_callVv X (ci := 11) (T := TX10) (C := RX10) (As := [.ref (ad 0)]) (rest := []) (ws' := ((wX2 ad c9 t_rows t_cells) ++ (wX10 ad1 c9 o1.1 o1.2))) (c_X10_addDirect l hG D c9 ad1 ad w_rows w_cells t_rows t_cells ho1) 1 (gV wdst_0 wdst_1 wdst_2 wdst_3 wdst_4) rfl rfl rfl ⟨rfl, pd_X10_addDirect⟩ ⟨Nat.le_of_ble_eq_true rfl, Nat.le_of_ble_eq_true rfl⟩ 2 rfl rfl rfl rfl (Nat.le_of_ble_eq_true rfl) ⟨(by first | exact Nat.le_of_ble_eq_true rfl | omega), (by first | exact Nat.le_of_ble_eq_true rfl | omega)⟩ [2, 3, 0, 1] [] [2, 3, 0, 1] rfl rfl rfl rfl dX2_countDistanceErrors_10 13 rfl ?_
  refine v_iconst X dX2_countDistanceErrors_13 ic_0 14 rfl ?_
  refine v_istore_n X (lv' := [(2, .int 0), (0, .ref (ad 0)), (1, .ref (ad1 0))]) dX2_countDistanceErrors_14 rfl (by decide) rfl 15 rfl ?_
  obtain ⟨o4, ho4, hf⟩ := bnd hf
  refine v_sub (lv' := [(0, .ref (ad 0)), (1, .ref (ad1 0)), (2, .int 0)]) [1, 2, 0] rfl ?_
  refine l_X2_countDistanceErrors_L15 l hG D c9 ad ad1 t_rows t_cells o1.1 X o4 ?_ 5000 o1.2 0 ho4
  refine v_iconst X dX2_countDistanceErrors_34 ic_0 35 rfl ?_
  refine v_istore_n X (lv' := [(2, .int 0), (0, .ref (ad 0)), (1, .ref (ad1 0))]) dX2_countDistanceErrors_35 rfl (by decide) rfl 36 rfl ?_
  refine v_iconst X dX2_countDistanceErrors_36 ic_0 37 rfl ?_
  refine v_istore_n X (lv' := [(3, .int 0), (2, .int 0), (0, .ref (ad 0)), (1, .ref (ad1 0))]) dX2_countDistanceErrors_37 rfl (by decide) rfl 38 rfl ?_
  obtain ⟨o11, ho11, hf⟩ := bnd hf
  refine v_sub (lv' := [(0, .ref (ad 0)), (1, .ref (ad1 0)), (2, .int 0), (3, .int 0)]) [2, 3, 1, 0] rfl ?_
  refine l_X2_countDistanceErrors_L38 l hG D c9 ad ad1 t_rows t_cells o1.1 o4 X o11 ?_ 5000 0 0 ho11
  refine v_iload_n X dX2_countDistanceErrors_95 0 rfl rfl 96 rfl ?_
  obtain rfl := Option.some.inj hf
  exact v_iretD X (by first | exact Nat.le_of_ble_eq_true rfl | omega) (by first | exact Nat.le_of_ble_eq_true rfl | omega) dX2_countDistanceErrors_96
def f_X2_countDistanceErrors (t_rows : Int32) (t_cells : Nat → Int32) : Option Int32 := f_X2_cderest t_rows t_cells 0 (fun _ => 0)
theorem pd_X2_countDistanceErrors : yX2_countDistanceErrors.cls ≠ "java/lang/invoke/MethodHandle" ∧ yX2_countDistanceErrors.cls ≠ "java/lang/invoke/VarHandle" ∧ (parseMethodDescriptor yX2_countDistanceErrors.desc).map (fun d => d.parameters.length) = some 0 := by decide +kernel
set_option maxRecDepth 100000 in
set_option maxHeartbeats 4000000 in
theorem c_X2_countDistanceErrors (l : Launch) {G : (Nat → Prop) → State → Heap → Prop} (hG : vG G) (D : va_G) (c9 : Nat → ClassId) (ad : Nat → Nat) (t_rows : Int32) (t_cells : Nat → Int32) {o : Int32} (hf : f_X2_countDistanceErrors t_rows t_cells = some o) : mI l yX2_countDistanceErrors (wq yX2_countDistanceErrors cX2_countDistanceErrors 5 (some .int)) { frames := 3, cells := 2, slots := 29, locals := 82 } G D (tyA c9) [.ref (ad 0)] (wX2 ad c9 t_rows t_cells) [] 2 29 o (wX2 ad c9 t_rows t_cells) := by
  refine mI_of hG (cc := cX2_countDistanceErrors) (maxL := 5) (ty := .int) (by decide) rfl (Nat.le_of_ble_eq_true rfl) ?_
  intro p e s m args below meth c A X
  have X : vX p s m args meth c cX2_countDistanceErrors 5 (some .int) RX2 (wq yX2_countDistanceErrors cX2_countDistanceErrors 5 (some .int)) D (tyA c9) G A := X
  refine v_eq (lv2 := [(0, .ref (ad 0))]) rfl rfl rfl rfl ?_
  rw [f_X2_countDistanceErrors] at hf
  refine v_new X (C := RX10) (T := TX10) (N := 4) (ci := 11) (fs := [.int 0, .int 0, .null, .int 0]) dX2_countDistanceErrors_0 (lay_of laydst_X10) tyX10 tyX10_ok (mw wdst_32) (mw wdst_33) (mw wdst_3) rfl (fun j hj => match j, hj with | 0, _ => rfl | 1, _ => rfl | 2, _ => rfl | 3, _ => rfl | z + 4, h => absurd h (by omega)) (by first | exact Nat.le_of_ble_eq_true rfl | exact Nat.le_of_eq (Nat.zero_add _) | omega) (by first | exact Nat.le_of_ble_eq_true rfl | exact Nat.le_of_eq (Nat.zero_add _) | omega) 3 rfl (fun q1 => ?_)
  refine v_eq (ws2 := [((ad 0), .inr (4, [.int 5, .int 5, .ref (ad 1), .int t_rows])), ((ad 1), .inl (c9 0, 25, .inl t_cells)), (q1, .inr (11, [.int 0, .int 0, .null, .int 0]))]) rfl rfl rfl rfl ?_
  refine v_dup X dX2_countDistanceErrors_3 rfl 4 rfl ?_
  refine v_callIn X (S := Nat) (As := []) (rest := [.ref q1]) (ws' := fun u5 => [((ad 0), .inr (4, [.int 5, .int 5, .ref (ad 1), .int t_rows])), ((ad 1), .inl (c9 0, 25, .inl t_cells)), (q1, .inr (11, [.int 5, .int 5, .ref u5, .int 0])), (u5, .inl (c9 0, 25, .inl (fun _ => 0)))]) (c_X10_init l hG D c9 q1) 0 (wg_sub _ wdst_35 _) rfl rfl rfl (mw wdst_3) (mw wdst_34) (mw wdst_36) rfl pd_X10_init ⟨Nat.le_of_ble_eq_true rfl, Nat.le_of_ble_eq_true rfl⟩ rfl rfl (Nat.le_of_ble_eq_true rfl) ⟨(by first | exact Nat.le_of_ble_eq_true rfl | exact Nat.le_of_eq (Nat.zero_add _) | omega), (by first | exact Nat.le_of_ble_eq_true rfl | exact Nat.le_of_eq (Nat.zero_add _) | omega)⟩ [2] [0, 1] [0, 1, 2, 3] rfl rfl (fun _ => rfl) rfl dX2_countDistanceErrors_4 7 rfl (fun u5 hpu5 => ?_)
  refine v_eq (ws2 := [((ad 0), .inr (4, [.int 5, .int 5, .ref (ad 1), .int t_rows])), ((ad 1), .inl (c9 0, 25, .inl t_cells)), (q1, .inr (11, [.int 5, .int 5, .ref u5, .int 0])), (u5, .inl (c9 0, 25, .inl (fun _ => 0)))]) rfl rfl rfl rfl ?_
  refine v_astore_n X (lv' := [(1, .ref q1), (0, .ref (ad 0))]) dX2_countDistanceErrors_7 rfl (by decide) rfl 8 rfl ?_
  refine v_sub (lv' := [(0, .ref (ad 0)), (1, .ref q1)]) [1, 0] rfl ?_
  refine v_eq (ws2 := (wX2 ad c9 t_rows t_cells ++ wX10 (fun k => [q1, u5].getD k 0) c9 0 (fun _ => 0))) rfl rfl rfl rfl ?_
  exact l_X2_cderest l hG D c9 ad (fun k => [q1, u5].getD k 0) t_rows t_cells 0 (fun _ => 0) X hf
def f_X11_distanceErrors (s_R_rows : Int32) (s_R_cells : Nat → Int32) : Option (Int32) :=
  (f_X2_countDistanceErrors s_R_rows s_R_cells).bind fun o1 =>
  some (o1)
set_option maxRecDepth 100000 in
set_option maxHeartbeats 4000000 in
theorem c_X11_distanceErrors (l : Launch) {G : (Nat → Prop) → State → Heap → Prop} (hG : vG G) (D : va_G) (c9 : Nat → ClassId) (ad : Nat → Nat) (nextPast : Int32) (pastCount : Int32) (i_count : Int32) (i_cells : Nat → Int32) (o_count : Int32) (o_cells : Nat → Int32) (p_start : Int32) (p_end : Int32) (p_kind : Int32) (p_value : Int32) (p_error : Int32) (p_errorAt : Int32) (p_d_time : Int32) (p_d_tolerance : Int32) (p_d_seed : Int32) (p_d_madeTickets : Int32) (p_d_cheesesOfText : Int32) (p_d_R_rows : Int32) (p_d_R_cells : Nat → Int32) (p_d_U_rows : Int32) (p_d_U_cells : Nat → Int32) (p_d_S_rows : Int32) (p_d_S_cells : Nat → Int32) (p_d_T_rows : Int32) (p_d_T_cells : Nat → Int32) (p_d_E_rows : Int32) (p_d_E_cells : Nat → Int32) (s_time : Int32) (s_tolerance : Int32) (s_seed : Int32) (s_madeTickets : Int32) (s_cheesesOfText : Int32) (s_R_rows : Int32) (s_R_cells : Nat → Int32) (s_U_rows : Int32) (s_U_cells : Nat → Int32) (s_S_rows : Int32) (s_S_cells : Nat → Int32) (s_T_rows : Int32) (s_T_cells : Nat → Int32) (s_E_rows : Int32) (s_E_cells : Nat → Int32) (sl : Nat → Option SV) (asl : Nat → Nat → Nat) (pa : Nat → Option SV) (apa : Nat → Nat → Nat)  {o : Int32} (hf : f_X11_distanceErrors s_R_rows s_R_cells = some o) : mI l yX11_distanceErrors (wq yX11_distanceErrors cX11_distanceErrors 1 (some .int)) { frames := 4, cells := 2, slots := 29, locals := 106 } G D (tyA c9) [.ref (ad 0)] (wX11 ad c9 nextPast pastCount i_count i_cells o_count o_cells p_start p_end p_kind p_value p_error p_errorAt p_d_time p_d_tolerance p_d_seed p_d_madeTickets p_d_cheesesOfText p_d_R_rows p_d_R_cells p_d_U_rows p_d_U_cells p_d_S_rows p_d_S_cells p_d_T_rows p_d_T_cells p_d_E_rows p_d_E_cells s_time s_tolerance s_seed s_madeTickets s_cheesesOfText s_R_rows s_R_cells s_U_rows s_U_cells s_S_rows s_S_cells s_T_rows s_T_cells s_E_rows s_E_cells sl asl pa apa) [] 2 29 o (wX11 ad c9 nextPast pastCount i_count i_cells o_count o_cells p_start p_end p_kind p_value p_error p_errorAt p_d_time p_d_tolerance p_d_seed p_d_madeTickets p_d_cheesesOfText p_d_R_rows p_d_R_cells p_d_U_rows p_d_U_cells p_d_S_rows p_d_S_cells p_d_T_rows p_d_T_cells p_d_E_rows p_d_E_cells s_time s_tolerance s_seed s_madeTickets s_cheesesOfText s_R_rows s_R_cells s_U_rows s_U_cells s_S_rows s_S_cells s_T_rows s_T_cells s_E_rows s_E_cells sl asl pa apa) := by
  refine mI_of hG (cc := cX11_distanceErrors) (maxL := 1) (ty := .int) (by decide) rfl (Nat.le_of_ble_eq_true rfl) ?_
  intro p e s m args below meth c A X
  have X : vX p s m args meth c cX11_distanceErrors 1 (some .int) RX11 (wq yX11_distanceErrors cX11_distanceErrors 1 (some .int)) D (tyA c9) G A := X
  refine v_eq (lv2 := [(0, .ref (ad 0))]) rfl rfl rfl rfl ?_
  rw [f_X11_distanceErrors] at hf
  refine v_aload_n X dX11_distanceErrors_0 0 rfl rfl 1 rfl ?_
  refine v_get X (C := RX11) (T := TX11) (N := 8) (ci := 12) (v := _) dX11_distanceErrors_1 (lay_of laydst_X11) 0 rfl rfl 3 (by decide) (mw wdst_45) rfl rfl 4 rfl ?_
  refine v_getN X (C := RX5) (T := TX5) (N := 10) (ci := 7) (v := _) dX11_distanceErrors_4 (lay_of laydst_X5) 17 rfl rfl 0 (by decide) nest_RX11_118 rfl rfl 7 rfl ?_
  obtain ⟨o1, ho1, hf⟩ := bnd hf
  refine v_callVi X (ci := 4) (T := TX2) (C := RX2) (As := []) (rest := []) (ws' := (wX11 ad c9 nextPast pastCount i_count i_cells o_count o_cells p_start p_end p_kind p_value p_error p_errorAt p_d_time p_d_tolerance p_d_seed p_d_madeTickets p_d_cheesesOfText p_d_R_rows p_d_R_cells p_d_U_rows p_d_U_cells p_d_S_rows p_d_S_cells p_d_T_rows p_d_T_cells p_d_E_rows p_d_E_cells s_time s_tolerance s_seed s_madeTickets s_cheesesOfText s_R_rows s_R_cells s_U_rows s_U_cells s_S_rows s_S_cells s_T_rows s_T_cells s_E_rows s_E_cells sl asl pa apa)) (c_X2_countDistanceErrors l hG D c9 (fun k => ad ([18, 19].getD k 0)) s_R_rows s_R_cells ho1) 0 (gV wdst_56 wdst_57 wdst_58 wdst_26 wdst_59) rfl rfl rfl ⟨rfl, pd_X2_countDistanceErrors⟩ ⟨Nat.le_of_ble_eq_true rfl, Nat.le_of_ble_eq_true rfl⟩ 18 rfl rfl rfl rfl (Nat.le_of_ble_eq_true rfl) ⟨(by first | exact Nat.le_of_ble_eq_true rfl | omega), (by first | exact Nat.le_of_ble_eq_true rfl | omega)⟩ [18, 19] [0, 1, 2, 3, 4, 5, 6, 7, 8, 9, 10, 11, 12, 13, 14, 15, 16, 17, 20, 21, 22, 23, 24, 25, 26, 27, 28, 29, 30, 31] [0, 1, 2, 3, 4, 5, 6, 7, 8, 9, 10, 11, 12, 13, 14, 15, 16, 17, 30, 31, 18, 19, 20, 21, 22, 23, 24, 25, 26, 27, 28, 29] rfl rfl rfl rfl dX11_distanceErrors_7 10 rfl ?_
  obtain rfl := Option.some.inj hf
  exact v_iret X (by first | exact Nat.le_of_ble_eq_true rfl | omega) (by first | exact Nat.le_of_ble_eq_true rfl | omega) dX11_distanceErrors_10
theorem pd_X11_distanceErrors : yX11_distanceErrors.cls ≠ "java/lang/invoke/MethodHandle" ∧ yX11_distanceErrors.cls ≠ "java/lang/invoke/VarHandle" ∧ (parseMethodDescriptor yX11_distanceErrors.desc).map (fun d => d.parameters.length) = some 0 := by decide +kernel
