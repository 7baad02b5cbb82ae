def f_X0_size (bn : Nat) (b_count : Int32) : Option (Int32) :=
  some (b_count)
set_option maxRecDepth 100000 in
set_option maxHeartbeats 4000000 in
theorem c_X0_size (l : Launch) {G : (Nat → Prop) → State → Heap → Prop} (hG : vG G) (D : va_G) (c9 : Nat → ClassId) (ad : Nat → Nat) (bn : Nat) (b_count : Int32) (b_cells : Nat → Int32)  {o : Int32} (hf : f_X0_size bn b_count = some o) : mI l yX0_size (wq yX0_size cX0_size 1 (some .int)) { frames := 0, cells := 0, slots := 0, locals := 0 } G D (tyA c9) [.ref (ad 0)] (wX0 bn ad c9 b_count b_cells) [] 0 0 o (wX0 bn ad c9 b_count b_cells) := by
  refine mI_of hG (cc := cX0_size) (maxL := 1) (ty := .int) (by decide) rfl (Nat.le_of_ble_eq_true rfl) ?_
  intro p e s m args below meth c A X
  have X : vX p s m args meth c cX0_size 1 (some .int) RX0 (wq yX0_size cX0_size 1 (some .int)) D (tyA c9) G A := X
  refine v_eq (lv2 := [(0, .ref (ad 0))]) rfl rfl rfl rfl ?_
  rw [f_X0_size] at hf
  refine v_aload_n X dX0_size_0 0 rfl rfl 1 rfl ?_
  refine v_get X (C := RX0) (T := TX0) (N := 2) (ci := 2) (v := _) dX0_size_1 (lay_of layc_X0) 0 rfl rfl 1 (by decide) (mw wc_2) rfl rfl 4 rfl ?_
  obtain rfl := Option.some.inj hf
  exact v_iret X (Nat.zero_le _) (Nat.zero_le _) dX0_size_4
theorem pd_X0_size : yX0_size.cls ≠ "java/lang/invoke/MethodHandle" ∧ yX0_size.cls ≠ "java/lang/invoke/VarHandle" ∧ (parseMethodDescriptor yX0_size.desc).map (fun d => d.parameters.length) = some 0 := by decide +kernel
def f_X0_at (bn : Nat) (b_count : Int32) (b_cells : Nat → Int32) (v1 : Int32) : Option (Int32) :=
  Option.bind (if v1 < 0 then (
    some (0))
  else (
    if b_count ≤ v1 then (
      some (0))
    else (
      if (Int32.ofNat bn) ≤ v1 then (
        some (0))
      else (
        some (1)))) : Option (Int32)) fun j1 =>
  if j1 = 0 then (
    some ((-1)))
  else (
    (rd b_cells bn v1).bind fun x2 =>
    some (x2))
set_option maxRecDepth 100000 in
set_option maxHeartbeats 4000000 in
theorem c_X0_at (l : Launch) {G : (Nat → Prop) → State → Heap → Prop} (hG : vG G) (D : va_G) (c9 : Nat → ClassId) (ad : Nat → Nat) (bn : Nat) (b_count : Int32) (b_cells : Nat → Int32) (v1 : Int32) {o : Int32} (hf : f_X0_at bn b_count b_cells v1 = some o) : mI l yX0_at (wq yX0_at cX0_at 3 (some .int)) { frames := 0, cells := 0, slots := 0, locals := 0 } G D (tyA c9) [.ref (ad 0), .int v1] (wX0 bn ad c9 b_count b_cells) [] 0 0 o (wX0 bn ad c9 b_count b_cells) := by
  refine mI_of hG (cc := cX0_at) (maxL := 3) (ty := .int) (by decide) rfl (Nat.le_of_ble_eq_true rfl) ?_
  intro p e s m args below meth c A X
  have X : vX p s m args meth c cX0_at 3 (some .int) RX0 (wq yX0_at cX0_at 3 (some .int)) D (tyA c9) G A := X
  refine v_eq (lv2 := [(0, .ref (ad 0)), (1, .int v1)]) rfl rfl rfl rfl ?_
  rw [f_X0_at] at hf
  refine v_iload_n X dX0_at_0 1 rfl rfl 1 rfl ?_
  obtain ⟨j1, hj1, hf⟩ := bnd hf
  have Jj1 : vW p l e { frames := 0, cells := 0, slots := 0, locals := 0 } s m args below meth c 3 D A [] 0 0 (MQ below (eI D (tyA c9) A o ((wX0 bn ad c9 b_count b_cells) ++ [])) args s 0 0 A) (wX0 bn ad c9 b_count b_cells) 26 [(0, .ref (ad 0)), (1, .int v1)] [.int j1] := by
    refine v_istore_n X (lv' := [(2, .int j1), (0, .ref (ad 0)), (1, .int v1)]) dX0_at_26 rfl (by decide) rfl 27 rfl ?_
    refine v_iload_n X dX0_at_27 0 rfl rfl 28 rfl ?_
    refine v_if_eq X (tgt := 40) dX0_at_28 rfl 31 rfl hf (fun hf => ?_) (fun hf => ?_)
    · refine v_iconst X dX0_at_40 ic_m1 41 rfl ?_
      obtain rfl := Option.some.inj hf
      exact v_iret X (Nat.zero_le _) (Nat.zero_le _) dX0_at_41
    · refine v_aload_n X dX0_at_31 1 rfl rfl 32 rfl ?_
      refine v_get X (C := RX0) (T := TX0) (N := 2) (ci := 2) (v := _) dX0_at_32 (lay_of layc_X0) 0 rfl rfl 0 (by decide) (mw wc_3) rfl rfl 35 rfl ?_
      refine v_iload_n X dX0_at_35 2 rfl rfl 36 rfl ?_
      obtain ⟨x2, hx2, hf⟩ := bnd hf
      refine v_iald X dX0_at_36 1 0 rfl rfl hx2 37 rfl ?_
      refine v_goto X (tgt := 41) dX0_at_37 rfl ?_
      obtain rfl := Option.some.inj hf
      exact v_iret X (Nat.zero_le _) (Nat.zero_le _) dX0_at_41
  clear hf
  refine v_if_lt X (tgt := 25) dX0_at_1 rfl 4 rfl hj1 (fun hf => ?_) (fun hf => ?_)
  · refine v_iconst X dX0_at_25 ic_0 26 rfl ?_
    obtain rfl := Option.some.inj hf
    exact Jj1
  · refine v_iload_n X dX0_at_4 1 rfl rfl 5 rfl ?_
    refine v_aload_n X dX0_at_5 0 rfl rfl 6 rfl ?_
    refine v_get X (C := RX0) (T := TX0) (N := 2) (ci := 2) (v := _) dX0_at_6 (lay_of layc_X0) 0 rfl rfl 1 (by decide) (mw wc_2) rfl rfl 9 rfl ?_
    refine v_icmp_ge X (tgt := 25) dX0_at_9 rfl 12 rfl hf (fun hf => ?_) (fun hf => ?_)
    · refine v_iconst X dX0_at_25 ic_0 26 rfl ?_
      obtain rfl := Option.some.inj hf
      exact Jj1
    · refine v_iload_n X dX0_at_12 1 rfl rfl 13 rfl ?_
      refine v_aload_n X dX0_at_13 0 rfl rfl 14 rfl ?_
      refine v_get X (C := RX0) (T := TX0) (N := 2) (ci := 2) (v := _) dX0_at_14 (lay_of layc_X0) 0 rfl rfl 0 (by decide) (mw wc_3) rfl rfl 17 rfl ?_
      refine v_alen X dX0_at_17 1 0 rfl rfl rfl 18 rfl ?_
      refine v_icmp_ge X (tgt := 25) dX0_at_18 rfl 21 rfl hf (fun hf => ?_) (fun hf => ?_)
      · refine v_iconst X dX0_at_25 ic_0 26 rfl ?_
        obtain rfl := Option.some.inj hf
        exact Jj1
      · refine v_iconst X dX0_at_21 ic_1 22 rfl ?_
        refine v_goto X (tgt := 26) dX0_at_22 rfl ?_
        obtain rfl := Option.some.inj hf
        exact Jj1
theorem pd_X0_at : yX0_at.cls ≠ "java/lang/invoke/MethodHandle" ∧ yX0_at.cls ≠ "java/lang/invoke/VarHandle" ∧ (parseMethodDescriptor yX0_at.desc).map (fun d => d.parameters.length) = some 1 := by decide +kernel
def f_X0_cut (bn : Nat) (b_count : Int32) (v1 : Int32) : Option (Int32) :=
  some (v1)
set_option maxRecDepth 100000 in
set_option maxHeartbeats 4000000 in
theorem c_X0_cut (l : Launch) {G : (Nat → Prop) → State → Heap → Prop} (hG : vG G) (D : va_G) (c9 : Nat → ClassId) (ad : Nat → Nat) (bn : Nat) (b_count : Int32) (b_cells : Nat → Int32) (v1 : Int32) {o : Int32} (hf : f_X0_cut bn b_count v1 = some o) : mV l yX0_cut (wq yX0_cut cX0_cut 2 none) { frames := 0, cells := 0, slots := 0, locals := 0 } G D (tyA c9) [.ref (ad 0), .int v1] (wX0 bn ad c9 b_count b_cells) [] 0 0 (wX0 bn ad c9 o b_cells) := by
  refine mV_of hG (cc := cX0_cut) (maxL := 2) (by decide) rfl (Nat.le_of_ble_eq_true rfl) ?_
  intro p e s m args below meth c A hnm X
  have X : vX p s m args meth c cX0_cut 2 none RX0 (wq yX0_cut cX0_cut 2 none) D (tyA c9) G A := X
  refine v_eq (lv2 := [(0, .ref (ad 0)), (1, .int v1)]) rfl rfl rfl rfl ?_
  rw [f_X0_cut] at hf
  refine v_aload_n X dX0_cut_0 0 rfl rfl 1 rfl ?_
  refine v_iload_n X dX0_cut_1 1 rfl rfl 2 rfl ?_
  refine v_put X (C := RX0) (T := TX0) (N := 2) (ci := 2) (ty := tyX0 1) (ws' := (wX0 bn ad c9 v1 b_cells)) dX0_cut_2 (lay_of layc_X0) 0 rfl rfl 1 (by decide) tyX0 tyX0_ok nmX0 (mw wc_2) rfl rfl (tyX0_ok 1 (by decide)) rfl rfl (Nat.le_of_ble_eq_true rfl) rfl 5 rfl ?_
  obtain rfl := Option.some.inj hf
  exact v_vret X (Nat.zero_le _) (Nat.zero_le _) dX0_cut_5
theorem pd_X0_cut : yX0_cut.cls ≠ "java/lang/invoke/MethodHandle" ∧ yX0_cut.cls ≠ "java/lang/invoke/VarHandle" ∧ (parseMethodDescriptor yX0_cut.desc).map (fun d => d.parameters.length) = some 1 := by decide +kernel
def f_X0_add (bn : Nat) (b_count : Int32) (b_cells : Nat → Int32) (v1 : Int32) : Option (Int32 × (Nat → Int32)) :=
  if b_count < 0 then (
    some (b_count, b_cells))
  else (
    if (Int32.ofNat bn) ≤ b_count then (
      some (b_count, b_cells))
    else (
      (wr b_cells bn b_count (v1 &&& 255)).bind fun g1 =>
      some ((b_count + 1), g1)))
set_option maxRecDepth 100000 in
set_option maxHeartbeats 4000000 in
theorem c_X0_add (l : Launch) {G : (Nat → Prop) → State → Heap → Prop} (hG : vG G) (D : va_G) (c9 : Nat → ClassId) (ad : Nat → Nat) (bn : Nat) (b_count : Int32) (b_cells : Nat → Int32) (v1 : Int32) {o : Int32 × (Nat → Int32)} (hf : f_X0_add bn b_count b_cells v1 = some o) : mV l yX0_add (wq yX0_add cX0_add 2 none) { frames := 0, cells := 0, slots := 0, locals := 0 } G D (tyA c9) [.ref (ad 0), .int v1] (wX0 bn ad c9 b_count b_cells) [] 0 0 (wX0 bn ad c9 o.1 o.2) := by
  refine mV_of hG (cc := cX0_add) (maxL := 2) (by decide) rfl (Nat.le_of_ble_eq_true rfl) ?_
  intro p e s m args below meth c A hnm X
  have X : vX p s m args meth c cX0_add 2 none RX0 (wq yX0_add cX0_add 2 none) D (tyA c9) G A := X
  refine v_eq (lv2 := [(0, .ref (ad 0)), (1, .int v1)]) rfl rfl rfl rfl ?_
  rw [f_X0_add] at hf
  refine v_aload_n X dX0_add_0 0 rfl rfl 1 rfl ?_
  refine v_get X (C := RX0) (T := TX0) (N := 2) (ci := 2) (v := _) dX0_add_1 (lay_of layc_X0) 0 rfl rfl 1 (by decide) (mw wc_2) rfl rfl 4 rfl ?_
  refine v_if_lt X (tgt := 43) dX0_add_4 rfl 7 rfl hf (fun hf => ?_) (fun hf => ?_)
  · obtain rfl := Option.some.inj hf
    exact v_vret X (Nat.zero_le _) (Nat.zero_le _) dX0_add_43
  · refine v_aload_n X dX0_add_7 0 rfl rfl 8 rfl ?_
    refine v_get X (C := RX0) (T := TX0) (N := 2) (ci := 2) (v := _) dX0_add_8 (lay_of layc_X0) 0 rfl rfl 1 (by decide) (mw wc_2) rfl rfl 11 rfl ?_
    refine v_aload_n X dX0_add_11 0 rfl rfl 12 rfl ?_
    refine v_get X (C := RX0) (T := TX0) (N := 2) (ci := 2) (v := _) dX0_add_12 (lay_of layc_X0) 0 rfl rfl 0 (by decide) (mw wc_3) rfl rfl 15 rfl ?_
    refine v_alen X dX0_add_15 1 0 rfl rfl rfl 16 rfl ?_
    refine v_icmp_ge X (tgt := 43) dX0_add_16 rfl 19 rfl hf (fun hf => ?_) (fun hf => ?_)
    · obtain rfl := Option.some.inj hf
      exact v_vret X (Nat.zero_le _) (Nat.zero_le _) dX0_add_43
    · refine v_aload_n X dX0_add_19 0 rfl rfl 20 rfl ?_
      refine v_get X (C := RX0) (T := TX0) (N := 2) (ci := 2) (v := _) dX0_add_20 (lay_of layc_X0) 0 rfl rfl 0 (by decide) (mw wc_3) rfl rfl 23 rfl ?_
      refine v_aload_n X dX0_add_23 0 rfl rfl 24 rfl ?_
      refine v_get X (C := RX0) (T := TX0) (N := 2) (ci := 2) (v := _) dX0_add_24 (lay_of layc_X0) 0 rfl rfl 1 (by decide) (mw wc_2) rfl rfl 27 rfl ?_
      refine v_iload_n X dX0_add_27 1 rfl rfl 28 rfl ?_
      refine v_sipush X dX0_add_28 sp_255 31 rfl ?_
      refine v_iand X dX0_add_31 32 rfl ?_
      obtain ⟨g1, hg1, hf⟩ := bnd hf
      refine v_iast X (ws' := (wX0 bn ad c9 b_count g1)) dX0_add_32 1 0 rfl rfl hg1 rfl 33 rfl ?_
      refine v_aload_n X dX0_add_33 0 rfl rfl 34 rfl ?_
      refine v_dup X dX0_add_34 rfl 35 rfl ?_
      refine v_get X (C := RX0) (T := TX0) (N := 2) (ci := 2) (v := _) dX0_add_35 (lay_of layc_X0) 0 rfl rfl 1 (by decide) (mw wc_2) rfl rfl 38 rfl ?_
      refine v_iconst X dX0_add_38 ic_1 39 rfl ?_
      refine v_iadd X dX0_add_39 40 rfl ?_
      refine v_put X (C := RX0) (T := TX0) (N := 2) (ci := 2) (ty := tyX0 1) (ws' := (wX0 bn ad c9 (b_count + 1) g1)) dX0_add_40 (lay_of layc_X0) 0 rfl rfl 1 (by decide) tyX0 tyX0_ok nmX0 (mw wc_2) rfl rfl (tyX0_ok 1 (by decide)) rfl rfl (Nat.le_of_ble_eq_true rfl) rfl 43 rfl ?_
      obtain rfl := Option.some.inj hf
      exact v_vret X (Nat.zero_le _) (Nat.zero_le _) dX0_add_43
theorem pd_X0_add : yX0_add.cls ≠ "java/lang/invoke/MethodHandle" ∧ yX0_add.cls ≠ "java/lang/invoke/VarHandle" ∧ (parseMethodDescriptor yX0_add.desc).map (fun d => d.parameters.length) = some 1 := by decide +kernel
def f_X0_addFour (bn : Nat) (b_count : Int32) (b_cells : Nat → Int32) (v1 : Int32) : Option (Int32 × (Nat → Int32)) :=
  (f_X0_add bn b_count b_cells (ushr v1 24)).bind fun o1 =>
  (f_X0_add bn o1.1 o1.2 (ushr v1 16)).bind fun o2 =>
  (f_X0_add bn o2.1 o2.2 (ushr v1 8)).bind fun o3 =>
  (f_X0_add bn o3.1 o3.2 v1).bind fun o4 =>
  some (o4.1, o4.2)
set_option maxRecDepth 100000 in
set_option maxHeartbeats 4000000 in
theorem c_X0_addFour (l : Launch) {G : (Nat → Prop) → State → Heap → Prop} (hG : vG G) (D : va_G) (c9 : Nat → ClassId) (ad : Nat → Nat) (bn : Nat) (b_count : Int32) (b_cells : Nat → Int32) (v1 : Int32) {o : Int32 × (Nat → Int32)} (hf : f_X0_addFour bn b_count b_cells v1 = some o) : mV l yX0_addFour (wq yX0_addFour cX0_addFour 2 none) { frames := 1, cells := 0, slots := 0, locals := 21 } G D (tyA c9) [.ref (ad 0), .int v1] (wX0 bn ad c9 b_count b_cells) [] 0 0 (wX0 bn ad c9 o.1 o.2) := by
  refine mV_of hG (cc := cX0_addFour) (maxL := 2) (by decide) rfl (Nat.le_of_ble_eq_true rfl) ?_
  intro p e s m args below meth c A hnm X
  have X : vX p s m args meth c cX0_addFour 2 none RX0 (wq yX0_addFour cX0_addFour 2 none) D (tyA c9) G A := X
  refine v_eq (lv2 := [(0, .ref (ad 0)), (1, .int v1)]) rfl rfl rfl rfl ?_
  rw [f_X0_addFour] at hf
  refine v_aload_n X dX0_addFour_0 0 rfl rfl 1 rfl ?_
  refine v_iload_n X dX0_addFour_1 1 rfl rfl 2 rfl ?_
  refine v_bipush X dX0_addFour_2 bp_24 4 rfl ?_
  refine v_iushr X dX0_addFour_4 rfl 5 rfl ?_
  obtain ⟨o1, ho1, hf⟩ := bnd hf
  refine v_callVv X (ci := 2) (T := TX0) (C := RX0) (As := [.int (ushr v1 24)]) (rest := []) (ws' := (wX0 bn ad c9 o1.1 o1.2)) (c_X0_add l hG D c9 ad bn b_count b_cells (ushr v1 24) ho1) 1 (gV wc_4 wc_5 wc_6 wc_7 wc_8) rfl rfl rfl ⟨rfl, pd_X0_add⟩ ⟨Nat.le_of_ble_eq_true rfl, Nat.le_of_ble_eq_true rfl⟩ 0 rfl rfl rfl rfl (Nat.le_of_ble_eq_true rfl) ⟨Nat.zero_le _, Nat.zero_le _⟩ [0, 1] [] [0, 1] rfl rfl rfl rfl dX0_addFour_5 8 rfl ?_
  refine v_aload_n X dX0_addFour_8 0 rfl rfl 9 rfl ?_
  refine v_iload_n X dX0_addFour_9 1 rfl rfl 10 rfl ?_
  refine v_bipush X dX0_addFour_10 bp_16 12 rfl ?_
  refine v_iushr X dX0_addFour_12 rfl 13 rfl ?_
  obtain ⟨o2, ho2, hf⟩ := bnd hf
  refine v_callVv X (ci := 2) (T := TX0) (C := RX0) (As := [.int (ushr v1 16)]) (rest := []) (ws' := (wX0 bn ad c9 o2.1 o2.2)) (c_X0_add l hG D c9 ad bn o1.1 o1.2 (ushr v1 16) ho2) 1 (gV wc_4 wc_5 wc_6 wc_7 wc_8) rfl rfl rfl ⟨rfl, pd_X0_add⟩ ⟨Nat.le_of_ble_eq_true rfl, Nat.le_of_ble_eq_true rfl⟩ 0 rfl rfl rfl rfl (Nat.le_of_ble_eq_true rfl) ⟨Nat.zero_le _, Nat.zero_le _⟩ [0, 1] [] [0, 1] rfl rfl rfl rfl dX0_addFour_13 16 rfl ?_
  refine v_aload_n X dX0_addFour_16 0 rfl rfl 17 rfl ?_
  refine v_iload_n X dX0_addFour_17 1 rfl rfl 18 rfl ?_
  refine v_bipush X dX0_addFour_18 bp_8 20 rfl ?_
  refine v_iushr X dX0_addFour_20 rfl 21 rfl ?_
  obtain ⟨o3, ho3, hf⟩ := bnd hf
  refine v_callVv X (ci := 2) (T := TX0) (C := RX0) (As := [.int (ushr v1 8)]) (rest := []) (ws' := (wX0 bn ad c9 o3.1 o3.2)) (c_X0_add l hG D c9 ad bn o2.1 o2.2 (ushr v1 8) ho3) 1 (gV wc_4 wc_5 wc_6 wc_7 wc_8) rfl rfl rfl ⟨rfl, pd_X0_add⟩ ⟨Nat.le_of_ble_eq_true rfl, Nat.le_of_ble_eq_true rfl⟩ 0 rfl rfl rfl rfl (Nat.le_of_ble_eq_true rfl) ⟨Nat.zero_le _, Nat.zero_le _⟩ [0, 1] [] [0, 1] rfl rfl rfl rfl dX0_addFour_21 24 rfl ?_
  refine v_aload_n X dX0_addFour_24 0 rfl rfl 25 rfl ?_
  refine v_iload_n X dX0_addFour_25 1 rfl rfl 26 rfl ?_
  obtain ⟨o4, ho4, hf⟩ := bnd hf
  refine v_callVv X (ci := 2) (T := TX0) (C := RX0) (As := [.int v1]) (rest := []) (ws' := (wX0 bn ad c9 o4.1 o4.2)) (c_X0_add l hG D c9 ad bn o3.1 o3.2 v1 ho4) 1 (gV wc_4 wc_5 wc_6 wc_7 wc_8) rfl rfl rfl ⟨rfl, pd_X0_add⟩ ⟨Nat.le_of_ble_eq_true rfl, Nat.le_of_ble_eq_true rfl⟩ 0 rfl rfl rfl rfl (Nat.le_of_ble_eq_true rfl) ⟨Nat.zero_le _, Nat.zero_le _⟩ [0, 1] [] [0, 1] rfl rfl rfl rfl dX0_addFour_26 29 rfl ?_
  obtain rfl := Option.some.inj hf
  exact v_vret X (Nat.zero_le _) (Nat.zero_le _) dX0_addFour_29
theorem pd_X0_addFour : yX0_addFour.cls ≠ "java/lang/invoke/MethodHandle" ∧ yX0_addFour.cls ≠ "java/lang/invoke/VarHandle" ∧ (parseMethodDescriptor yX0_addFour.desc).map (fun d => d.parameters.length) = some 1 := by decide +kernel
def f_X0_addText_L2 (bn : Nat) (w1 : Nat) : Nat → Int32 → (Nat → Int32) → Int32 → Option (Int32 × (Nat → Int32))
  | 0, _, _, _ => none
  | n + 1, b_count, b_cells, v2 =>
    if (slen w1) ≤ v2 then (
      some (b_count, b_cells))
    else (
      (sch w1 v2).bind fun x1 =>
      (f_X0_add bn b_count b_cells x1).bind fun o2 =>
      f_X0_addText_L2 bn w1 n o2.1 o2.2 (v2 + 1))
def f_X0_addText (bn : Nat) (b_count : Int32) (b_cells : Nat → Int32) (w1 : Nat) : Option (Int32 × (Nat → Int32)) :=
  (f_X0_addText_L2 bn w1 5000 b_count b_cells 0).bind fun o3 =>
  some (o3.1, o3.2)
set_option maxRecDepth 100000 in
set_option maxHeartbeats 4000000 in
theorem l_X0_addText_L2 (l : Launch) {G : (Nat → Prop) → State → Heap → Prop} (hG : vG G) (D : va_G) (c9 : Nat → ClassId) (sk sv : Nat → Nat) (hGU : ∀ (A : Nat → Prop) (U : State) (H : Heap), G A U H → vU sk sv A U H) (ad : Nat → Nat) (bn : Nat) (w1 : Nat) (hw1 : w1 < nJS) {p : Program} {e : Env} {s : State} {m : MethodId} {args : Array Value} {below : List Frame} {meth : Method} {c : Code} {A : Nat → Prop} {F : va_W} (X : vX p s m args meth c cX0_addText 3 none RX0 (wq yX0_addText cX0_addText 3 none) D (tyA c9) G A) {Q : State → Prop} (o : Int32 × (Nat → Int32)) (K : vW p l e { frames := 5, cells := 0, slots := 0, locals := 150 } s m args below meth c 3 D A F 0 0 Q (wX0 bn ad c9 o.1 o.2) 25 [] []) :
    ∀ (n : Nat) (b_count : Int32) (b_cells : Nat → Int32) (v2 : Int32), f_X0_addText_L2 bn w1 n b_count b_cells v2 = some o → vW p l e { frames := 5, cells := 0, slots := 0, locals := 150 } s m args below meth c 3 D A F 0 0 Q (wX0 bn ad c9 b_count b_cells) 2 [(0, .ref (ad 0)), (1, .ref (sk w1)), (2, .int v2)] [] := by
  intro n
  induction n with
  | zero =>
    intro b_count b_cells v2 hf
    rw [f_X0_addText_L2] at hf
    cases hf
  | succ n ih =>
    intro b_count b_cells v2 hf
    rw [f_X0_addText_L2] at hf
    refine v_iload_n X dX0_addText_2 2 rfl rfl 3 rfl ?_
    refine v_aload_n X dX0_addText_3 1 rfl rfl 4 rfl ?_
    refine v_slen X hGU hw1 (gV wc_9 wc_10 wc_11 wc_12 wc_13) ⟨Nat.le_of_ble_eq_true rfl, Nat.le_of_ble_eq_true rfl⟩ (rest := [.int v2]) (Nat.le_of_ble_eq_true rfl) ⟨Nat.zero_le _, Nat.zero_le _⟩ dX0_addText_4 7 rfl ?_
    refine v_icmp_ge X (tgt := 25) dX0_addText_7 rfl 10 rfl hf (fun hf => ?_) (fun hf => ?_)
    · obtain rfl := Option.some.inj hf
      refine v_sub (lv' := []) [] rfl ?_
      exact K
    · refine v_aload_n X dX0_addText_10 0 rfl rfl 11 rfl ?_
      refine v_aload_n X dX0_addText_11 1 rfl rfl 12 rfl ?_
      refine v_iload_n X dX0_addText_12 2 rfl rfl 13 rfl ?_
      obtain ⟨x1, hx1, hf⟩ := bnd hf
      refine v_sch X hGU hw1 hx1 (gV wc_14 wc_15 wc_16 wc_12 wc_17) ⟨Nat.le_of_ble_eq_true rfl, Nat.le_of_ble_eq_true rfl⟩ (rest := [.ref (ad 0)]) (Nat.le_of_ble_eq_true rfl) ⟨Nat.zero_le _, Nat.zero_le _⟩ dX0_addText_13 16 rfl ?_
      obtain ⟨o2, ho2, hf⟩ := bnd hf
      refine v_callVv X (ci := 2) (T := TX0) (C := RX0) (As := [.int x1]) (rest := []) (ws' := (wX0 bn ad c9 o2.1 o2.2)) (c_X0_add l hG D c9 ad bn b_count b_cells x1 ho2) 1 (gV wc_4 wc_5 wc_6 wc_7 wc_8) rfl rfl rfl ⟨rfl, pd_X0_add⟩ ⟨Nat.le_of_ble_eq_true rfl, Nat.le_of_ble_eq_true rfl⟩ 0 rfl rfl rfl rfl (Nat.le_of_ble_eq_true rfl) ⟨Nat.zero_le _, Nat.zero_le _⟩ [0, 1] [] [0, 1] rfl rfl rfl rfl dX0_addText_16 19 rfl ?_
      refine v_iinc X (lv' := [(2, .int (v2 + 1)), (0, .ref (ad 0)), (1, .ref (sk w1))]) dX0_addText_19 2 rfl ic_1 (by decide) rfl 22 rfl ?_
      refine v_goto X (tgt := 2) dX0_addText_22 rfl ?_
      refine v_sub (lv' := [(0, .ref (ad 0)), (1, .ref (sk w1)), (2, .int (v2 + 1))]) [1, 2, 0] rfl ?_
      exact ih o2.1 o2.2 (v2 + 1) hf
set_option maxRecDepth 100000 in
set_option maxHeartbeats 4000000 in
theorem c_X0_addText (l : Launch) {G : (Nat → Prop) → State → Heap → Prop} (hG : vG G) (D : va_G) (c9 : Nat → ClassId) (sk sv : Nat → Nat) (hGU : ∀ (A : Nat → Prop) (U : State) (H : Heap), G A U H → vU sk sv A U H) (ad : Nat → Nat) (bn : Nat) (b_count : Int32) (b_cells : Nat → Int32) (w1 : Nat) (hw1 : w1 < nJS) {o : Int32 × (Nat → Int32)} (hf : f_X0_addText bn b_count b_cells w1 = some o) : mV l yX0_addText (wq yX0_addText cX0_addText 3 none) { frames := 5, cells := 0, slots := 0, locals := 150 } G D (tyA c9) [.ref (ad 0), .ref (sk w1)] (wX0 bn ad c9 b_count b_cells) [] 0 0 (wX0 bn ad c9 o.1 o.2) := by
  refine mV_of hG (cc := cX0_addText) (maxL := 3) (by decide) rfl (Nat.le_of_ble_eq_true rfl) ?_
  intro p e s m args below meth c A hnm X
  have X : vX p s m args meth c cX0_addText 3 none RX0 (wq yX0_addText cX0_addText 3 none) D (tyA c9) G A := X
  refine v_eq (lv2 := [(0, .ref (ad 0)), (1, .ref (sk w1))]) rfl rfl rfl rfl ?_
  rw [f_X0_addText] at hf
  refine v_iconst X dX0_addText_0 ic_0 1 rfl ?_
  refine v_istore_n X (lv' := [(2, .int 0), (0, .ref (ad 0)), (1, .ref (sk w1))]) dX0_addText_1 rfl (by decide) rfl 2 rfl ?_
  obtain ⟨o3, ho3, hf⟩ := bnd hf
  refine v_sub (lv' := [(0, .ref (ad 0)), (1, .ref (sk w1)), (2, .int 0)]) [1, 2, 0] rfl ?_
  refine l_X0_addText_L2 l hG D c9 sk sv hGU ad bn w1 hw1 X o3 ?_ 5000 b_count b_cells 0 ho3
  obtain rfl := Option.some.inj hf
  exact v_vret X (Nat.zero_le _) (Nat.zero_le _) dX0_addText_25
theorem pd_X0_addText : yX0_addText.cls ≠ "java/lang/invoke/MethodHandle" ∧ yX0_addText.cls ≠ "java/lang/invoke/VarHandle" ∧ (parseMethodDescriptor yX0_addText.desc).map (fun d => d.parameters.length) = some 1 := by decide +kernel
def f_X0_endOfRun_L3 (bn : Nat) (b_count : Int32) (b_cells : Nat → Int32) (v2 : Int32) (v3 : Int32) : Nat → Int32 → Option (Int32)
  | 0, _ => none
  | n + 1, v4 =>
    if b_count ≤ v4 then (
      some (v4))
    else (
      (f_X0_at bn b_count b_cells v4).bind fun o1 =>
      if o1 < v2 then (
        some (v4))
      else (
        (f_X0_at bn b_count b_cells v4).bind fun o2 =>
        if v3 < o2 then (
          some (v4))
        else (
          f_X0_endOfRun_L3 bn b_count b_cells v2 v3 n  (v4 + 1))))
def f_X0_endOfRun (bn : Nat) (b_count : Int32) (b_cells : Nat → Int32) (v1 : Int32) (v2 : Int32) (v3 : Int32) : Option (Int32) :=
  (f_X0_endOfRun_L3 bn b_count b_cells v2 v3 5000 v1).bind fun o3 =>
  some (o3)
set_option maxRecDepth 100000 in
set_option maxHeartbeats 4000000 in
theorem l_X0_endOfRun_L3 (l : Launch) {G : (Nat → Prop) → State → Heap → Prop} (hG : vG G) (D : va_G) (c9 : Nat → ClassId) (ad : Nat → Nat) (bn : Nat) (b_count : Int32) (b_cells : Nat → Int32) (v2 : Int32) (v3 : Int32) {p : Program} {e : Env} {s : State} {m : MethodId} {args : Array Value} {below : List Frame} {meth : Method} {c : Code} {A : Nat → Prop} {F : va_W} (X : vX p s m args meth c cX0_endOfRun 5 (some .int) RX0 (wq yX0_endOfRun cX0_endOfRun 5 (some .int)) D (tyA c9) G A) {Q : State → Prop} (o : Int32) (K : vW p l e { frames := 1, cells := 0, slots := 0, locals := 22 } s m args below meth c 5 D A F 0 0 Q (wX0 bn ad c9 b_count b_cells) 38 [(4, .int o)] []) :
    ∀ (n : Nat) (v4 : Int32), f_X0_endOfRun_L3 bn b_count b_cells v2 v3 n v4 = some o → vW p l e { frames := 1, cells := 0, slots := 0, locals := 22 } s m args below meth c 5 D A F 0 0 Q (wX0 bn ad c9 b_count b_cells) 3 [(0, .ref (ad 0)), (2, .int v2), (3, .int v3), (4, .int v4)] [] := by
  intro n
  induction n with
  | zero =>
    intro v4 hf
    rw [f_X0_endOfRun_L3] at hf
    cases hf
  | succ n ih =>
    intro v4 hf
    rw [f_X0_endOfRun_L3] at hf
    refine v_iload X dX0_endOfRun_3 3 rfl 5 rfl ?_
    refine v_aload_n X dX0_endOfRun_5 0 rfl rfl 6 rfl ?_
    refine v_get X (C := RX0) (T := TX0) (N := 2) (ci := 2) (v := _) dX0_endOfRun_6 (lay_of layc_X0) 0 rfl rfl 1 (by decide) (mw wc_2) rfl rfl 9 rfl ?_
    refine v_icmp_ge X (tgt := 38) dX0_endOfRun_9 rfl 12 rfl hf (fun hf => ?_) (fun hf => ?_)
    · obtain rfl := Option.some.inj hf
      refine v_sub (lv' := [(4, .int v4)]) [3] rfl ?_
      exact K
    · refine v_aload_n X dX0_endOfRun_12 0 rfl rfl 13 rfl ?_
      refine v_iload X dX0_endOfRun_13 3 rfl 15 rfl ?_
      obtain ⟨o1, ho1, hf⟩ := bnd hf
      refine v_callVi X (ci := 2) (T := TX0) (C := RX0) (As := [.int v4]) (rest := []) (ws' := (wX0 bn ad c9 b_count b_cells)) (c_X0_at l hG D c9 ad bn b_count b_cells v4 ho1) 1 (gV wc_18 wc_19 wc_20 wc_7 wc_21) rfl rfl rfl ⟨rfl, pd_X0_at⟩ ⟨Nat.le_of_ble_eq_true rfl, Nat.le_of_ble_eq_true rfl⟩ 0 rfl rfl rfl rfl (Nat.le_of_ble_eq_true rfl) ⟨Nat.zero_le _, Nat.zero_le _⟩ [0, 1] [] [0, 1] rfl rfl rfl rfl dX0_endOfRun_15 18 rfl ?_
      refine v_iload_n X dX0_endOfRun_18 1 rfl rfl 19 rfl ?_
      refine v_icmp_lt X (tgt := 38) dX0_endOfRun_19 rfl 22 rfl hf (fun hf => ?_) (fun hf => ?_)
      · obtain rfl := Option.some.inj hf
        refine v_sub (lv' := [(4, .int v4)]) [3] rfl ?_
        exact K
      · refine v_aload_n X dX0_endOfRun_22 0 rfl rfl 23 rfl ?_
        refine v_iload X dX0_endOfRun_23 3 rfl 25 rfl ?_
        obtain ⟨o2, ho2, hf⟩ := bnd hf
        refine v_callVi X (ci := 2) (T := TX0) (C := RX0) (As := [.int v4]) (rest := []) (ws' := (wX0 bn ad c9 b_count b_cells)) (c_X0_at l hG D c9 ad bn b_count b_cells v4 ho2) 1 (gV wc_18 wc_19 wc_20 wc_7 wc_21) rfl rfl rfl ⟨rfl, pd_X0_at⟩ ⟨Nat.le_of_ble_eq_true rfl, Nat.le_of_ble_eq_true rfl⟩ 0 rfl rfl rfl rfl (Nat.le_of_ble_eq_true rfl) ⟨Nat.zero_le _, Nat.zero_le _⟩ [0, 1] [] [0, 1] rfl rfl rfl rfl dX0_endOfRun_25 28 rfl ?_
        refine v_iload_n X dX0_endOfRun_28 2 rfl rfl 29 rfl ?_
        refine v_icmp_gt X (tgt := 38) dX0_endOfRun_29 rfl 32 rfl hf (fun hf => ?_) (fun hf => ?_)
        · obtain rfl := Option.some.inj hf
          refine v_sub (lv' := [(4, .int v4)]) [3] rfl ?_
          exact K
        · refine v_iinc X (lv' := [(4, .int (v4 + 1)), (0, .ref (ad 0)), (2, .int v2), (3, .int v3)]) dX0_endOfRun_32 3 rfl ic_1 (by decide) rfl 35 rfl ?_
          refine v_goto X (tgt := 3) dX0_endOfRun_35 rfl ?_
          refine v_sub (lv' := [(0, .ref (ad 0)), (2, .int v2), (3, .int v3), (4, .int (v4 + 1))]) [1, 2, 3, 0] rfl ?_
          exact ih (v4 + 1) hf
set_option maxRecDepth 100000 in
set_option maxHeartbeats 4000000 in
theorem c_X0_endOfRun (l : Launch) {G : (Nat → Prop) → State → Heap → Prop} (hG : vG G) (D : va_G) (c9 : Nat → ClassId) (ad : Nat → Nat) (bn : Nat) (b_count : Int32) (b_cells : Nat → Int32) (v1 : Int32) (v2 : Int32) (v3 : Int32) {o : Int32} (hf : f_X0_endOfRun bn b_count b_cells v1 v2 v3 = some o) : mI l yX0_endOfRun (wq yX0_endOfRun cX0_endOfRun 5 (some .int)) { frames := 1, cells := 0, slots := 0, locals := 22 } G D (tyA c9) [.ref (ad 0), .int v1, .int v2, .int v3] (wX0 bn ad c9 b_count b_cells) [] 0 0 o (wX0 bn ad c9 b_count b_cells) := by
  refine mI_of hG (cc := cX0_endOfRun) (maxL := 5) (ty := .int) (by decide) rfl (Nat.le_of_ble_eq_true rfl) ?_
  intro p e s m args below meth c A X
  have X : vX p s m args meth c cX0_endOfRun 5 (some .int) RX0 (wq yX0_endOfRun cX0_endOfRun 5 (some .int)) D (tyA c9) G A := X
  refine v_eq (lv2 := [(0, .ref (ad 0)), (1, .int v1), (2, .int v2), (3, .int v3)]) rfl rfl rfl rfl ?_
  rw [f_X0_endOfRun] at hf
  refine v_iload_n X dX0_endOfRun_0 1 rfl rfl 1 rfl ?_
  refine v_istore X (lv' := [(4, .int v1), (0, .ref (ad 0)), (1, .int v1), (2, .int v2), (3, .int v3)]) dX0_endOfRun_1 (by decide) rfl 3 rfl ?_
  obtain ⟨o3, ho3, hf⟩ := bnd hf
  refine v_sub (lv' := [(0, .ref (ad 0)), (2, .int v2), (3, .int v3), (4, .int v1)]) [1, 3, 4, 0] rfl ?_
  refine l_X0_endOfRun_L3 l hG D c9 ad bn b_count b_cells v2 v3 X o3 ?_ 5000 v1 ho3
  refine v_iload X dX0_endOfRun_38 0 rfl 40 rfl ?_
  obtain rfl := Option.some.inj hf
  exact v_iret X (Nat.zero_le _) (Nat.zero_le _) dX0_endOfRun_40
theorem pd_X0_endOfRun : yX0_endOfRun.cls ≠ "java/lang/invoke/MethodHandle" ∧ yX0_endOfRun.cls ≠ "java/lang/invoke/VarHandle" ∧ (parseMethodDescriptor yX0_endOfRun.desc).map (fun d => d.parameters.length) = some 3 := by decide +kernel
def f_X0_endOfBlanks_L2 (bn : Nat) (b_count : Int32) (b_cells : Nat → Int32) : Nat → Int32 → Option (Int32)
  | 0, _ => none
  | n + 1, v2 =>
    if b_count ≤ v2 then (
      some (v2))
    else (
      (f_X0_at bn b_count b_cells v2).bind fun o1 =>
      if o1 = 32 then (
        f_X0_endOfBlanks_L2 bn b_count b_cells n  (v2 + 1))
      else (
        (f_X0_at bn b_count b_cells v2).bind fun o2 =>
        if o2 = 10 then (
          f_X0_endOfBlanks_L2 bn b_count b_cells n  (v2 + 1))
        else (
          some (v2))))
def f_X0_endOfBlanks (bn : Nat) (b_count : Int32) (b_cells : Nat → Int32) (v1 : Int32) : Option (Int32) :=
  (f_X0_endOfBlanks_L2 bn b_count b_cells 5000 v1).bind fun o3 =>
  some (o3)
set_option maxRecDepth 100000 in
set_option maxHeartbeats 4000000 in
theorem l_X0_endOfBlanks_L2 (l : Launch) {G : (Nat → Prop) → State → Heap → Prop} (hG : vG G) (D : va_G) (c9 : Nat → ClassId) (ad : Nat → Nat) (bn : Nat) (b_count : Int32) (b_cells : Nat → Int32) {p : Program} {e : Env} {s : State} {m : MethodId} {args : Array Value} {below : List Frame} {meth : Method} {c : Code} {A : Nat → Prop} {F : va_W} (X : vX p s m args meth c cX0_endOfBlanks 3 (some .int) RX0 (wq yX0_endOfBlanks cX0_endOfBlanks 3 (some .int)) D (tyA c9) G A) {Q : State → Prop} (o : Int32) (K : vW p l e { frames := 1, cells := 0, slots := 0, locals := 22 } s m args below meth c 3 D A F 0 0 Q (wX0 bn ad c9 b_count b_cells) 36 [(2, .int o)] []) :
    ∀ (n : Nat) (v2 : Int32), f_X0_endOfBlanks_L2 bn b_count b_cells n v2 = some o → vW p l e { frames := 1, cells := 0, slots := 0, locals := 22 } s m args below meth c 3 D A F 0 0 Q (wX0 bn ad c9 b_count b_cells) 2 [(0, .ref (ad 0)), (2, .int v2)] [] := by
  intro n
  induction n with
  | zero =>
    intro v2 hf
    rw [f_X0_endOfBlanks_L2] at hf
    cases hf
  | succ n ih =>
    intro v2 hf
    rw [f_X0_endOfBlanks_L2] at hf
    refine v_iload_n X dX0_endOfBlanks_2 1 rfl rfl 3 rfl ?_
    refine v_aload_n X dX0_endOfBlanks_3 0 rfl rfl 4 rfl ?_
    refine v_get X (C := RX0) (T := TX0) (N := 2) (ci := 2) (v := _) dX0_endOfBlanks_4 (lay_of layc_X0) 0 rfl rfl 1 (by decide) (mw wc_2) rfl rfl 7 rfl ?_
    refine v_icmp_ge X (tgt := 36) dX0_endOfBlanks_7 rfl 10 rfl hf (fun hf => ?_) (fun hf => ?_)
    · obtain rfl := Option.some.inj hf
      refine v_sub (lv' := [(2, .int v2)]) [1] rfl ?_
      exact K
    · refine v_aload_n X dX0_endOfBlanks_10 0 rfl rfl 11 rfl ?_
      refine v_iload_n X dX0_endOfBlanks_11 1 rfl rfl 12 rfl ?_
      obtain ⟨o1, ho1, hf⟩ := bnd hf
      refine v_callVi X (ci := 2) (T := TX0) (C := RX0) (As := [.int v2]) (rest := []) (ws' := (wX0 bn ad c9 b_count b_cells)) (c_X0_at l hG D c9 ad bn b_count b_cells v2 ho1) 1 (gV wc_18 wc_19 wc_20 wc_7 wc_21) rfl rfl rfl ⟨rfl, pd_X0_at⟩ ⟨Nat.le_of_ble_eq_true rfl, Nat.le_of_ble_eq_true rfl⟩ 0 rfl rfl rfl rfl (Nat.le_of_ble_eq_true rfl) ⟨Nat.zero_le _, Nat.zero_le _⟩ [0, 1] [] [0, 1] rfl rfl rfl rfl dX0_endOfBlanks_12 15 rfl ?_
      refine v_bipush X dX0_endOfBlanks_15 bp_32 17 rfl ?_
      refine v_icmp_eq X (tgt := 30) dX0_endOfBlanks_17 rfl 20 rfl hf (fun hf => ?_) (fun hf => ?_)
      · refine v_iinc X (lv' := [(2, .int (v2 + 1)), (0, .ref (ad 0))]) dX0_endOfBlanks_30 1 rfl ic_1 (by decide) rfl 33 rfl ?_
        refine v_goto X (tgt := 2) dX0_endOfBlanks_33 rfl ?_
        refine v_sub (lv' := [(0, .ref (ad 0)), (2, .int (v2 + 1))]) [1, 0] rfl ?_
        exact ih (v2 + 1) hf
      · refine v_aload_n X dX0_endOfBlanks_20 0 rfl rfl 21 rfl ?_
        refine v_iload_n X dX0_endOfBlanks_21 1 rfl rfl 22 rfl ?_
        obtain ⟨o2, ho2, hf⟩ := bnd hf
        refine v_callVi X (ci := 2) (T := TX0) (C := RX0) (As := [.int v2]) (rest := []) (ws' := (wX0 bn ad c9 b_count b_cells)) (c_X0_at l hG D c9 ad bn b_count b_cells v2 ho2) 1 (gV wc_18 wc_19 wc_20 wc_7 wc_21) rfl rfl rfl ⟨rfl, pd_X0_at⟩ ⟨Nat.le_of_ble_eq_true rfl, Nat.le_of_ble_eq_true rfl⟩ 0 rfl rfl rfl rfl (Nat.le_of_ble_eq_true rfl) ⟨Nat.zero_le _, Nat.zero_le _⟩ [0, 1] [] [0, 1] rfl rfl rfl rfl dX0_endOfBlanks_22 25 rfl ?_
        refine v_bipush X dX0_endOfBlanks_25 bp_10 27 rfl ?_
        refine v_icmp_ne X (tgt := 36) dX0_endOfBlanks_27 rfl 30 rfl hf (fun hf => ?_) (fun hf => ?_)
        · obtain rfl := Option.some.inj hf
          refine v_sub (lv' := [(2, .int v2)]) [1] rfl ?_
          exact K
        · refine v_iinc X (lv' := [(2, .int (v2 + 1)), (0, .ref (ad 0))]) dX0_endOfBlanks_30 1 rfl ic_1 (by decide) rfl 33 rfl ?_
          refine v_goto X (tgt := 2) dX0_endOfBlanks_33 rfl ?_
          refine v_sub (lv' := [(0, .ref (ad 0)), (2, .int (v2 + 1))]) [1, 0] rfl ?_
          exact ih (v2 + 1) hf
set_option maxRecDepth 100000 in
set_option maxHeartbeats 4000000 in
theorem c_X0_endOfBlanks (l : Launch) {G : (Nat → Prop) → State → Heap → Prop} (hG : vG G) (D : va_G) (c9 : Nat → ClassId) (ad : Nat → Nat) (bn : Nat) (b_count : Int32) (b_cells : Nat → Int32) (v1 : Int32) {o : Int32} (hf : f_X0_endOfBlanks bn b_count b_cells v1 = some o) : mI l yX0_endOfBlanks (wq yX0_endOfBlanks cX0_endOfBlanks 3 (some .int)) { frames := 1, cells := 0, slots := 0, locals := 22 } G D (tyA c9) [.ref (ad 0), .int v1] (wX0 bn ad c9 b_count b_cells) [] 0 0 o (wX0 bn ad c9 b_count b_cells) := by
  refine mI_of hG (cc := cX0_endOfBlanks) (maxL := 3) (ty := .int) (by decide) rfl (Nat.le_of_ble_eq_true rfl) ?_
  intro p e s m args below meth c A X
  have X : vX p s m args meth c cX0_endOfBlanks 3 (some .int) RX0 (wq yX0_endOfBlanks cX0_endOfBlanks 3 (some .int)) D (tyA c9) G A := X
  refine v_eq (lv2 := [(0, .ref (ad 0)), (1, .int v1)]) rfl rfl rfl rfl ?_
  rw [f_X0_endOfBlanks] at hf
  refine v_iload_n X dX0_endOfBlanks_0 1 rfl rfl 1 rfl ?_
  refine v_istore_n X (lv' := [(2, .int v1), (0, .ref (ad 0)), (1, .int v1)]) dX0_endOfBlanks_1 rfl (by decide) rfl 2 rfl ?_
  obtain ⟨o3, ho3, hf⟩ := bnd hf
  refine v_sub (lv' := [(0, .ref (ad 0)), (2, .int v1)]) [1, 0] rfl ?_
  refine l_X0_endOfBlanks_L2 l hG D c9 ad bn b_count b_cells X o3 ?_ 5000 v1 ho3
  refine v_iload_n X dX0_endOfBlanks_36 0 rfl rfl 37 rfl ?_
  obtain rfl := Option.some.inj hf
  exact v_iret X (Nat.zero_le _) (Nat.zero_le _) dX0_endOfBlanks_37
theorem pd_X0_endOfBlanks : yX0_endOfBlanks.cls ≠ "java/lang/invoke/MethodHandle" ∧ yX0_endOfBlanks.cls ≠ "java/lang/invoke/VarHandle" ∧ (parseMethodDescriptor yX0_endOfBlanks.desc).map (fun d => d.parameters.length) = some 1 := by decide +kernel
def f_X0_nameBetween_L19 (bn : Nat) (b_count : Int32) (b_cells : Nat → Int32) (v2 : Int32) : Nat → Int32 → Int32 → Int32 → Option (Int32 × Int32)
  | 0, _, _, _ => none
  | n + 1, v3, v4, v5 =>
    if v3 = 0 then (
      some (v3, v4))
    else (
      if v2 ≤ v5 then (
        some (v3, v4))
      else (
        (f_X0_at bn b_count b_cells v5).bind fun o2 =>
        Option.bind (if o2 < 97 then (
          some (0))
        else (
          (f_X0_at bn b_count b_cells v5).bind fun o4 =>
          if 122 < o4 then (
            some (0))
          else (
            some (1))) : Option (Int32)) fun j3 =>
        (f_X0_at bn b_count b_cells v5).bind fun o5 =>
        f_X0_nameBetween_L19 bn b_count b_cells v2 n  j3 ((v4 <<< (8 &&& 31)) ||| o5) (v5 + 1)))
def f_X0_nameBetween (bn : Nat) (b_count : Int32) (b_cells : Nat → Int32) (v1 : Int32) (v2 : Int32) : Option (Int32) :=
  Option.bind (if 4 < (v2 - v1) then (
    some (0))
  else (
    some (1)) : Option (Int32)) fun j1 =>
  (f_X0_nameBetween_L19 bn b_count b_cells v2 5000 j1 0 v1).bind fun o6 =>
  if o6.1 = 0 then (
    some (0))
  else (
    some (o6.2))
set_option maxRecDepth 100000 in
set_option maxHeartbeats 4000000 in
theorem l_X0_nameBetween_L19 (l : Launch) {G : (Nat → Prop) → State → Heap → Prop} (hG : vG G) (D : va_G) (c9 : Nat → ClassId) (ad : Nat → Nat) (bn : Nat) (b_count : Int32) (b_cells : Nat → Int32) (v2 : Int32) {p : Program} {e : Env} {s : State} {m : MethodId} {args : Array Value} {below : List Frame} {meth : Method} {c : Code} {A : Nat → Prop} {F : va_W} (X : vX p s m args meth c cX0_nameBetween 6 (some .int) RX0 (wq yX0_nameBetween cX0_nameBetween 6 (some .int)) D (tyA c9) G A) {Q : State → Prop} (o : Int32 × Int32) (K : vW p l e { frames := 1, cells := 0, slots := 0, locals := 22 } s m args below meth c 6 D A F 0 0 Q (wX0 bn ad c9 b_count b_cells) 77 [(3, .int o.1), (4, .int o.2)] []) :
    ∀ (n : Nat) (v3 : Int32) (v4 : Int32) (v5 : Int32), f_X0_nameBetween_L19 bn b_count b_cells v2 n v3 v4 v5 = some o → vW p l e { frames := 1, cells := 0, slots := 0, locals := 22 } s m args below meth c 6 D A F 0 0 Q (wX0 bn ad c9 b_count b_cells) 19 [(0, .ref (ad 0)), (2, .int v2), (3, .int v3), (4, .int v4), (5, .int v5)] [] := by
  intro n
  induction n with
  | zero =>
    intro v3 v4 v5 hf
    rw [f_X0_nameBetween_L19] at hf
    cases hf
  | succ n ih =>
    intro v3 v4 v5 hf
    rw [f_X0_nameBetween_L19] at hf
    refine v_iload_n X dX0_nameBetween_19 2 rfl rfl 20 rfl ?_
    refine v_if_eq X (tgt := 77) dX0_nameBetween_20 rfl 23 rfl hf (fun hf => ?_) (fun hf => ?_)
    · obtain rfl := Option.some.inj hf
      refine v_sub (lv' := [(3, .int v3), (4, .int v4)]) [2, 3] rfl ?_
      exact K
    · refine v_iload X dX0_nameBetween_23 4 rfl 25 rfl ?_
      refine v_iload_n X dX0_nameBetween_25 1 rfl rfl 26 rfl ?_
      refine v_icmp_ge X (tgt := 77) dX0_nameBetween_26 rfl 29 rfl hf (fun hf => ?_) (fun hf => ?_)
      · obtain rfl := Option.some.inj hf
        refine v_sub (lv' := [(3, .int v3), (4, .int v4)]) [2, 3] rfl ?_
        exact K
      · refine v_aload_n X dX0_nameBetween_29 0 rfl rfl 30 rfl ?_
        refine v_iload X dX0_nameBetween_30 4 rfl 32 rfl ?_
        obtain ⟨o2, ho2, hf⟩ := bnd hf
        refine v_callVi X (ci := 2) (T := TX0) (C := RX0) (As := [.int v5]) (rest := []) (ws' := (wX0 bn ad c9 b_count b_cells)) (c_X0_at l hG D c9 ad bn b_count b_cells v5 ho2) 1 (gV wc_18 wc_19 wc_20 wc_7 wc_21) rfl rfl rfl ⟨rfl, pd_X0_at⟩ ⟨Nat.le_of_ble_eq_true rfl, Nat.le_of_ble_eq_true rfl⟩ 0 rfl rfl rfl rfl (Nat.le_of_ble_eq_true rfl) ⟨Nat.zero_le _, Nat.zero_le _⟩ [0, 1] [] [0, 1] rfl rfl rfl rfl dX0_nameBetween_32 35 rfl ?_
        refine v_bipush X dX0_nameBetween_35 bp_97 37 rfl ?_
        obtain ⟨j3, hj3, hf⟩ := bnd hf
        have Jj3 : vW p l e { frames := 1, cells := 0, slots := 0, locals := 22 } s m args below meth c 6 D A F 0 0 Q (wX0 bn ad c9 b_count b_cells) 56 [(0, .ref (ad 0)), (2, .int v2), (4, .int v4), (5, .int v5)] [.int j3] := by
          refine v_istore_n X (lv' := [(3, .int j3), (0, .ref (ad 0)), (2, .int v2), (4, .int v4), (5, .int v5)]) dX0_nameBetween_56 rfl (by decide) rfl 57 rfl ?_
          refine v_iload X dX0_nameBetween_57 3 rfl 59 rfl ?_
          refine v_bipush X dX0_nameBetween_59 bp_8 61 rfl ?_
          refine v_ishl X dX0_nameBetween_61 62 rfl ?_
          refine v_aload_n X dX0_nameBetween_62 1 rfl rfl 63 rfl ?_
          refine v_iload X dX0_nameBetween_63 4 rfl 65 rfl ?_
          obtain ⟨o5, ho5, hf⟩ := bnd hf
          refine v_callVi X (ci := 2) (T := TX0) (C := RX0) (As := [.int v5]) (rest := [.int (v4 <<< (8 &&& 31))]) (ws' := (wX0 bn ad c9 b_count b_cells)) (c_X0_at l hG D c9 ad bn b_count b_cells v5 ho5) 1 (gV wc_18 wc_19 wc_20 wc_7 wc_21) rfl rfl rfl ⟨rfl, pd_X0_at⟩ ⟨Nat.le_of_ble_eq_true rfl, Nat.le_of_ble_eq_true rfl⟩ 0 rfl rfl rfl rfl (Nat.le_of_ble_eq_true rfl) ⟨Nat.zero_le _, Nat.zero_le _⟩ [0, 1] [] [0, 1] rfl rfl rfl rfl dX0_nameBetween_65 68 rfl ?_
          refine v_ior X dX0_nameBetween_68 69 rfl ?_
          refine v_istore X (lv' := [(4, .int ((v4 <<< (8 &&& 31)) ||| o5)), (3, .int j3), (0, .ref (ad 0)), (2, .int v2), (5, .int v5)]) dX0_nameBetween_69 (by decide) rfl 71 rfl ?_
          refine v_iinc X (lv' := [(5, .int (v5 + 1)), (4, .int ((v4 <<< (8 &&& 31)) ||| o5)), (3, .int j3), (0, .ref (ad 0)), (2, .int v2)]) dX0_nameBetween_71 4 rfl ic_1 (by decide) rfl 74 rfl ?_
          refine v_goto X (tgt := 19) dX0_nameBetween_74 rfl ?_
          refine v_sub (lv' := [(0, .ref (ad 0)), (2, .int v2), (3, .int j3), (4, .int ((v4 <<< (8 &&& 31)) ||| o5)), (5, .int (v5 + 1))]) [3, 4, 2, 1, 0] rfl ?_
          exact ih j3 ((v4 <<< (8 &&& 31)) ||| o5) (v5 + 1) hf
        clear hf
        refine v_icmp_lt X (tgt := 55) dX0_nameBetween_37 rfl 40 rfl hj3 (fun hf => ?_) (fun hf => ?_)
        · refine v_iconst X dX0_nameBetween_55 ic_0 56 rfl ?_
          obtain rfl := Option.some.inj hf
          refine v_sub (lv' := [(0, .ref (ad 0)), (2, .int v2), (4, .int v4), (5, .int v5)]) [0, 1, 3, 4] rfl ?_
          exact Jj3
        · refine v_aload_n X dX0_nameBetween_40 0 rfl rfl 41 rfl ?_
          refine v_iload X dX0_nameBetween_41 4 rfl 43 rfl ?_
          obtain ⟨o4, ho4, hf⟩ := bnd hf
          refine v_callVi X (ci := 2) (T := TX0) (C := RX0) (As := [.int v5]) (rest := []) (ws' := (wX0 bn ad c9 b_count b_cells)) (c_X0_at l hG D c9 ad bn b_count b_cells v5 ho4) 1 (gV wc_18 wc_19 wc_20 wc_7 wc_21) rfl rfl rfl ⟨rfl, pd_X0_at⟩ ⟨Nat.le_of_ble_eq_true rfl, Nat.le_of_ble_eq_true rfl⟩ 0 rfl rfl rfl rfl (Nat.le_of_ble_eq_true rfl) ⟨Nat.zero_le _, Nat.zero_le _⟩ [0, 1] [] [0, 1] rfl rfl rfl rfl dX0_nameBetween_43 46 rfl ?_
          refine v_bipush X dX0_nameBetween_46 bp_122 48 rfl ?_
          refine v_icmp_gt X (tgt := 55) dX0_nameBetween_48 rfl 51 rfl hf (fun hf => ?_) (fun hf => ?_)
          · refine v_iconst X dX0_nameBetween_55 ic_0 56 rfl ?_
            obtain rfl := Option.some.inj hf
            refine v_sub (lv' := [(0, .ref (ad 0)), (2, .int v2), (4, .int v4), (5, .int v5)]) [0, 1, 3, 4] rfl ?_
            exact Jj3
          · refine v_iconst X dX0_nameBetween_51 ic_1 52 rfl ?_
            refine v_goto X (tgt := 56) dX0_nameBetween_52 rfl ?_
            obtain rfl := Option.some.inj hf
            refine v_sub (lv' := [(0, .ref (ad 0)), (2, .int v2), (4, .int v4), (5, .int v5)]) [0, 1, 3, 4] rfl ?_
            exact Jj3
set_option maxRecDepth 100000 in
set_option maxHeartbeats 4000000 in
theorem c_X0_nameBetween (l : Launch) {G : (Nat → Prop) → State → Heap → Prop} (hG : vG G) (D : va_G) (c9 : Nat → ClassId) (ad : Nat → Nat) (bn : Nat) (b_count : Int32) (b_cells : Nat → Int32) (v1 : Int32) (v2 : Int32) {o : Int32} (hf : f_X0_nameBetween bn b_count b_cells v1 v2 = some o) : mI l yX0_nameBetween (wq yX0_nameBetween cX0_nameBetween 6 (some .int)) { frames := 1, cells := 0, slots := 0, locals := 22 } G D (tyA c9) [.ref (ad 0), .int v1, .int v2] (wX0 bn ad c9 b_count b_cells) [] 0 0 o (wX0 bn ad c9 b_count b_cells) := by
  refine mI_of hG (cc := cX0_nameBetween) (maxL := 6) (ty := .int) (by decide) rfl (Nat.le_of_ble_eq_true rfl) ?_
  intro p e s m args below meth c A X
  have X : vX p s m args meth c cX0_nameBetween 6 (some .int) RX0 (wq yX0_nameBetween cX0_nameBetween 6 (some .int)) D (tyA c9) G A := X
  refine v_eq (lv2 := [(0, .ref (ad 0)), (1, .int v1), (2, .int v2)]) rfl rfl rfl rfl ?_
  rw [f_X0_nameBetween] at hf
  refine v_iload_n X dX0_nameBetween_0 2 rfl rfl 1 rfl ?_
  refine v_iload_n X dX0_nameBetween_1 1 rfl rfl 2 rfl ?_
  refine v_isub X dX0_nameBetween_2 3 rfl ?_
  refine v_iconst X dX0_nameBetween_3 ic_4 4 rfl ?_
  obtain ⟨j1, hj1, hf⟩ := bnd hf
  have Jj1 : vW p l e { frames := 1, cells := 0, slots := 0, locals := 22 } s m args below meth c 6 D A [] 0 0 (MQ below (eI D (tyA c9) A o ((wX0 bn ad c9 b_count b_cells) ++ [])) args s 0 0 A) (wX0 bn ad c9 b_count b_cells) 12 [(0, .ref (ad 0)), (1, .int v1), (2, .int v2)] [.int j1] := by
    refine v_istore_n X (lv' := [(3, .int j1), (0, .ref (ad 0)), (1, .int v1), (2, .int v2)]) dX0_nameBetween_12 rfl (by decide) rfl 13 rfl ?_
    refine v_iconst X dX0_nameBetween_13 ic_0 14 rfl ?_
    refine v_istore X (lv' := [(4, .int 0), (3, .int j1), (0, .ref (ad 0)), (1, .int v1), (2, .int v2)]) dX0_nameBetween_14 (by decide) rfl 16 rfl ?_
    refine v_iload_n X dX0_nameBetween_16 3 rfl rfl 17 rfl ?_
    refine v_istore X (lv' := [(5, .int v1), (4, .int 0), (3, .int j1), (0, .ref (ad 0)), (1, .int v1), (2, .int v2)]) dX0_nameBetween_17 (by decide) rfl 19 rfl ?_
    obtain ⟨o6, ho6, hf⟩ := bnd hf
    refine v_sub (lv' := [(0, .ref (ad 0)), (2, .int v2), (3, .int j1), (4, .int 0), (5, .int v1)]) [3, 5, 2, 1, 0] rfl ?_
    refine l_X0_nameBetween_L19 l hG D c9 ad bn b_count b_cells v2 X o6 ?_ 5000 j1 0 v1 ho6
    refine v_iload_n X dX0_nameBetween_77 0 rfl rfl 78 rfl ?_
    refine v_if_eq X (tgt := 86) dX0_nameBetween_78 rfl 81 rfl hf (fun hf => ?_) (fun hf => ?_)
    · refine v_iconst X dX0_nameBetween_86 ic_0 87 rfl ?_
      obtain rfl := Option.some.inj hf
      exact v_iret X (Nat.zero_le _) (Nat.zero_le _) dX0_nameBetween_87
    · refine v_iload X dX0_nameBetween_81 1 rfl 83 rfl ?_
      refine v_goto X (tgt := 87) dX0_nameBetween_83 rfl ?_
      obtain rfl := Option.some.inj hf
      exact v_iret X (Nat.zero_le _) (Nat.zero_le _) dX0_nameBetween_87
  clear hf
  refine v_icmp_gt X (tgt := 11) dX0_nameBetween_4 rfl 7 rfl hj1 (fun hf => ?_) (fun hf => ?_)
  · refine v_iconst X dX0_nameBetween_11 ic_0 12 rfl ?_
    obtain rfl := Option.some.inj hf
    exact Jj1
  · refine v_iconst X dX0_nameBetween_7 ic_1 8 rfl ?_
    refine v_goto X (tgt := 12) dX0_nameBetween_8 rfl ?_
    obtain rfl := Option.some.inj hf
    exact Jj1
theorem pd_X0_nameBetween : yX0_nameBetween.cls ≠ "java/lang/invoke/MethodHandle" ∧ yX0_nameBetween.cls ≠ "java/lang/invoke/VarHandle" ∧ (parseMethodDescriptor yX0_nameBetween.desc).map (fun d => d.parameters.length) = some 2 := by decide +kernel
def f_X0_numberBetween_L5 (bn : Nat) (b_count : Int32) (b_cells : Nat → Int32) (v2 : Int32) : Nat → Int32 → Int32 → Option (Int32)
  | 0, _, _ => none
  | n + 1, v3, v4 =>
    if v2 ≤ v4 then (
      some (v3))
    else (
      (f_X0_at bn b_count b_cells v4).bind fun o1 =>
      f_X0_numberBetween_L5 bn b_count b_cells v2 n  (imin 100000000 (((10 * v3) + o1) - 48)) (v4 + 1))
def f_X0_numberBetween (bn : Nat) (b_count : Int32) (b_cells : Nat → Int32) (v1 : Int32) (v2 : Int32) : Option (Int32) :=
  (f_X0_numberBetween_L5 bn b_count b_cells v2 5000 0 v1).bind fun o2 =>
  some (o2)
set_option maxRecDepth 100000 in
set_option maxHeartbeats 4000000 in
theorem l_X0_numberBetween_L5 (l : Launch) {G : (Nat → Prop) → State → Heap → Prop} (hG : vG G) (D : va_G) (c9 : Nat → ClassId) (ad : Nat → Nat) (bn : Nat) (b_count : Int32) (b_cells : Nat → Int32) (v2 : Int32) {p : Program} {e : Env} {s : State} {m : MethodId} {args : Array Value} {below : List Frame} {meth : Method} {c : Code} {A : Nat → Prop} {F : va_W} (X : vX p s m args meth c cX0_numberBetween 5 (some .int) RX0 (wq yX0_numberBetween cX0_numberBetween 5 (some .int)) D (tyA c9) G A) {Q : State → Prop} (o : Int32) (K : vW p l e { frames := 1, cells := 0, slots := 0, locals := 40 } s m args below meth c 5 D A F 0 0 Q (wX0 bn ad c9 b_count b_cells) 37 [(3, .int o)] []) :
    ∀ (n : Nat) (v3 : Int32) (v4 : Int32), f_X0_numberBetween_L5 bn b_count b_cells v2 n v3 v4 = some o → vW p l e { frames := 1, cells := 0, slots := 0, locals := 40 } s m args below meth c 5 D A F 0 0 Q (wX0 bn ad c9 b_count b_cells) 5 [(0, .ref (ad 0)), (2, .int v2), (3, .int v3), (4, .int v4)] [] := by
  intro n
  induction n with
  | zero =>
    intro v3 v4 hf
    rw [f_X0_numberBetween_L5] at hf
    cases hf
  | succ n ih =>
    intro v3 v4 hf
    rw [f_X0_numberBetween_L5] at hf
    refine v_iload X dX0_numberBetween_5 3 rfl 7 rfl ?_
    refine v_iload_n X dX0_numberBetween_7 1 rfl rfl 8 rfl ?_
    refine v_icmp_ge X (tgt := 37) dX0_numberBetween_8 rfl 11 rfl hf (fun hf => ?_) (fun hf => ?_)
    · obtain rfl := Option.some.inj hf
      refine v_sub (lv' := [(3, .int v3)]) [2] rfl ?_
      exact K
    · refine v_ldc X dX0_numberBetween_11 (X.2.2.2.2.2.1 _ (mw wc_22)) 13 rfl ?_
      refine v_bipush X dX0_numberBetween_13 bp_10 15 rfl ?_
      refine v_iload_n X dX0_numberBetween_15 2 rfl rfl 16 rfl ?_
      refine v_imul X dX0_numberBetween_16 17 rfl ?_
      refine v_aload_n X dX0_numberBetween_17 0 rfl rfl 18 rfl ?_
      refine v_iload X dX0_numberBetween_18 3 rfl 20 rfl ?_
      obtain ⟨o1, ho1, hf⟩ := bnd hf
      refine v_callVi X (ci := 2) (T := TX0) (C := RX0) (As := [.int v4]) (rest := [.int (10 * v3), .int 100000000]) (ws' := (wX0 bn ad c9 b_count b_cells)) (c_X0_at l hG D c9 ad bn b_count b_cells v4 ho1) 1 (gV wc_18 wc_19 wc_20 wc_7 wc_21) rfl rfl rfl ⟨rfl, pd_X0_at⟩ ⟨Nat.le_of_ble_eq_true rfl, Nat.le_of_ble_eq_true rfl⟩ 0 rfl rfl rfl rfl (Nat.le_of_ble_eq_true rfl) ⟨Nat.zero_le _, Nat.zero_le _⟩ [0, 1] [] [0, 1] rfl rfl rfl rfl dX0_numberBetween_20 23 rfl ?_
      refine v_iadd X dX0_numberBetween_23 24 rfl ?_
      refine v_bipush X dX0_numberBetween_24 bp_48 26 rfl ?_
      refine v_isub X dX0_numberBetween_26 27 rfl ?_
      refine v_mmin X dX0_numberBetween_27 (mw wc_23) (mw wc_24) (mw wc_25) (mw wc_26) (Nat.le_of_ble_eq_true rfl) (Nat.le_of_ble_eq_true rfl) (Nat.zero_le _) (Nat.zero_le _) 30 rfl ?_
      refine v_istore_n X (lv' := [(3, .int (imin 100000000 (((10 * v3) + o1) - 48))), (0, .ref (ad 0)), (2, .int v2), (4, .int v4)]) dX0_numberBetween_30 rfl (by decide) rfl 31 rfl ?_
      refine v_iinc X (lv' := [(4, .int (v4 + 1)), (3, .int (imin 100000000 (((10 * v3) + o1) - 48))), (0, .ref (ad 0)), (2, .int v2)]) dX0_numberBetween_31 3 rfl ic_1 (by decide) rfl 34 rfl ?_
      refine v_goto X (tgt := 5) dX0_numberBetween_34 rfl ?_
      refine v_sub (lv' := [(0, .ref (ad 0)), (2, .int v2), (3, .int (imin 100000000 (((10 * v3) + o1) - 48))), (4, .int (v4 + 1))]) [2, 3, 1, 0] rfl ?_
      exact ih (imin 100000000 (((10 * v3) + o1) - 48)) (v4 + 1) hf
set_option maxRecDepth 100000 in
set_option maxHeartbeats 4000000 in
theorem c_X0_numberBetween (l : Launch) {G : (Nat → Prop) → State → Heap → Prop} (hG : vG G) (D : va_G) (c9 : Nat → ClassId) (ad : Nat → Nat) (bn : Nat) (b_count : Int32) (b_cells : Nat → Int32) (v1 : Int32) (v2 : Int32) {o : Int32} (hf : f_X0_numberBetween bn b_count b_cells v1 v2 = some o) : mI l yX0_numberBetween (wq yX0_numberBetween cX0_numberBetween 5 (some .int)) { frames := 1, cells := 0, slots := 0, locals := 40 } G D (tyA c9) [.ref (ad 0), .int v1, .int v2] (wX0 bn ad c9 b_count b_cells) [] 0 0 o (wX0 bn ad c9 b_count b_cells) := by
  refine mI_of hG (cc := cX0_numberBetween) (maxL := 5) (ty := .int) (by decide) rfl (Nat.le_of_ble_eq_true rfl) ?_
  intro p e s m args below meth c A X
  have X : vX p s m args meth c cX0_numberBetween 5 (some .int) RX0 (wq yX0_numberBetween cX0_numberBetween 5 (some .int)) D (tyA c9) G A := X
  refine v_eq (lv2 := [(0, .ref (ad 0)), (1, .int v1), (2, .int v2)]) rfl rfl rfl rfl ?_
  rw [f_X0_numberBetween] at hf
  refine v_iconst X dX0_numberBetween_0 ic_0 1 rfl ?_
  refine v_istore_n X (lv' := [(3, .int 0), (0, .ref (ad 0)), (1, .int v1), (2, .int v2)]) dX0_numberBetween_1 rfl (by decide) rfl 2 rfl ?_
  refine v_iload_n X dX0_numberBetween_2 2 rfl rfl 3 rfl ?_
  refine v_istore X (lv' := [(4, .int v1), (3, .int 0), (0, .ref (ad 0)), (1, .int v1), (2, .int v2)]) dX0_numberBetween_3 (by decide) rfl 5 rfl ?_
  obtain ⟨o2, ho2, hf⟩ := bnd hf
  refine v_sub (lv' := [(0, .ref (ad 0)), (2, .int v2), (3, .int 0), (4, .int v1)]) [2, 4, 1, 0] rfl ?_
  refine l_X0_numberBetween_L5 l hG D c9 ad bn b_count b_cells v2 X o2 ?_ 5000 0 v1 ho2
  refine v_iload_n X dX0_numberBetween_37 0 rfl rfl 38 rfl ?_
  obtain rfl := Option.some.inj hf
  exact v_iret X (Nat.zero_le _) (Nat.zero_le _) dX0_numberBetween_38
theorem pd_X0_numberBetween : yX0_numberBetween.cls ≠ "java/lang/invoke/MethodHandle" ∧ yX0_numberBetween.cls ≠ "java/lang/invoke/VarHandle" ∧ (parseMethodDescriptor yX0_numberBetween.desc).map (fun d => d.parameters.length) = some 2 := by decide +kernel
def f_X0_isText_L20 (bn : Nat) (b_count : Int32) (b_cells : Nat → Int32) (v1 : Int32) (w3 : Nat) : Nat → Int32 → Int32 → Option (Int32)
  | 0, _, _ => none
  | n + 1, v4, v5 =>
    if v4 = 0 then (
      some (v4))
    else (
      if (slen w3) ≤ v5 then (
        some (v4))
      else (
        (f_X0_at bn b_count b_cells (v1 + v5)).bind fun o2 =>
        (sch w3 v5).bind fun x3 =>
        if o2 = x3 then (
          f_X0_isText_L20 bn b_count b_cells v1 w3 n  1 (v5 + 1))
        else (
          f_X0_isText_L20 bn b_count b_cells v1 w3 n  0 (v5 + 1))))
def f_X0_isText (bn : Nat) (b_count : Int32) (b_cells : Nat → Int32) (v1 : Int32) (v2 : Int32) (w3 : Nat) : Option (Int32) :=
  Option.bind (if (v2 - v1) = (slen w3) then (
    some (1))
  else (
    some (0)) : Option (Int32)) fun j1 =>
  (f_X0_isText_L20 bn b_count b_cells v1 w3 5000 j1 0).bind fun o4 =>
  (zr o4).bind fun z5 => some (z5)
set_option maxRecDepth 100000 in
set_option maxHeartbeats 4000000 in
theorem l_X0_isText_L20 (l : Launch) {G : (Nat → Prop) → State → Heap → Prop} (hG : vG G) (D : va_G) (c9 : Nat → ClassId) (sk sv : Nat → Nat) (hGU : ∀ (A : Nat → Prop) (U : State) (H : Heap), G A U H → vU sk sv A U H) (ad : Nat → Nat) (bn : Nat) (b_count : Int32) (b_cells : Nat → Int32) (v1 : Int32) (w3 : Nat) (hw3 : w3 < nJS) {p : Program} {e : Env} {s : State} {m : MethodId} {args : Array Value} {below : List Frame} {meth : Method} {c : Code} {A : Nat → Prop} {F : va_W} (X : vX p s m args meth c cX0_isText 6 (some .boolean) RX0 (wq yX0_isText cX0_isText 6 (some .boolean)) D (tyA c9) G A) {Q : State → Prop} (o : Int32) (K : vW p l e { frames := 5, cells := 0, slots := 0, locals := 150 } s m args below meth c 6 D A F 0 0 Q (wX0 bn ad c9 b_count b_cells) 64 [(4, .int o)] []) :
    ∀ (n : Nat) (v4 : Int32) (v5 : Int32), f_X0_isText_L20 bn b_count b_cells v1 w3 n v4 v5 = some o → vW p l e { frames := 5, cells := 0, slots := 0, locals := 150 } s m args below meth c 6 D A F 0 0 Q (wX0 bn ad c9 b_count b_cells) 20 [(0, .ref (ad 0)), (1, .int v1), (3, .ref (sk w3)), (4, .int v4), (5, .int v5)] [] := by
  intro n
  induction n with
  | zero =>
    intro v4 v5 hf
    rw [f_X0_isText_L20] at hf
    cases hf
  | succ n ih =>
    intro v4 v5 hf
    rw [f_X0_isText_L20] at hf
    refine v_iload X dX0_isText_20 3 rfl 22 rfl ?_
    refine v_if_eq X (tgt := 64) dX0_isText_22 rfl 25 rfl hf (fun hf => ?_) (fun hf => ?_)
    · obtain rfl := Option.some.inj hf
      refine v_sub (lv' := [(4, .int v4)]) [3] rfl ?_
      exact K
    · refine v_iload X dX0_isText_25 4 rfl 27 rfl ?_
      refine v_aload_n X dX0_isText_27 2 rfl rfl 28 rfl ?_
      refine v_slen X hGU hw3 (gV wc_9 wc_10 wc_11 wc_12 wc_13) ⟨Nat.le_of_ble_eq_true rfl, Nat.le_of_ble_eq_true rfl⟩ (rest := [.int v5]) (Nat.le_of_ble_eq_true rfl) ⟨Nat.zero_le _, Nat.zero_le _⟩ dX0_isText_28 31 rfl ?_
      refine v_icmp_ge X (tgt := 64) dX0_isText_31 rfl 34 rfl hf (fun hf => ?_) (fun hf => ?_)
      · obtain rfl := Option.some.inj hf
        refine v_sub (lv' := [(4, .int v4)]) [3] rfl ?_
        exact K
      · refine v_aload_n X dX0_isText_34 0 rfl rfl 35 rfl ?_
        refine v_iload_n X dX0_isText_35 1 rfl rfl 36 rfl ?_
        refine v_iload X dX0_isText_36 4 rfl 38 rfl ?_
        refine v_iadd X dX0_isText_38 39 rfl ?_
        obtain ⟨o2, ho2, hf⟩ := bnd hf
        refine v_callVi X (ci := 2) (T := TX0) (C := RX0) (As := [.int (v1 + v5)]) (rest := []) (ws' := (wX0 bn ad c9 b_count b_cells)) (c_X0_at l hG D c9 ad bn b_count b_cells (v1 + v5) ho2) 1 (gV wc_18 wc_19 wc_20 wc_7 wc_21) rfl rfl rfl ⟨rfl, pd_X0_at⟩ ⟨Nat.le_of_ble_eq_true rfl, Nat.le_of_ble_eq_true rfl⟩ 0 rfl rfl rfl rfl (Nat.le_of_ble_eq_true rfl) ⟨Nat.zero_le _, Nat.zero_le _⟩ [0, 1] [] [0, 1] rfl rfl rfl rfl dX0_isText_39 42 rfl ?_
        refine v_aload_n X dX0_isText_42 2 rfl rfl 43 rfl ?_
        refine v_iload X dX0_isText_43 4 rfl 45 rfl ?_
        obtain ⟨x3, hx3, hf⟩ := bnd hf
        refine v_sch X hGU hw3 hx3 (gV wc_14 wc_15 wc_16 wc_12 wc_17) ⟨Nat.le_of_ble_eq_true rfl, Nat.le_of_ble_eq_true rfl⟩ (rest := [.int o2]) (Nat.le_of_ble_eq_true rfl) ⟨Nat.zero_le _, Nat.zero_le _⟩ dX0_isText_45 48 rfl ?_
        refine v_icmp_ne X (tgt := 55) dX0_isText_48 rfl 51 rfl hf (fun hf => ?_) (fun hf => ?_)
        · refine v_iconst X dX0_isText_55 ic_0 56 rfl ?_
          refine v_istore X (lv' := [(4, .int 0), (0, .ref (ad 0)), (1, .int v1), (3, .ref (sk w3)), (5, .int v5)]) dX0_isText_56 (by decide) rfl 58 rfl ?_
          refine v_iinc X (lv' := [(5, .int (v5 + 1)), (4, .int 0), (0, .ref (ad 0)), (1, .int v1), (3, .ref (sk w3))]) dX0_isText_58 4 rfl ic_1 (by decide) rfl 61 rfl ?_
          refine v_goto X (tgt := 20) dX0_isText_61 rfl ?_
          refine v_sub (lv' := [(0, .ref (ad 0)), (1, .int v1), (3, .ref (sk w3)), (4, .int 0), (5, .int (v5 + 1))]) [2, 3, 4, 1, 0] rfl ?_
          exact ih 0 (v5 + 1) hf
        · refine v_iconst X dX0_isText_51 ic_1 52 rfl ?_
          refine v_goto X (tgt := 56) dX0_isText_52 rfl ?_
          refine v_istore X (lv' := [(4, .int 1), (0, .ref (ad 0)), (1, .int v1), (3, .ref (sk w3)), (5, .int v5)]) dX0_isText_56 (by decide) rfl 58 rfl ?_
          refine v_iinc X (lv' := [(5, .int (v5 + 1)), (4, .int 1), (0, .ref (ad 0)), (1, .int v1), (3, .ref (sk w3))]) dX0_isText_58 4 rfl ic_1 (by decide) rfl 61 rfl ?_
          refine v_goto X (tgt := 20) dX0_isText_61 rfl ?_
          refine v_sub (lv' := [(0, .ref (ad 0)), (1, .int v1), (3, .ref (sk w3)), (4, .int 1), (5, .int (v5 + 1))]) [2, 3, 4, 1, 0] rfl ?_
          exact ih 1 (v5 + 1) hf
set_option maxRecDepth 100000 in
set_option maxHeartbeats 4000000 in
theorem c_X0_isText (l : Launch) {G : (Nat → Prop) → State → Heap → Prop} (hG : vG G) (D : va_G) (c9 : Nat → ClassId) (sk sv : Nat → Nat) (hGU : ∀ (A : Nat → Prop) (U : State) (H : Heap), G A U H → vU sk sv A U H) (ad : Nat → Nat) (bn : Nat) (b_count : Int32) (b_cells : Nat → Int32) (v1 : Int32) (v2 : Int32) (w3 : Nat) (hw3 : w3 < nJS) {o : Int32} (hf : f_X0_isText bn b_count b_cells v1 v2 w3 = some o) : mI l yX0_isText (wq yX0_isText cX0_isText 6 (some .boolean)) { frames := 5, cells := 0, slots := 0, locals := 150 } G D (tyA c9) [.ref (ad 0), .int v1, .int v2, .ref (sk w3)] (wX0 bn ad c9 b_count b_cells) [] 0 0 o (wX0 bn ad c9 b_count b_cells) := by
  refine mI_of hG (cc := cX0_isText) (maxL := 6) (ty := .boolean) (by decide) rfl (Nat.le_of_ble_eq_true rfl) ?_
  intro p e s m args below meth c A X
  have X : vX p s m args meth c cX0_isText 6 (some .boolean) RX0 (wq yX0_isText cX0_isText 6 (some .boolean)) D (tyA c9) G A := X
  refine v_eq (lv2 := [(0, .ref (ad 0)), (1, .int v1), (2, .int v2), (3, .ref (sk w3))]) rfl rfl rfl rfl ?_
  rw [f_X0_isText] at hf
  refine v_iload_n X dX0_isText_0 2 rfl rfl 1 rfl ?_
  refine v_iload_n X dX0_isText_1 1 rfl rfl 2 rfl ?_
  refine v_isub X dX0_isText_2 3 rfl ?_
  refine v_aload_n X dX0_isText_3 3 rfl rfl 4 rfl ?_
  refine v_slen X hGU hw3 (gV wc_9 wc_10 wc_11 wc_12 wc_13) ⟨Nat.le_of_ble_eq_true rfl, Nat.le_of_ble_eq_true rfl⟩ (rest := [.int (v2 - v1)]) (Nat.le_of_ble_eq_true rfl) ⟨Nat.zero_le _, Nat.zero_le _⟩ dX0_isText_4 7 rfl ?_
  obtain ⟨j1, hj1, hf⟩ := bnd hf
  have Jj1 : vW p l e { frames := 5, cells := 0, slots := 0, locals := 150 } s m args below meth c 6 D A [] 0 0 (MQ below (eI D (tyA c9) A o ((wX0 bn ad c9 b_count b_cells) ++ [])) args s 0 0 A) (wX0 bn ad c9 b_count b_cells) 15 [(0, .ref (ad 0)), (1, .int v1), (3, .ref (sk w3))] [.int j1] := by
    refine v_istore X (lv' := [(4, .int j1), (0, .ref (ad 0)), (1, .int v1), (3, .ref (sk w3))]) dX0_isText_15 (by decide) rfl 17 rfl ?_
    refine v_iconst X dX0_isText_17 ic_0 18 rfl ?_
    refine v_istore X (lv' := [(5, .int 0), (4, .int j1), (0, .ref (ad 0)), (1, .int v1), (3, .ref (sk w3))]) dX0_isText_18 (by decide) rfl 20 rfl ?_
    obtain ⟨o4, ho4, hf⟩ := bnd hf
    refine v_sub (lv' := [(0, .ref (ad 0)), (1, .int v1), (3, .ref (sk w3)), (4, .int j1), (5, .int 0)]) [2, 3, 4, 1, 0] rfl ?_
    refine l_X0_isText_L20 l hG D c9 sk sv hGU ad bn b_count b_cells v1 w3 hw3 X o4 ?_ 5000 j1 0 ho4
    refine v_iload X dX0_isText_64 0 rfl 66 rfl ?_
    obtain ⟨z5, hz5, hf⟩ := bnd hf
    obtain rfl := Option.some.inj hf
    exact v_zretq hz5 X (Nat.zero_le _) (Nat.zero_le _) dX0_isText_66
  clear hf
  refine v_icmp_ne X (tgt := 14) dX0_isText_7 rfl 10 rfl hj1 (fun hf => ?_) (fun hf => ?_)
  · refine v_iconst X dX0_isText_14 ic_0 15 rfl ?_
    obtain rfl := Option.some.inj hf
    refine v_sub (lv' := [(0, .ref (ad 0)), (1, .int v1), (3, .ref (sk w3))]) [0, 1, 3] rfl ?_
    exact Jj1
  · refine v_iconst X dX0_isText_10 ic_1 11 rfl ?_
    refine v_goto X (tgt := 15) dX0_isText_11 rfl ?_
    obtain rfl := Option.some.inj hf
    refine v_sub (lv' := [(0, .ref (ad 0)), (1, .int v1), (3, .ref (sk w3))]) [0, 1, 3] rfl ?_
    exact Jj1
theorem pd_X0_isText : yX0_isText.cls ≠ "java/lang/invoke/MethodHandle" ∧ yX0_isText.cls ≠ "java/lang/invoke/VarHandle" ∧ (parseMethodDescriptor yX0_isText.desc).map (fun d => d.parameters.length) = some 3 := by decide +kernel
def f_X6_size (tn : Nat) (t_rows : Int32) : Option (Int32) :=
  some (t_rows)
set_option maxRecDepth 100000 in
set_option maxHeartbeats 4000000 in
theorem c_X6_size (l : Launch) {G : (Nat → Prop) → State → Heap → Prop} (hG : vG G) (D : va_G) (c9 : Nat → ClassId) (ad : Nat → Nat) (tn : Nat) (ci : Nat) (C9 : String) (hci : vwCl[ci]? = some (C9, TX2, 4)) (hwi : ∀ k, k < 4 → u_lay C9 TX2 k ∈ Wg) (t_limit : Int32) (t_width : Int32) (t_rows : Int32) (t_cells : Nat → Int32)  {o : Int32} (hf : f_X6_size tn t_rows = some o) : mI l yX6_size (wq yX6_size cX6_size 1 (some .int)) { frames := 0, cells := 0, slots := 0, locals := 0 } G D (tyA c9) [.ref (ad 0)] (wX6 ci tn ad c9 t_limit t_width t_rows t_cells) [] 0 0 o (wX6 ci tn ad c9 t_limit t_width t_rows t_cells) := by
  refine mI_of hG (cc := cX6_size) (maxL := 1) (ty := .int) (by decide) rfl (Nat.le_of_ble_eq_true rfl) ?_
  intro p e s m args below meth c A X
  have X : vX p s m args meth c cX6_size 1 (some .int) RX6 (wq yX6_size cX6_size 1 (some .int)) D (tyA c9) G A := X
  refine v_eq (lv2 := [(0, .ref (ad 0))]) rfl rfl rfl rfl ?_
  rw [f_X6_size] at hf
  refine v_aload_n X dX6_size_0 0 rfl rfl 1 rfl ?_
  refine v_get X (C := C9) (T := TX2) (N := 4) (ci := ci) (v := _) dX6_size_1 (lay_of hwi) 0 rfl hci 3 (by decide) (mw wc_27) rfl rfl 4 rfl ?_
  obtain rfl := Option.some.inj hf
  exact v_iret X (Nat.zero_le _) (Nat.zero_le _) dX6_size_4
theorem pd_X6_size : yX6_size.cls ≠ "java/lang/invoke/MethodHandle" ∧ yX6_size.cls ≠ "java/lang/invoke/VarHandle" ∧ (parseMethodDescriptor yX6_size.desc).map (fun d => d.parameters.length) = some 0 := by decide +kernel
def f_X6_isFull (tn : Nat) (t_limit : Int32) (t_rows : Int32) : Option (Int32) :=
  if t_rows < t_limit then (
    some (0))
  else (
    some (1))
set_option maxRecDepth 100000 in
set_option maxHeartbeats 4000000 in
theorem c_X6_isFull (l : Launch) {G : (Nat → Prop) → State → Heap → Prop} (hG : vG G) (D : va_G) (c9 : Nat → ClassId) (ad : Nat → Nat) (tn : Nat) (ci : Nat) (C9 : String) (hci : vwCl[ci]? = some (C9, TX2, 4)) (hwi : ∀ k, k < 4 → u_lay C9 TX2 k ∈ Wg) (t_limit : Int32) (t_width : Int32) (t_rows : Int32) (t_cells : Nat → Int32)  {o : Int32} (hf : f_X6_isFull tn t_limit t_rows = some o) : mI l yX6_isFull (wq yX6_isFull cX6_isFull 1 (some .boolean)) { frames := 0, cells := 0, slots := 0, locals := 0 } G D (tyA c9) [.ref (ad 0)] (wX6 ci tn ad c9 t_limit t_width t_rows t_cells) [] 0 0 o (wX6 ci tn ad c9 t_limit t_width t_rows t_cells) := by
  refine mI_of hG (cc := cX6_isFull) (maxL := 1) (ty := .boolean) (by decide) rfl (Nat.le_of_ble_eq_true rfl) ?_
  intro p e s m args below meth c A X
  have X : vX p s m args meth c cX6_isFull 1 (some .boolean) RX6 (wq yX6_isFull cX6_isFull 1 (some .boolean)) D (tyA c9) G A := X
  refine v_eq (lv2 := [(0, .ref (ad 0))]) rfl rfl rfl rfl ?_
  rw [f_X6_isFull] at hf
  refine v_aload_n X dX6_isFull_0 0 rfl rfl 1 rfl ?_
  refine v_get X (C := C9) (T := TX2) (N := 4) (ci := ci) (v := _) dX6_isFull_1 (lay_of hwi) 0 rfl hci 3 (by decide) (mw wc_27) rfl rfl 4 rfl ?_
  refine v_aload_n X dX6_isFull_4 0 rfl rfl 5 rfl ?_
  refine v_get X (C := C9) (T := TX2) (N := 4) (ci := ci) (v := _) dX6_isFull_5 (lay_of hwi) 0 rfl hci 0 (by decide) (mw wc_28) rfl rfl 8 rfl ?_
  refine v_icmp_lt X (tgt := 15) dX6_isFull_8 rfl 11 rfl hf (fun hf => ?_) (fun hf => ?_)
  · refine v_iconst X dX6_isFull_15 ic_0 16 rfl ?_
    obtain rfl := Option.some.inj hf
    exact v_zret X (Nat.zero_le _) (Nat.zero_le _) nz0 dX6_isFull_16
  · refine v_iconst X dX6_isFull_11 ic_1 12 rfl ?_
    refine v_goto X (tgt := 16) dX6_isFull_12 rfl ?_
    obtain rfl := Option.some.inj hf
    exact v_zret X (Nat.zero_le _) (Nat.zero_le _) nz1 dX6_isFull_16
theorem pd_X6_isFull : yX6_isFull.cls ≠ "java/lang/invoke/MethodHandle" ∧ yX6_isFull.cls ≠ "java/lang/invoke/VarHandle" ∧ (parseMethodDescriptor yX6_isFull.desc).map (fun d => d.parameters.length) = some 0 := by decide +kernel
def f_X6_has (tn : Nat) (t_rows : Int32) (v1 : Int32) : Option (Int32) :=
  if v1 < 0 then (
    some (0))
  else (
    if t_rows ≤ v1 then (
      some (0))
    else (
      some (1)))
set_option maxRecDepth 100000 in
set_option maxHeartbeats 4000000 in
theorem c_X6_has (l : Launch) {G : (Nat → Prop) → State → Heap → Prop} (hG : vG G) (D : va_G) (c9 : Nat → ClassId) (ad : Nat → Nat) (tn : Nat) (ci : Nat) (C9 : String) (hci : vwCl[ci]? = some (C9, TX2, 4)) (hwi : ∀ k, k < 4 → u_lay C9 TX2 k ∈ Wg) (t_limit : Int32) (t_width : Int32) (t_rows : Int32) (t_cells : Nat → Int32) (v1 : Int32) {o : Int32} (hf : f_X6_has tn t_rows v1 = some o) : mI l yX6_has (wq yX6_has cX6_has 2 (some .boolean)) { frames := 0, cells := 0, slots := 0, locals := 0 } G D (tyA c9) [.ref (ad 0), .int v1] (wX6 ci tn ad c9 t_limit t_width t_rows t_cells) [] 0 0 o (wX6 ci tn ad c9 t_limit t_width t_rows t_cells) := by
  refine mI_of hG (cc := cX6_has) (maxL := 2) (ty := .boolean) (by decide) rfl (Nat.le_of_ble_eq_true rfl) ?_
  intro p e s m args below meth c A X
  have X : vX p s m args meth c cX6_has 2 (some .boolean) RX6 (wq yX6_has cX6_has 2 (some .boolean)) D (tyA c9) G A := X
  refine v_eq (lv2 := [(0, .ref (ad 0)), (1, .int v1)]) rfl rfl rfl rfl ?_
  rw [f_X6_has] at hf
  refine v_iload_n X dX6_has_0 1 rfl rfl 1 rfl ?_
  refine v_if_lt X (tgt := 16) dX6_has_1 rfl 4 rfl hf (fun hf => ?_) (fun hf => ?_)
  · refine v_iconst X dX6_has_16 ic_0 17 rfl ?_
    obtain rfl := Option.some.inj hf
    exact v_zret X (Nat.zero_le _) (Nat.zero_le _) nz0 dX6_has_17
  · refine v_iload_n X dX6_has_4 1 rfl rfl 5 rfl ?_
    refine v_aload_n X dX6_has_5 0 rfl rfl 6 rfl ?_
    refine v_get X (C := C9) (T := TX2) (N := 4) (ci := ci) (v := _) dX6_has_6 (lay_of hwi) 0 rfl hci 3 (by decide) (mw wc_27) rfl rfl 9 rfl ?_
    refine v_icmp_ge X (tgt := 16) dX6_has_9 rfl 12 rfl hf (fun hf => ?_) (fun hf => ?_)
    · refine v_iconst X dX6_has_16 ic_0 17 rfl ?_
      obtain rfl := Option.some.inj hf
      exact v_zret X (Nat.zero_le _) (Nat.zero_le _) nz0 dX6_has_17
    · refine v_iconst X dX6_has_12 ic_1 13 rfl ?_
      refine v_goto X (tgt := 17) dX6_has_13 rfl ?_
      obtain rfl := Option.some.inj hf
      exact v_zret X (Nat.zero_le _) (Nat.zero_le _) nz1 dX6_has_17
theorem pd_X6_has : yX6_has.cls ≠ "java/lang/invoke/MethodHandle" ∧ yX6_has.cls ≠ "java/lang/invoke/VarHandle" ∧ (parseMethodDescriptor yX6_has.desc).map (fun d => d.parameters.length) = some 1 := by decide +kernel
def f_X6_get (tn : Nat) (t_width : Int32) (t_rows : Int32) (t_cells : Nat → Int32) (v1 : Int32) (v2 : Int32) : Option (Int32) :=
  Option.bind (if v1 < 0 then (
    some (0))
  else (
    if t_rows ≤ v1 then (
      some (0))
    else (
      if ((v1 * t_width) + v2) < 0 then (
        some (0))
      else (
        if (Int32.ofNat tn) ≤ ((v1 * t_width) + v2) then (
          some (0))
        else (
          some (1))))) : Option (Int32)) fun j1 =>
  if j1 = 0 then (
    some (0))
  else (
    (rd t_cells tn ((v1 * t_width) + v2)).bind fun x2 =>
    some (x2))
set_option maxRecDepth 100000 in
set_option maxHeartbeats 4000000 in
theorem c_X6_get (l : Launch) {G : (Nat → Prop) → State → Heap → Prop} (hG : vG G) (D : va_G) (c9 : Nat → ClassId) (ad : Nat → Nat) (tn : Nat) (ci : Nat) (C9 : String) (hci : vwCl[ci]? = some (C9, TX2, 4)) (hwi : ∀ k, k < 4 → u_lay C9 TX2 k ∈ Wg) (t_limit : Int32) (t_width : Int32) (t_rows : Int32) (t_cells : Nat → Int32) (v1 : Int32) (v2 : Int32) {o : Int32} (hf : f_X6_get tn t_width t_rows t_cells v1 v2 = some o) : mI l yX6_get (wq yX6_get cX6_get 5 (some .int)) { frames := 0, cells := 0, slots := 0, locals := 0 } G D (tyA c9) [.ref (ad 0), .int v1, .int v2] (wX6 ci tn ad c9 t_limit t_width t_rows t_cells) [] 0 0 o (wX6 ci tn ad c9 t_limit t_width t_rows t_cells) := by
  refine mI_of hG (cc := cX6_get) (maxL := 5) (ty := .int) (by decide) rfl (Nat.le_of_ble_eq_true rfl) ?_
  intro p e s m args below meth c A X
  have X : vX p s m args meth c cX6_get 5 (some .int) RX6 (wq yX6_get cX6_get 5 (some .int)) D (tyA c9) G A := X
  refine v_eq (lv2 := [(0, .ref (ad 0)), (1, .int v1), (2, .int v2)]) rfl rfl rfl rfl ?_
  rw [f_X6_get] at hf
  refine v_iload_n X dX6_get_0 1 rfl rfl 1 rfl ?_
  refine v_aload_n X dX6_get_1 0 rfl rfl 2 rfl ?_
  refine v_get X (C := C9) (T := TX2) (N := 4) (ci := ci) (v := _) dX6_get_2 (lay_of hwi) 0 rfl hci 1 (by decide) (mw wc_29) rfl rfl 5 rfl ?_
  refine v_imul X dX6_get_5 6 rfl ?_
  refine v_iload_n X dX6_get_6 2 rfl rfl 7 rfl ?_
  refine v_iadd X dX6_get_7 8 rfl ?_
  refine v_istore_n X (lv' := [(3, .int ((v1 * t_width) + v2)), (0, .ref (ad 0)), (1, .int v1), (2, .int v2)]) dX6_get_8 rfl (by decide) rfl 9 rfl ?_
  refine v_iload_n X dX6_get_9 2 rfl rfl 10 rfl ?_
  obtain ⟨j1, hj1, hf⟩ := bnd hf
  have Jj1 : vW p l e { frames := 0, cells := 0, slots := 0, locals := 0 } s m args below meth c 5 D A [] 0 0 (MQ below (eI D (tyA c9) A o ((wX6 ci tn ad c9 t_limit t_width t_rows t_cells) ++ [])) args s 0 0 A) (wX6 ci tn ad c9 t_limit t_width t_rows t_cells) 39 [(0, .ref (ad 0)), (3, .int ((v1 * t_width) + v2))] [.int j1] := by
    refine v_istore X (lv' := [(4, .int j1), (0, .ref (ad 0)), (3, .int ((v1 * t_width) + v2))]) dX6_get_39 (by decide) rfl 41 rfl ?_
    refine v_iload X dX6_get_41 0 rfl 43 rfl ?_
    refine v_if_eq X (tgt := 55) dX6_get_43 rfl 46 rfl hf (fun hf => ?_) (fun hf => ?_)
    · refine v_iconst X dX6_get_55 ic_0 56 rfl ?_
      obtain rfl := Option.some.inj hf
      exact v_iret X (Nat.zero_le _) (Nat.zero_le _) dX6_get_56
    · refine v_aload_n X dX6_get_46 1 rfl rfl 47 rfl ?_
      refine v_get X (C := C9) (T := TX2) (N := 4) (ci := ci) (v := _) dX6_get_47 (lay_of hwi) 0 rfl hci 2 (by decide) (mw wc_30) rfl rfl 50 rfl ?_
      refine v_iload_n X dX6_get_50 2 rfl rfl 51 rfl ?_
      obtain ⟨x2, hx2, hf⟩ := bnd hf
      refine v_iald X dX6_get_51 1 0 rfl rfl hx2 52 rfl ?_
      refine v_goto X (tgt := 56) dX6_get_52 rfl ?_
      obtain rfl := Option.some.inj hf
      exact v_iret X (Nat.zero_le _) (Nat.zero_le _) dX6_get_56
  clear hf
  refine v_if_lt X (tgt := 38) dX6_get_10 rfl 13 rfl hj1 (fun hf => ?_) (fun hf => ?_)
  · refine v_iconst X dX6_get_38 ic_0 39 rfl ?_
    obtain rfl := Option.some.inj hf
    refine v_sub (lv' := [(0, .ref (ad 0)), (3, .int ((v1 * t_width) + v2))]) [1, 0] rfl ?_
    exact Jj1
  · refine v_iload_n X dX6_get_13 2 rfl rfl 14 rfl ?_
    refine v_aload_n X dX6_get_14 1 rfl rfl 15 rfl ?_
    refine v_get X (C := C9) (T := TX2) (N := 4) (ci := ci) (v := _) dX6_get_15 (lay_of hwi) 0 rfl hci 3 (by decide) (mw wc_27) rfl rfl 18 rfl ?_
    refine v_icmp_ge X (tgt := 38) dX6_get_18 rfl 21 rfl hf (fun hf => ?_) (fun hf => ?_)
    · refine v_iconst X dX6_get_38 ic_0 39 rfl ?_
      obtain rfl := Option.some.inj hf
      refine v_sub (lv' := [(0, .ref (ad 0)), (3, .int ((v1 * t_width) + v2))]) [1, 0] rfl ?_
      exact Jj1
    · refine v_iload_n X dX6_get_21 0 rfl rfl 22 rfl ?_
      refine v_if_lt X (tgt := 38) dX6_get_22 rfl 25 rfl hf (fun hf => ?_) (fun hf => ?_)
      · refine v_iconst X dX6_get_38 ic_0 39 rfl ?_
        obtain rfl := Option.some.inj hf
        refine v_sub (lv' := [(0, .ref (ad 0)), (3, .int ((v1 * t_width) + v2))]) [1, 0] rfl ?_
        exact Jj1
      · refine v_iload_n X dX6_get_25 0 rfl rfl 26 rfl ?_
        refine v_aload_n X dX6_get_26 1 rfl rfl 27 rfl ?_
        refine v_get X (C := C9) (T := TX2) (N := 4) (ci := ci) (v := _) dX6_get_27 (lay_of hwi) 0 rfl hci 2 (by decide) (mw wc_30) rfl rfl 30 rfl ?_
        refine v_alen X dX6_get_30 1 0 rfl rfl rfl 31 rfl ?_
        refine v_icmp_ge X (tgt := 38) dX6_get_31 rfl 34 rfl hf (fun hf => ?_) (fun hf => ?_)
        · refine v_iconst X dX6_get_38 ic_0 39 rfl ?_
          obtain rfl := Option.some.inj hf
          refine v_sub (lv' := [(0, .ref (ad 0)), (3, .int ((v1 * t_width) + v2))]) [1, 0] rfl ?_
          exact Jj1
        · refine v_iconst X dX6_get_34 ic_1 35 rfl ?_
          refine v_goto X (tgt := 39) dX6_get_35 rfl ?_
          obtain rfl := Option.some.inj hf
          refine v_sub (lv' := [(0, .ref (ad 0)), (3, .int ((v1 * t_width) + v2))]) [1, 0] rfl ?_
          exact Jj1
theorem pd_X6_get : yX6_get.cls ≠ "java/lang/invoke/MethodHandle" ∧ yX6_get.cls ≠ "java/lang/invoke/VarHandle" ∧ (parseMethodDescriptor yX6_get.desc).map (fun d => d.parameters.length) = some 2 := by decide +kernel
def f_X6_set (tn : Nat) (t_width : Int32) (t_rows : Int32) (t_cells : Nat → Int32) (v1 : Int32) (v2 : Int32) (v3 : Int32) : Option ((Nat → Int32)) :=
  if v1 < 0 then (
    some (t_cells))
  else (
    if t_rows ≤ v1 then (
      some (t_cells))
    else (
      if ((v1 * t_width) + v2) < 0 then (
        some (t_cells))
      else (
        if (Int32.ofNat tn) ≤ ((v1 * t_width) + v2) then (
          some (t_cells))
        else (
          (wr t_cells tn ((v1 * t_width) + v2) v3).bind fun g1 =>
          some (g1)))))
set_option maxRecDepth 100000 in
set_option maxHeartbeats 4000000 in
theorem c_X6_set (l : Launch) {G : (Nat → Prop) → State → Heap → Prop} (hG : vG G) (D : va_G) (c9 : Nat → ClassId) (ad : Nat → Nat) (tn : Nat) (ci : Nat) (C9 : String) (hci : vwCl[ci]? = some (C9, TX2, 4)) (hwi : ∀ k, k < 4 → u_lay C9 TX2 k ∈ Wg) (t_limit : Int32) (t_width : Int32) (t_rows : Int32) (t_cells : Nat → Int32) (v1 : Int32) (v2 : Int32) (v3 : Int32) {o : (Nat → Int32)} (hf : f_X6_set tn t_width t_rows t_cells v1 v2 v3 = some o) : mV l yX6_set (wq yX6_set cX6_set 5 none) { frames := 0, cells := 0, slots := 0, locals := 0 } G D (tyA c9) [.ref (ad 0), .int v1, .int v2, .int v3] (wX6 ci tn ad c9 t_limit t_width t_rows t_cells) [] 0 0 (wX6 ci tn ad c9 t_limit t_width t_rows o) := by
  refine mV_of hG (cc := cX6_set) (maxL := 5) (by decide) rfl (Nat.le_of_ble_eq_true rfl) ?_
  intro p e s m args below meth c A hnm X
  have X : vX p s m args meth c cX6_set 5 none RX6 (wq yX6_set cX6_set 5 none) D (tyA c9) G A := X
  refine v_eq (lv2 := [(0, .ref (ad 0)), (1, .int v1), (2, .int v2), (3, .int v3)]) rfl rfl rfl rfl ?_
  rw [f_X6_set] at hf
  refine v_iload_n X dX6_set_0 1 rfl rfl 1 rfl ?_
  refine v_aload_n X dX6_set_1 0 rfl rfl 2 rfl ?_
  refine v_get X (C := C9) (T := TX2) (N := 4) (ci := ci) (v := _) dX6_set_2 (lay_of hwi) 0 rfl hci 1 (by decide) (mw wc_29) rfl rfl 5 rfl ?_
  refine v_imul X dX6_set_5 6 rfl ?_
  refine v_iload_n X dX6_set_6 2 rfl rfl 7 rfl ?_
  refine v_iadd X dX6_set_7 8 rfl ?_
  refine v_istore X (lv' := [(4, .int ((v1 * t_width) + v2)), (0, .ref (ad 0)), (1, .int v1), (2, .int v2), (3, .int v3)]) dX6_set_8 (by decide) rfl 10 rfl ?_
  refine v_iload_n X dX6_set_10 2 rfl rfl 11 rfl ?_
  refine v_if_lt X (tgt := 45) dX6_set_11 rfl 14 rfl hf (fun hf => ?_) (fun hf => ?_)
  · obtain rfl := Option.some.inj hf
    exact v_vret X (Nat.zero_le _) (Nat.zero_le _) dX6_set_45
  · refine v_iload_n X dX6_set_14 2 rfl rfl 15 rfl ?_
    refine v_aload_n X dX6_set_15 1 rfl rfl 16 rfl ?_
    refine v_get X (C := C9) (T := TX2) (N := 4) (ci := ci) (v := _) dX6_set_16 (lay_of hwi) 0 rfl hci 3 (by decide) (mw wc_27) rfl rfl 19 rfl ?_
    refine v_icmp_ge X (tgt := 45) dX6_set_19 rfl 22 rfl hf (fun hf => ?_) (fun hf => ?_)
    · obtain rfl := Option.some.inj hf
      exact v_vret X (Nat.zero_le _) (Nat.zero_le _) dX6_set_45
    · refine v_iload X dX6_set_22 0 rfl 24 rfl ?_
      refine v_if_lt X (tgt := 45) dX6_set_24 rfl 27 rfl hf (fun hf => ?_) (fun hf => ?_)
      · obtain rfl := Option.some.inj hf
        exact v_vret X (Nat.zero_le _) (Nat.zero_le _) dX6_set_45
      · refine v_iload X dX6_set_27 0 rfl 29 rfl ?_
        refine v_aload_n X dX6_set_29 1 rfl rfl 30 rfl ?_
        refine v_get X (C := C9) (T := TX2) (N := 4) (ci := ci) (v := _) dX6_set_30 (lay_of hwi) 0 rfl hci 2 (by decide) (mw wc_30) rfl rfl 33 rfl ?_
        refine v_alen X dX6_set_33 1 0 rfl rfl rfl 34 rfl ?_
        refine v_icmp_ge X (tgt := 45) dX6_set_34 rfl 37 rfl hf (fun hf => ?_) (fun hf => ?_)
        · obtain rfl := Option.some.inj hf
          exact v_vret X (Nat.zero_le _) (Nat.zero_le _) dX6_set_45
        · refine v_aload_n X dX6_set_37 1 rfl rfl 38 rfl ?_
          refine v_get X (C := C9) (T := TX2) (N := 4) (ci := ci) (v := _) dX6_set_38 (lay_of hwi) 0 rfl hci 2 (by decide) (mw wc_30) rfl rfl 41 rfl ?_
          refine v_iload X dX6_set_41 0 rfl 43 rfl ?_
          refine v_iload_n X dX6_set_43 4 rfl rfl 44 rfl ?_
          obtain ⟨g1, hg1, hf⟩ := bnd hf
          refine v_iast X (ws' := (wX6 ci tn ad c9 t_limit t_width t_rows g1)) dX6_set_44 1 0 rfl rfl hg1 rfl 45 rfl ?_
          obtain rfl := Option.some.inj hf
          exact v_vret X (Nat.zero_le _) (Nat.zero_le _) dX6_set_45
theorem pd_X6_set : yX6_set.cls ≠ "java/lang/invoke/MethodHandle" ∧ yX6_set.cls ≠ "java/lang/invoke/VarHandle" ∧ (parseMethodDescriptor yX6_set.desc).map (fun d => d.parameters.length) = some 3 := by decide +kernel
def f_X6_addRow (tn : Nat) (t_limit : Int32) (t_rows : Int32) : Option (Int32 × Int32) :=
  if t_rows < t_limit then (
    some (((t_rows + 1) - 1), (t_rows + 1)))
  else (
    some ((-1), t_rows))
set_option maxRecDepth 100000 in
set_option maxHeartbeats 4000000 in
theorem c_X6_addRow (l : Launch) {G : (Nat → Prop) → State → Heap → Prop} (hG : vG G) (D : va_G) (c9 : Nat → ClassId) (ad : Nat → Nat) (tn : Nat) (ci : Nat) (C9 : String) (hci : vwCl[ci]? = some (C9, TX2, 4)) (hwi : ∀ k, k < 4 → u_lay C9 TX2 k ∈ Wg) (t_limit : Int32) (t_width : Int32) (t_rows : Int32) (t_cells : Nat → Int32)  {o : Int32 × Int32} (hf : f_X6_addRow tn t_limit t_rows = some o) : mI l yX6_addRow (wq yX6_addRow cX6_addRow 1 (some .int)) { frames := 0, cells := 0, slots := 0, locals := 0 } G D (tyA c9) [.ref (ad 0)] (wX6 ci tn ad c9 t_limit t_width t_rows t_cells) [] 0 0 o.1 (wX6 ci tn ad c9 t_limit t_width o.2 t_cells) := by
  refine mI_of hG (cc := cX6_addRow) (maxL := 1) (ty := .int) (by decide) rfl (Nat.le_of_ble_eq_true rfl) ?_
  intro p e s m args below meth c A X
  have X : vX p s m args meth c cX6_addRow 1 (some .int) RX6 (wq yX6_addRow cX6_addRow 1 (some .int)) D (tyA c9) G A := X
  refine v_eq (lv2 := [(0, .ref (ad 0))]) rfl rfl rfl rfl ?_
  rw [f_X6_addRow] at hf
  refine v_aload_n X dX6_addRow_0 0 rfl rfl 1 rfl ?_
  refine v_get X (C := C9) (T := TX2) (N := 4) (ci := ci) (v := _) dX6_addRow_1 (lay_of hwi) 0 rfl hci 3 (by decide) (mw wc_27) rfl rfl 4 rfl ?_
  refine v_aload_n X dX6_addRow_4 0 rfl rfl 5 rfl ?_
  refine v_get X (C := C9) (T := TX2) (N := 4) (ci := ci) (v := _) dX6_addRow_5 (lay_of hwi) 0 rfl hci 0 (by decide) (mw wc_28) rfl rfl 8 rfl ?_
  refine v_icmp_lt X (tgt := 13) dX6_addRow_8 rfl 11 rfl hf (fun hf => ?_) (fun hf => ?_)
  · refine v_aload_n X dX6_addRow_13 0 rfl rfl 14 rfl ?_
    refine v_dup X dX6_addRow_14 rfl 15 rfl ?_
    refine v_get X (C := C9) (T := TX2) (N := 4) (ci := ci) (v := _) dX6_addRow_15 (lay_of hwi) 0 rfl hci 3 (by decide) (mw wc_27) rfl rfl 18 rfl ?_
    refine v_iconst X dX6_addRow_18 ic_1 19 rfl ?_
    refine v_iadd X dX6_addRow_19 20 rfl ?_
    refine v_put X (C := C9) (T := TX2) (N := 4) (ci := ci) (ty := tyX2 3) (ws' := (wX6 ci tn ad c9 t_limit t_width (t_rows + 1) t_cells)) dX6_addRow_20 (lay_of hwi) 0 rfl hci 3 (by decide) tyX2 tyX2_ok nmX2 (mw wc_27) rfl rfl (tyX2_ok 3 (by decide)) rfl rfl (Nat.le_of_ble_eq_true rfl) rfl 23 rfl ?_
    refine v_aload_n X dX6_addRow_23 0 rfl rfl 24 rfl ?_
    refine v_get X (C := C9) (T := TX2) (N := 4) (ci := ci) (v := _) dX6_addRow_24 (lay_of hwi) 0 rfl hci 3 (by decide) (mw wc_27) rfl rfl 27 rfl ?_
    refine v_iconst X dX6_addRow_27 ic_1 28 rfl ?_
    refine v_isub X dX6_addRow_28 29 rfl ?_
    obtain rfl := Option.some.inj hf
    exact v_iret X (Nat.zero_le _) (Nat.zero_le _) dX6_addRow_29
  · refine v_iconst X dX6_addRow_11 ic_m1 12 rfl ?_
    obtain rfl := Option.some.inj hf
    exact v_iret X (Nat.zero_le _) (Nat.zero_le _) dX6_addRow_12
theorem pd_X6_addRow : yX6_addRow.cls ≠ "java/lang/invoke/MethodHandle" ∧ yX6_addRow.cls ≠ "java/lang/invoke/VarHandle" ∧ (parseMethodDescriptor yX6_addRow.desc).map (fun d => d.parameters.length) = some 0 := by decide +kernel
def f_X6_removeRow_L20 (tn : Nat) (t_width : Int32) (t_rows : Int32) : Nat → (Nat → Int32) → Int32 → Option ((Nat → Int32))
  | 0, _, _ => none
  | n + 1, t_cells, v2 =>
    if ((t_rows - 1) * t_width) ≤ v2 then (
      some (t_cells))
    else (
      if v2 < 0 then (
        f_X6_removeRow_L20 tn t_width t_rows n t_cells (v2 + 1))
      else (
        if (Int32.ofNat tn) ≤ v2 then (
          f_X6_removeRow_L20 tn t_width t_rows n t_cells (v2 + 1))
        else (
          if (v2 + t_width) < 0 then (
            f_X6_removeRow_L20 tn t_width t_rows n t_cells (v2 + 1))
          else (
            if (Int32.ofNat tn) ≤ (v2 + t_width) then (
              f_X6_removeRow_L20 tn t_width t_rows n t_cells (v2 + 1))
            else (
              (rd t_cells tn (v2 + t_width)).bind fun x1 =>
              (wr t_cells tn v2 x1).bind fun g2 =>
              f_X6_removeRow_L20 tn t_width t_rows n g2 (v2 + 1))))))
def f_X6_removeRow (tn : Nat) (t_width : Int32) (t_rows : Int32) (t_cells : Nat → Int32) (v1 : Int32) : Option (Int32 × (Nat → Int32)) :=
  if v1 < 0 then (
    some (t_rows, t_cells))
  else (
    if v1 < t_rows then (
      (f_X6_removeRow_L20 tn t_width t_rows 5000 t_cells (v1 * t_width)).bind fun o3 =>
      some ((t_rows - 1), o3))
    else (
      some (t_rows, t_cells)))
set_option maxRecDepth 100000 in
set_option maxHeartbeats 4000000 in
theorem l_X6_removeRow_L20 (l : Launch) {G : (Nat → Prop) → State → Heap → Prop} (hG : vG G) (D : va_G) (c9 : Nat → ClassId) (ad : Nat → Nat) (tn : Nat) (ci : Nat) (C9 : String) (hci : vwCl[ci]? = some (C9, TX2, 4)) (hwi : ∀ k, k < 4 → u_lay C9 TX2 k ∈ Wg) (t_limit : Int32) (t_width : Int32) (t_rows : Int32) {p : Program} {e : Env} {s : State} {m : MethodId} {args : Array Value} {below : List Frame} {meth : Method} {c : Code} {A : Nat → Prop} {F : va_W} (X : vX p s m args meth c cX6_removeRow 4 none RX6 (wq yX6_removeRow cX6_removeRow 4 none) D (tyA c9) G A) {Q : State → Prop} (o : (Nat → Int32)) (K : vW p l e { frames := 0, cells := 0, slots := 0, locals := 0 } s m args below meth c 4 D A F 0 0 Q (wX6 ci tn ad c9 t_limit t_width t_rows o) 86 [(0, .ref (ad 0))] []) :
    ∀ (n : Nat) (t_cells : Nat → Int32) (v2 : Int32), f_X6_removeRow_L20 tn t_width t_rows n t_cells v2 = some o → vW p l e { frames := 0, cells := 0, slots := 0, locals := 0 } s m args below meth c 4 D A F 0 0 Q (wX6 ci tn ad c9 t_limit t_width t_rows t_cells) 20 [(0, .ref (ad 0)), (2, .int v2)] [] := by
  intro n
  induction n with
  | zero =>
    intro t_cells v2 hf
    rw [f_X6_removeRow_L20] at hf
    cases hf
  | succ n ih =>
    intro t_cells v2 hf
    rw [f_X6_removeRow_L20] at hf
    refine v_iload_n X dX6_removeRow_20 1 rfl rfl 21 rfl ?_
    refine v_aload_n X dX6_removeRow_21 0 rfl rfl 22 rfl ?_
    refine v_get X (C := C9) (T := TX2) (N := 4) (ci := ci) (v := _) dX6_removeRow_22 (lay_of hwi) 0 rfl hci 3 (by decide) (mw wc_27) rfl rfl 25 rfl ?_
    refine v_iconst X dX6_removeRow_25 ic_1 26 rfl ?_
    refine v_isub X dX6_removeRow_26 27 rfl ?_
    refine v_aload_n X dX6_removeRow_27 0 rfl rfl 28 rfl ?_
    refine v_get X (C := C9) (T := TX2) (N := 4) (ci := ci) (v := _) dX6_removeRow_28 (lay_of hwi) 0 rfl hci 1 (by decide) (mw wc_29) rfl rfl 31 rfl ?_
    refine v_imul X dX6_removeRow_31 32 rfl ?_
    refine v_icmp_ge X (tgt := 86) dX6_removeRow_32 rfl 35 rfl hf (fun hf => ?_) (fun hf => ?_)
    · obtain rfl := Option.some.inj hf
      refine v_sub (lv' := [(0, .ref (ad 0))]) [0] rfl ?_
      exact K
    · refine v_iload_n X dX6_removeRow_35 1 rfl rfl 36 rfl ?_
      refine v_aload_n X dX6_removeRow_36 0 rfl rfl 37 rfl ?_
      refine v_get X (C := C9) (T := TX2) (N := 4) (ci := ci) (v := _) dX6_removeRow_37 (lay_of hwi) 0 rfl hci 1 (by decide) (mw wc_29) rfl rfl 40 rfl ?_
      refine v_iadd X dX6_removeRow_40 41 rfl ?_
      refine v_istore_n X (lv' := [(3, .int (v2 + t_width)), (0, .ref (ad 0)), (2, .int v2)]) dX6_removeRow_41 rfl (by decide) rfl 42 rfl ?_
      refine v_iload_n X dX6_removeRow_42 2 rfl rfl 43 rfl ?_
      refine v_if_lt X (tgt := 80) dX6_removeRow_43 rfl 46 rfl hf (fun hf => ?_) (fun hf => ?_)
      · refine v_iinc X (lv' := [(2, .int (v2 + 1)), (3, .int (v2 + t_width)), (0, .ref (ad 0))]) dX6_removeRow_80 2 rfl ic_1 (by decide) rfl 83 rfl ?_
        refine v_goto X (tgt := 20) dX6_removeRow_83 rfl ?_
        refine v_sub (lv' := [(0, .ref (ad 0)), (2, .int (v2 + 1))]) [2, 0] rfl ?_
        exact ih t_cells (v2 + 1) hf
      · refine v_iload_n X dX6_removeRow_46 2 rfl rfl 47 rfl ?_
        refine v_aload_n X dX6_removeRow_47 1 rfl rfl 48 rfl ?_
        refine v_get X (C := C9) (T := TX2) (N := 4) (ci := ci) (v := _) dX6_removeRow_48 (lay_of hwi) 0 rfl hci 2 (by decide) (mw wc_30) rfl rfl 51 rfl ?_
        refine v_alen X dX6_removeRow_51 1 0 rfl rfl rfl 52 rfl ?_
        refine v_icmp_ge X (tgt := 80) dX6_removeRow_52 rfl 55 rfl hf (fun hf => ?_) (fun hf => ?_)
        · refine v_iinc X (lv' := [(2, .int (v2 + 1)), (3, .int (v2 + t_width)), (0, .ref (ad 0))]) dX6_removeRow_80 2 rfl ic_1 (by decide) rfl 83 rfl ?_
          refine v_goto X (tgt := 20) dX6_removeRow_83 rfl ?_
          refine v_sub (lv' := [(0, .ref (ad 0)), (2, .int (v2 + 1))]) [2, 0] rfl ?_
          exact ih t_cells (v2 + 1) hf
        · refine v_iload_n X dX6_removeRow_55 0 rfl rfl 56 rfl ?_
          refine v_if_lt X (tgt := 80) dX6_removeRow_56 rfl 59 rfl hf (fun hf => ?_) (fun hf => ?_)
          · refine v_iinc X (lv' := [(2, .int (v2 + 1)), (3, .int (v2 + t_width)), (0, .ref (ad 0))]) dX6_removeRow_80 2 rfl ic_1 (by decide) rfl 83 rfl ?_
            refine v_goto X (tgt := 20) dX6_removeRow_83 rfl ?_
            refine v_sub (lv' := [(0, .ref (ad 0)), (2, .int (v2 + 1))]) [2, 0] rfl ?_
            exact ih t_cells (v2 + 1) hf
          · refine v_iload_n X dX6_removeRow_59 0 rfl rfl 60 rfl ?_
            refine v_aload_n X dX6_removeRow_60 1 rfl rfl 61 rfl ?_
            refine v_get X (C := C9) (T := TX2) (N := 4) (ci := ci) (v := _) dX6_removeRow_61 (lay_of hwi) 0 rfl hci 2 (by decide) (mw wc_30) rfl rfl 64 rfl ?_
            refine v_alen X dX6_removeRow_64 1 0 rfl rfl rfl 65 rfl ?_
            refine v_icmp_ge X (tgt := 80) dX6_removeRow_65 rfl 68 rfl hf (fun hf => ?_) (fun hf => ?_)
            · refine v_iinc X (lv' := [(2, .int (v2 + 1)), (3, .int (v2 + t_width)), (0, .ref (ad 0))]) dX6_removeRow_80 2 rfl ic_1 (by decide) rfl 83 rfl ?_
              refine v_goto X (tgt := 20) dX6_removeRow_83 rfl ?_
              refine v_sub (lv' := [(0, .ref (ad 0)), (2, .int (v2 + 1))]) [2, 0] rfl ?_
              exact ih t_cells (v2 + 1) hf
            · refine v_aload_n X dX6_removeRow_68 1 rfl rfl 69 rfl ?_
              refine v_get X (C := C9) (T := TX2) (N := 4) (ci := ci) (v := _) dX6_removeRow_69 (lay_of hwi) 0 rfl hci 2 (by decide) (mw wc_30) rfl rfl 72 rfl ?_
              refine v_iload_n X dX6_removeRow_72 2 rfl rfl 73 rfl ?_
              refine v_aload_n X dX6_removeRow_73 1 rfl rfl 74 rfl ?_
              refine v_get X (C := C9) (T := TX2) (N := 4) (ci := ci) (v := _) dX6_removeRow_74 (lay_of hwi) 0 rfl hci 2 (by decide) (mw wc_30) rfl rfl 77 rfl ?_
              refine v_iload_n X dX6_removeRow_77 0 rfl rfl 78 rfl ?_
              obtain ⟨x1, hx1, hf⟩ := bnd hf
              refine v_iald X dX6_removeRow_78 1 0 rfl rfl hx1 79 rfl ?_
              obtain ⟨g2, hg2, hf⟩ := bnd hf
              refine v_iast X (ws' := (wX6 ci tn ad c9 t_limit t_width t_rows g2)) dX6_removeRow_79 1 0 rfl rfl hg2 rfl 80 rfl ?_
              refine v_iinc X (lv' := [(2, .int (v2 + 1)), (3, .int (v2 + t_width)), (0, .ref (ad 0))]) dX6_removeRow_80 2 rfl ic_1 (by decide) rfl 83 rfl ?_
              refine v_goto X (tgt := 20) dX6_removeRow_83 rfl ?_
              refine v_sub (lv' := [(0, .ref (ad 0)), (2, .int (v2 + 1))]) [2, 0] rfl ?_
              exact ih g2 (v2 + 1) hf
set_option maxRecDepth 100000 in
set_option maxHeartbeats 4000000 in
theorem c_X6_removeRow (l : Launch) {G : (Nat → Prop) → State → Heap → Prop} (hG : vG G) (D : va_G) (c9 : Nat → ClassId) (ad : Nat → Nat) (tn : Nat) (ci : Nat) (C9 : String) (hci : vwCl[ci]? = some (C9, TX2, 4)) (hwi : ∀ k, k < 4 → u_lay C9 TX2 k ∈ Wg) (t_limit : Int32) (t_width : Int32) (t_rows : Int32) (t_cells : Nat → Int32) (v1 : Int32) {o : Int32 × (Nat → Int32)} (hf : f_X6_removeRow tn t_width t_rows t_cells v1 = some o) : mV l yX6_removeRow (wq yX6_removeRow cX6_removeRow 4 none) { frames := 0, cells := 0, slots := 0, locals := 0 } G D (tyA c9) [.ref (ad 0), .int v1] (wX6 ci tn ad c9 t_limit t_width t_rows t_cells) [] 0 0 (wX6 ci tn ad c9 t_limit t_width o.1 o.2) := by
  refine mV_of hG (cc := cX6_removeRow) (maxL := 4) (by decide) rfl (Nat.le_of_ble_eq_true rfl) ?_
  intro p e s m args below meth c A hnm X
  have X : vX p s m args meth c cX6_removeRow 4 none RX6 (wq yX6_removeRow cX6_removeRow 4 none) D (tyA c9) G A := X
  refine v_eq (lv2 := [(0, .ref (ad 0)), (1, .int v1)]) rfl rfl rfl rfl ?_
  rw [f_X6_removeRow] at hf
  refine v_iload_n X dX6_removeRow_0 1 rfl rfl 1 rfl ?_
  refine v_if_lt X (tgt := 12) dX6_removeRow_1 rfl 4 rfl hf (fun hf => ?_) (fun hf => ?_)
  · obtain rfl := Option.some.inj hf
    exact v_vret X (Nat.zero_le _) (Nat.zero_le _) dX6_removeRow_12
  · refine v_iload_n X dX6_removeRow_4 1 rfl rfl 5 rfl ?_
    refine v_aload_n X dX6_removeRow_5 0 rfl rfl 6 rfl ?_
    refine v_get X (C := C9) (T := TX2) (N := 4) (ci := ci) (v := _) dX6_removeRow_6 (lay_of hwi) 0 rfl hci 3 (by decide) (mw wc_27) rfl rfl 9 rfl ?_
    refine v_icmp_lt X (tgt := 13) dX6_removeRow_9 rfl 12 rfl hf (fun hf => ?_) (fun hf => ?_)
    · refine v_iload_n X dX6_removeRow_13 1 rfl rfl 14 rfl ?_
      refine v_aload_n X dX6_removeRow_14 0 rfl rfl 15 rfl ?_
      refine v_get X (C := C9) (T := TX2) (N := 4) (ci := ci) (v := _) dX6_removeRow_15 (lay_of hwi) 0 rfl hci 1 (by decide) (mw wc_29) rfl rfl 18 rfl ?_
      refine v_imul X dX6_removeRow_18 19 rfl ?_
      refine v_istore_n X (lv' := [(2, .int (v1 * t_width)), (0, .ref (ad 0)), (1, .int v1)]) dX6_removeRow_19 rfl (by decide) rfl 20 rfl ?_
      obtain ⟨o3, ho3, hf⟩ := bnd hf
      refine v_sub (lv' := [(0, .ref (ad 0)), (2, .int (v1 * t_width))]) [1, 0] rfl ?_
      refine l_X6_removeRow_L20 l hG D c9 ad tn ci C9 hci hwi t_limit t_width t_rows X o3 ?_ 5000 t_cells (v1 * t_width) ho3
      refine v_aload_n X dX6_removeRow_86 0 rfl rfl 87 rfl ?_
      refine v_dup X dX6_removeRow_87 rfl 88 rfl ?_
      refine v_get X (C := C9) (T := TX2) (N := 4) (ci := ci) (v := _) dX6_removeRow_88 (lay_of hwi) 0 rfl hci 3 (by decide) (mw wc_27) rfl rfl 91 rfl ?_
      refine v_iconst X dX6_removeRow_91 ic_1 92 rfl ?_
      refine v_isub X dX6_removeRow_92 93 rfl ?_
      refine v_put X (C := C9) (T := TX2) (N := 4) (ci := ci) (ty := tyX2 3) (ws' := (wX6 ci tn ad c9 t_limit t_width (t_rows - 1) o3)) dX6_removeRow_93 (lay_of hwi) 0 rfl hci 3 (by decide) tyX2 tyX2_ok nmX2 (mw wc_27) rfl rfl (tyX2_ok 3 (by decide)) rfl rfl (Nat.le_of_ble_eq_true rfl) rfl 96 rfl ?_
      obtain rfl := Option.some.inj hf
      exact v_vret X (Nat.zero_le _) (Nat.zero_le _) dX6_removeRow_96
    · obtain rfl := Option.some.inj hf
      exact v_vret X (Nat.zero_le _) (Nat.zero_le _) dX6_removeRow_12
theorem pd_X6_removeRow : yX6_removeRow.cls ≠ "java/lang/invoke/MethodHandle" ∧ yX6_removeRow.cls ≠ "java/lang/invoke/VarHandle" ∧ (parseMethodDescriptor yX6_removeRow.desc).map (fun d => d.parameters.length) = some 1 := by decide +kernel
def f_X6_removeAll (tn : Nat) (t_rows : Int32) : Option (Int32) :=
  some (0)
set_option maxRecDepth 100000 in
set_option maxHeartbeats 4000000 in
theorem c_X6_removeAll (l : Launch) {G : (Nat → Prop) → State → Heap → Prop} (hG : vG G) (D : va_G) (c9 : Nat → ClassId) (ad : Nat → Nat) (tn : Nat) (ci : Nat) (C9 : String) (hci : vwCl[ci]? = some (C9, TX2, 4)) (hwi : ∀ k, k < 4 → u_lay C9 TX2 k ∈ Wg) (t_limit : Int32) (t_width : Int32) (t_rows : Int32) (t_cells : Nat → Int32)  {o : Int32} (hf : f_X6_removeAll tn t_rows = some o) : mV l yX6_removeAll (wq yX6_removeAll cX6_removeAll 1 none) { frames := 0, cells := 0, slots := 0, locals := 0 } G D (tyA c9) [.ref (ad 0)] (wX6 ci tn ad c9 t_limit t_width t_rows t_cells) [] 0 0 (wX6 ci tn ad c9 t_limit t_width o t_cells) := by
  refine mV_of hG (cc := cX6_removeAll) (maxL := 1) (by decide) rfl (Nat.le_of_ble_eq_true rfl) ?_
  intro p e s m args below meth c A hnm X
  have X : vX p s m args meth c cX6_removeAll 1 none RX6 (wq yX6_removeAll cX6_removeAll 1 none) D (tyA c9) G A := X
  refine v_eq (lv2 := [(0, .ref (ad 0))]) rfl rfl rfl rfl ?_
  rw [f_X6_removeAll] at hf
  refine v_aload_n X dX6_removeAll_0 0 rfl rfl 1 rfl ?_
  refine v_iconst X dX6_removeAll_1 ic_0 2 rfl ?_
  refine v_put X (C := C9) (T := TX2) (N := 4) (ci := ci) (ty := tyX2 3) (ws' := (wX6 ci tn ad c9 t_limit t_width 0 t_cells)) dX6_removeAll_2 (lay_of hwi) 0 rfl hci 3 (by decide) tyX2 tyX2_ok nmX2 (mw wc_27) rfl rfl (tyX2_ok 3 (by decide)) rfl rfl (Nat.le_of_ble_eq_true rfl) rfl 5 rfl ?_
  obtain rfl := Option.some.inj hf
  exact v_vret X (Nat.zero_le _) (Nat.zero_le _) dX6_removeAll_5
theorem pd_X6_removeAll : yX6_removeAll.cls ≠ "java/lang/invoke/MethodHandle" ∧ yX6_removeAll.cls ≠ "java/lang/invoke/VarHandle" ∧ (parseMethodDescriptor yX6_removeAll.desc).map (fun d => d.parameters.length) = some 0 := by decide +kernel
theorem pd_X6_get_UX6_rowWith_31 : "TicketGate$Table" ≠ "java/lang/invoke/MethodHandle" ∧ "TicketGate$Table" ≠ "java/lang/invoke/VarHandle" ∧ (parseMethodDescriptor "(II)I").map (fun d => d.parameters.length) = some 2 := by decide +kernel
def f_X6_rowWith_L2 (tn : Nat) (t_width : Int32) (t_rows : Int32) (t_cells : Nat → Int32) (v1 : Int32) (v2 : Int32) : Nat → Int32 → Option (Int32)
  | 0, _ => none
  | n + 1, v3 =>
    if t_rows ≤ v3 then (
      some ((-1)))
    else (
      (f_X6_get tn t_width t_rows t_cells v3 v1).bind fun o1 =>
      if o1 = v2 then (
        some (v3))
      else (
        f_X6_rowWith_L2 tn t_width t_rows t_cells v1 v2 n  (v3 + 1)))
def f_X6_rowWith (tn : Nat) (t_width : Int32) (t_rows : Int32) (t_cells : Nat → Int32) (v1 : Int32) (v2 : Int32) : Option (Int32) :=
  f_X6_rowWith_L2 tn t_width t_rows t_cells v1 v2 5000 0
set_option maxRecDepth 100000 in
set_option maxHeartbeats 4000000 in
theorem l_X6_rowWith_L2 (l : Launch) {G : (Nat → Prop) → State → Heap → Prop} (hG : vG G) (D : va_G) (c9 : Nat → ClassId) (ad : Nat → Nat) (tn : Nat) (ci : Nat) (C9 : String) (hci : vwCl[ci]? = some (C9, TX2, 4)) (hwi : ∀ k, k < 4 → u_lay C9 TX2 k ∈ Wg) (hs31 : Cond.selects C9 ⟨"TicketGate$Table", "get", "(II)I"⟩ yX6_get ∈ Wg) (t_limit : Int32) (t_width : Int32) (t_rows : Int32) (t_cells : Nat → Int32) (v1 : Int32) (v2 : Int32) {p : Program} {e : Env} {s : State} {m : MethodId} {args : Array Value} {below : List Frame} {meth : Method} {c : Code} {A : Nat → Prop} {F : va_W} (X : vX p s m args meth c cX6_rowWith 4 (some .int) RX6 (wq yX6_rowWith cX6_rowWith 4 (some .int)) D (tyA c9) G A) (o : Int32) :
    ∀ (n : Nat) (v3 : Int32), f_X6_rowWith_L2 tn t_width t_rows t_cells v1 v2 n v3 = some o → vW p l e { frames := 1, cells := 0, slots := 0, locals := 24 } s m args below meth c 4 D A F 0 0 (MQ below (eI D (tyA c9) A o ((wX6 ci tn ad c9 t_limit t_width t_rows t_cells) ++ F)) args s 0 0 A) (wX6 ci tn ad c9 t_limit t_width t_rows t_cells) 2 [(0, .ref (ad 0)), (1, .int v1), (2, .int v2), (3, .int v3)] [] := by
  intro n
  induction n with
  | zero =>
    intro v3 hf
    rw [f_X6_rowWith_L2] at hf
    cases hf
  | succ n ih =>
    intro v3 hf
    rw [f_X6_rowWith_L2] at hf
    refine v_iload_n X dX6_rowWith_2 3 rfl rfl 3 rfl ?_
    refine v_aload_n X dX6_rowWith_3 0 rfl rfl 4 rfl ?_
    refine v_get X (C := C9) (T := TX2) (N := 4) (ci := ci) (v := _) dX6_rowWith_4 (lay_of hwi) 0 rfl hci 3 (by decide) (mw wc_27) rfl rfl 7 rfl ?_
    refine v_icmp_ge X (tgt := 28) dX6_rowWith_7 rfl 10 rfl hf (fun hf => ?_) (fun hf => ?_)
    · refine v_iconst X dX6_rowWith_28 ic_m1 29 rfl ?_
      obtain rfl := Option.some.inj hf
      exact v_iret X (Nat.zero_le _) (Nat.zero_le _) dX6_rowWith_29
    · refine v_aload_n X dX6_rowWith_10 0 rfl rfl 11 rfl ?_
      refine v_iload_n X dX6_rowWith_11 3 rfl rfl 12 rfl ?_
      refine v_iload_n X dX6_rowWith_12 1 rfl rfl 13 rfl ?_
      obtain ⟨o1, ho1, hf⟩ := bnd hf
      refine v_callUi X (ci := ci) (T := TX2) (C := C9) (owner := "TicketGate$Table") (As := [.int v3, .int v1]) (rest := []) (ws' := (wX6 ci tn ad c9 t_limit t_width t_rows t_cells)) (c_X6_get l hG D c9 ad tn ci C9 hci hwi t_limit t_width t_rows t_cells v3 v1 ho1) 2 (gU wc_31 wc_32 hs31 wc_33 wc_34 wc_35) rfl rfl rfl rfl pd_X6_get_UX6_rowWith_31 ⟨Nat.le_of_ble_eq_true rfl, Nat.le_of_ble_eq_true rfl⟩ 0 rfl hci rfl rfl (Nat.le_of_ble_eq_true rfl) ⟨Nat.zero_le _, Nat.zero_le _⟩ [0, 1] [] [0, 1] rfl rfl rfl rfl dX6_rowWith_13 16 rfl ?_
      refine v_iload_n X dX6_rowWith_16 2 rfl rfl 17 rfl ?_
      refine v_icmp_ne X (tgt := 22) dX6_rowWith_17 rfl 20 rfl hf (fun hf => ?_) (fun hf => ?_)
      · refine v_iinc X (lv' := [(3, .int (v3 + 1)), (0, .ref (ad 0)), (1, .int v1), (2, .int v2)]) dX6_rowWith_22 3 rfl ic_1 (by decide) rfl 25 rfl ?_
        refine v_goto X (tgt := 2) dX6_rowWith_25 rfl ?_
        refine v_sub (lv' := [(0, .ref (ad 0)), (1, .int v1), (2, .int v2), (3, .int (v3 + 1))]) [1, 2, 3, 0] rfl ?_
        exact ih (v3 + 1) hf
      · refine v_iload_n X dX6_rowWith_20 3 rfl rfl 21 rfl ?_
        obtain rfl := Option.some.inj hf
        exact v_iret X (Nat.zero_le _) (Nat.zero_le _) dX6_rowWith_21
set_option maxRecDepth 100000 in
set_option maxHeartbeats 4000000 in
theorem c_X6_rowWith (l : Launch) {G : (Nat → Prop) → State → Heap → Prop} (hG : vG G) (D : va_G) (c9 : Nat → ClassId) (ad : Nat → Nat) (tn : Nat) (ci : Nat) (C9 : String) (hci : vwCl[ci]? = some (C9, TX2, 4)) (hwi : ∀ k, k < 4 → u_lay C9 TX2 k ∈ Wg) (hs31 : Cond.selects C9 ⟨"TicketGate$Table", "get", "(II)I"⟩ yX6_get ∈ Wg) (t_limit : Int32) (t_width : Int32) (t_rows : Int32) (t_cells : Nat → Int32) (v1 : Int32) (v2 : Int32) {o : Int32} (hf : f_X6_rowWith tn t_width t_rows t_cells v1 v2 = some o) : mI l yX6_rowWith (wq yX6_rowWith cX6_rowWith 4 (some .int)) { frames := 1, cells := 0, slots := 0, locals := 24 } G D (tyA c9) [.ref (ad 0), .int v1, .int v2] (wX6 ci tn ad c9 t_limit t_width t_rows t_cells) [] 0 0 o (wX6 ci tn ad c9 t_limit t_width t_rows t_cells) := by
  refine mI_of hG (cc := cX6_rowWith) (maxL := 4) (ty := .int) (by decide) rfl (Nat.le_of_ble_eq_true rfl) ?_
  intro p e s m args below meth c A X
  have X : vX p s m args meth c cX6_rowWith 4 (some .int) RX6 (wq yX6_rowWith cX6_rowWith 4 (some .int)) D (tyA c9) G A := X
  refine v_eq (lv2 := [(0, .ref (ad 0)), (1, .int v1), (2, .int v2)]) rfl rfl rfl rfl ?_
  rw [f_X6_rowWith] at hf
  refine v_iconst X dX6_rowWith_0 ic_0 1 rfl ?_
  refine v_istore_n X (lv' := [(3, .int 0), (0, .ref (ad 0)), (1, .int v1), (2, .int v2)]) dX6_rowWith_1 rfl (by decide) rfl 2 rfl ?_
  refine v_sub (lv' := [(0, .ref (ad 0)), (1, .int v1), (2, .int v2), (3, .int 0)]) [1, 2, 3, 0] rfl ?_
  exact l_X6_rowWith_L2 l hG D c9 ad tn ci C9 hci hwi hs31 t_limit t_width t_rows t_cells v1 v2 X _ 5000 0 hf
theorem pd_X6_rowWith : yX6_rowWith.cls ≠ "java/lang/invoke/MethodHandle" ∧ yX6_rowWith.cls ≠ "java/lang/invoke/VarHandle" ∧ (parseMethodDescriptor yX6_rowWith.desc).map (fun d => d.parameters.length) = some 2 := by decide +kernel
theorem pd_X6_get_UX6_sumOf_31 : "TicketGate$Table" ≠ "java/lang/invoke/MethodHandle" ∧ "TicketGate$Table" ≠ "java/lang/invoke/VarHandle" ∧ (parseMethodDescriptor "(II)I").map (fun d => d.parameters.length) = some 2 := by decide +kernel
def f_X6_sumOf_L4 (tn : Nat) (t_width : Int32) (t_rows : Int32) (t_cells : Nat → Int32) (v1 : Int32) : Nat → Int32 → Int32 → Option (Int32)
  | 0, _, _ => none
  | n + 1, v2, v3 =>
    if t_rows ≤ v3 then (
      some (v2))
    else (
      (f_X6_get tn t_width t_rows t_cells v3 v1).bind fun o1 =>
      f_X6_sumOf_L4 tn t_width t_rows t_cells v1 n  (v2 + o1) (v3 + 1))
def f_X6_sumOf (tn : Nat) (t_width : Int32) (t_rows : Int32) (t_cells : Nat → Int32) (v1 : Int32) : Option (Int32) :=
  (f_X6_sumOf_L4 tn t_width t_rows t_cells v1 5000 0 0).bind fun o2 =>
  some (o2)
set_option maxRecDepth 100000 in
set_option maxHeartbeats 4000000 in
theorem l_X6_sumOf_L4 (l : Launch) {G : (Nat → Prop) → State → Heap → Prop} (hG : vG G) (D : va_G) (c9 : Nat → ClassId) (ad : Nat → Nat) (tn : Nat) (ci : Nat) (C9 : String) (hci : vwCl[ci]? = some (C9, TX2, 4)) (hwi : ∀ k, k < 4 → u_lay C9 TX2 k ∈ Wg) (hs31 : Cond.selects C9 ⟨"TicketGate$Table", "get", "(II)I"⟩ yX6_get ∈ Wg) (t_limit : Int32) (t_width : Int32) (t_rows : Int32) (t_cells : Nat → Int32) (v1 : Int32) {p : Program} {e : Env} {s : State} {m : MethodId} {args : Array Value} {below : List Frame} {meth : Method} {c : Code} {A : Nat → Prop} {F : va_W} (X : vX p s m args meth c cX6_sumOf 4 (some .int) RX6 (wq yX6_sumOf cX6_sumOf 4 (some .int)) D (tyA c9) G A) {Q : State → Prop} (o : Int32) (K : vW p l e { frames := 1, cells := 0, slots := 0, locals := 24 } s m args below meth c 4 D A F 0 0 Q (wX6 ci tn ad c9 t_limit t_width t_rows t_cells) 27 [(2, .int o)] []) :
    ∀ (n : Nat) (v2 : Int32) (v3 : Int32), f_X6_sumOf_L4 tn t_width t_rows t_cells v1 n v2 v3 = some o → vW p l e { frames := 1, cells := 0, slots := 0, locals := 24 } s m args below meth c 4 D A F 0 0 Q (wX6 ci tn ad c9 t_limit t_width t_rows t_cells) 4 [(0, .ref (ad 0)), (1, .int v1), (2, .int v2), (3, .int v3)] [] := by
  intro n
  induction n with
  | zero =>
    intro v2 v3 hf
    rw [f_X6_sumOf_L4] at hf
    cases hf
  | succ n ih =>
    intro v2 v3 hf
    rw [f_X6_sumOf_L4] at hf
    refine v_iload_n X dX6_sumOf_4 3 rfl rfl 5 rfl ?_
    refine v_aload_n X dX6_sumOf_5 0 rfl rfl 6 rfl ?_
    refine v_get X (C := C9) (T := TX2) (N := 4) (ci := ci) (v := _) dX6_sumOf_6 (lay_of hwi) 0 rfl hci 3 (by decide) (mw wc_27) rfl rfl 9 rfl ?_
    refine v_icmp_ge X (tgt := 27) dX6_sumOf_9 rfl 12 rfl hf (fun hf => ?_) (fun hf => ?_)
    · obtain rfl := Option.some.inj hf
      refine v_sub (lv' := [(2, .int v2)]) [2] rfl ?_
      exact K
    · refine v_iload_n X dX6_sumOf_12 2 rfl rfl 13 rfl ?_
      refine v_aload_n X dX6_sumOf_13 0 rfl rfl 14 rfl ?_
      refine v_iload_n X dX6_sumOf_14 3 rfl rfl 15 rfl ?_
      refine v_iload_n X dX6_sumOf_15 1 rfl rfl 16 rfl ?_
      obtain ⟨o1, ho1, hf⟩ := bnd hf
      refine v_callUi X (ci := ci) (T := TX2) (C := C9) (owner := "TicketGate$Table") (As := [.int v3, .int v1]) (rest := [.int v2]) (ws' := (wX6 ci tn ad c9 t_limit t_width t_rows t_cells)) (c_X6_get l hG D c9 ad tn ci C9 hci hwi t_limit t_width t_rows t_cells v3 v1 ho1) 2 (gU wc_31 wc_32 hs31 wc_33 wc_34 wc_35) rfl rfl rfl rfl pd_X6_get_UX6_sumOf_31 ⟨Nat.le_of_ble_eq_true rfl, Nat.le_of_ble_eq_true rfl⟩ 0 rfl hci rfl rfl (Nat.le_of_ble_eq_true rfl) ⟨Nat.zero_le _, Nat.zero_le _⟩ [0, 1] [] [0, 1] rfl rfl rfl rfl dX6_sumOf_16 19 rfl ?_
      refine v_iadd X dX6_sumOf_19 20 rfl ?_
      refine v_istore_n X (lv' := [(2, .int (v2 + o1)), (0, .ref (ad 0)), (1, .int v1), (3, .int v3)]) dX6_sumOf_20 rfl (by decide) rfl 21 rfl ?_
      refine v_iinc X (lv' := [(3, .int (v3 + 1)), (2, .int (v2 + o1)), (0, .ref (ad 0)), (1, .int v1)]) dX6_sumOf_21 3 rfl ic_1 (by decide) rfl 24 rfl ?_
      refine v_goto X (tgt := 4) dX6_sumOf_24 rfl ?_
      refine v_sub (lv' := [(0, .ref (ad 0)), (1, .int v1), (2, .int (v2 + o1)), (3, .int (v3 + 1))]) [2, 3, 1, 0] rfl ?_
      exact ih (v2 + o1) (v3 + 1) hf
set_option maxRecDepth 100000 in
set_option maxHeartbeats 4000000 in
theorem c_X6_sumOf (l : Launch) {G : (Nat → Prop) → State → Heap → Prop} (hG : vG G) (D : va_G) (c9 : Nat → ClassId) (ad : Nat → Nat) (tn : Nat) (ci : Nat) (C9 : String) (hci : vwCl[ci]? = some (C9, TX2, 4)) (hwi : ∀ k, k < 4 → u_lay C9 TX2 k ∈ Wg) (hs31 : Cond.selects C9 ⟨"TicketGate$Table", "get", "(II)I"⟩ yX6_get ∈ Wg) (t_limit : Int32) (t_width : Int32) (t_rows : Int32) (t_cells : Nat → Int32) (v1 : Int32) {o : Int32} (hf : f_X6_sumOf tn t_width t_rows t_cells v1 = some o) : mI l yX6_sumOf (wq yX6_sumOf cX6_sumOf 4 (some .int)) { frames := 1, cells := 0, slots := 0, locals := 24 } G D (tyA c9) [.ref (ad 0), .int v1] (wX6 ci tn ad c9 t_limit t_width t_rows t_cells) [] 0 0 o (wX6 ci tn ad c9 t_limit t_width t_rows t_cells) := by
  refine mI_of hG (cc := cX6_sumOf) (maxL := 4) (ty := .int) (by decide) rfl (Nat.le_of_ble_eq_true rfl) ?_
  intro p e s m args below meth c A X
  have X : vX p s m args meth c cX6_sumOf 4 (some .int) RX6 (wq yX6_sumOf cX6_sumOf 4 (some .int)) D (tyA c9) G A := X
  refine v_eq (lv2 := [(0, .ref (ad 0)), (1, .int v1)]) rfl rfl rfl rfl ?_
  rw [f_X6_sumOf] at hf
  refine v_iconst X dX6_sumOf_0 ic_0 1 rfl ?_
  refine v_istore_n X (lv' := [(2, .int 0), (0, .ref (ad 0)), (1, .int v1)]) dX6_sumOf_1 rfl (by decide) rfl 2 rfl ?_
  refine v_iconst X dX6_sumOf_2 ic_0 3 rfl ?_
  refine v_istore_n X (lv' := [(3, .int 0), (2, .int 0), (0, .ref (ad 0)), (1, .int v1)]) dX6_sumOf_3 rfl (by decide) rfl 4 rfl ?_
  obtain ⟨o2, ho2, hf⟩ := bnd hf
  refine v_sub (lv' := [(0, .ref (ad 0)), (1, .int v1), (2, .int 0), (3, .int 0)]) [2, 3, 1, 0] rfl ?_
  refine l_X6_sumOf_L4 l hG D c9 ad tn ci C9 hci hwi hs31 t_limit t_width t_rows t_cells v1 X o2 ?_ 5000 0 0 ho2
  refine v_iload_n X dX6_sumOf_27 0 rfl rfl 28 rfl ?_
  obtain rfl := Option.some.inj hf
  exact v_iret X (Nat.zero_le _) (Nat.zero_le _) dX6_sumOf_28
theorem pd_X6_sumOf : yX6_sumOf.cls ≠ "java/lang/invoke/MethodHandle" ∧ yX6_sumOf.cls ≠ "java/lang/invoke/VarHandle" ∧ (parseMethodDescriptor yX6_sumOf.desc).map (fun d => d.parameters.length) = some 1 := by decide +kernel
def f_X6_copyFrom (tn : Nat) (un : Nat) (t_rows : Int32) (t_cells : Nat → Int32) (u_t_rows : Int32) (u_t_cells : Nat → Int32) : Option (Int32 × (Nat → Int32)) :=
  (acp u_t_cells un 0 t_cells tn 0 (imin (Int32.ofNat tn) (Int32.ofNat un))).bind fun g1 =>
  some (u_t_rows, g1)
set_option maxRecDepth 100000 in
set_option maxHeartbeats 4000000 in
theorem c_X6_copyFrom (l : Launch) {G : (Nat → Prop) → State → Heap → Prop} (hG : vG G) (D : va_G) (c9 : Nat → ClassId) (ad : Nat → Nat) (ad1 : Nat → Nat) (tn : Nat) (un : Nat) (ci : Nat) (C9 : String) (hci : vwCl[ci]? = some (C9, TX2, 4)) (hwi : ∀ k, k < 4 → u_lay C9 TX2 k ∈ Wg) (t_limit : Int32) (t_width : Int32) (t_rows : Int32) (t_cells : Nat → Int32) (u_t_limit : Int32) (u_t_width : Int32) (u_t_rows : Int32) (u_t_cells : Nat → Int32)  {o : Int32 × (Nat → Int32)} (hf : f_X6_copyFrom tn un t_rows t_cells u_t_rows u_t_cells = some o) : mV l yX6_copyFrom (wq yX6_copyFrom cX6_copyFrom 3 none) { frames := 1, cells := 0, slots := 0, locals := 40 } G D (tyA c9) [.ref (ad 0), .ref (ad1 0)] ((wX6 ci tn ad c9 t_limit t_width t_rows t_cells) ++ (wX6 ci un ad1 c9 u_t_limit u_t_width u_t_rows u_t_cells)) [] 0 0 ((wX6 ci tn ad c9 t_limit t_width o.1 o.2) ++ (wX6 ci un ad1 c9 u_t_limit u_t_width u_t_rows u_t_cells)) := by
  refine mV_of hG (cc := cX6_copyFrom) (maxL := 3) (by decide) rfl (Nat.le_of_ble_eq_true rfl) ?_
  intro p e s m args below meth c A hnm X
  have X : vX p s m args meth c cX6_copyFrom 3 none RX6 (wq yX6_copyFrom cX6_copyFrom 3 none) D (tyA c9) G A := X
  refine v_eq (lv2 := [(0, .ref (ad 0)), (1, .ref (ad1 0))]) rfl rfl rfl rfl ?_
  rw [f_X6_copyFrom] at hf
  refine v_aload_n X dX6_copyFrom_0 0 rfl rfl 1 rfl ?_
  refine v_get X (C := C9) (T := TX2) (N := 4) (ci := ci) (v := _) dX6_copyFrom_1 (lay_of hwi) 0 rfl hci 2 (by decide) (mw wc_30) rfl rfl 4 rfl ?_
  refine v_alen X dX6_copyFrom_4 1 0 rfl rfl rfl 5 rfl ?_
  refine v_aload_n X dX6_copyFrom_5 1 rfl rfl 6 rfl ?_
  refine v_get X (C := C9) (T := TX2) (N := 4) (ci := ci) (v := _) dX6_copyFrom_6 (lay_of hwi) 2 rfl hci 2 (by decide) (mw wc_30) rfl rfl 9 rfl ?_
  refine v_alen X dX6_copyFrom_9 3 0 rfl rfl rfl 10 rfl ?_
  refine v_mmin X dX6_copyFrom_10 (mw wc_36) (mw wc_24) (mw wc_25) (mw wc_26) (Nat.le_of_ble_eq_true rfl) (Nat.le_of_ble_eq_true rfl) (Nat.zero_le _) (Nat.zero_le _) 13 rfl ?_
  refine v_istore_n X (lv' := [(2, .int (imin (Int32.ofNat tn) (Int32.ofNat un))), (0, .ref (ad 0)), (1, .ref (ad1 0))]) dX6_copyFrom_13 rfl (by decide) rfl 14 rfl ?_
  refine v_aload_n X dX6_copyFrom_14 2 rfl rfl 15 rfl ?_
  refine v_get X (C := C9) (T := TX2) (N := 4) (ci := ci) (v := _) dX6_copyFrom_15 (lay_of hwi) 2 rfl hci 2 (by decide) (mw wc_30) rfl rfl 18 rfl ?_
  refine v_iconst X dX6_copyFrom_18 ic_0 19 rfl ?_
  refine v_aload_n X dX6_copyFrom_19 1 rfl rfl 20 rfl ?_
  refine v_get X (C := C9) (T := TX2) (N := 4) (ci := ci) (v := _) dX6_copyFrom_20 (lay_of hwi) 0 rfl hci 2 (by decide) (mw wc_30) rfl rfl 23 rfl ?_
  refine v_iconst X dX6_copyFrom_23 ic_0 24 rfl ?_
  refine v_iload_n X dX6_copyFrom_24 0 rfl rfl 25 rfl ?_
  obtain ⟨g1, hg1, hf⟩ := bnd hf
  refine v_acopy X (ws' := ((wX6 ci tn ad c9 t_limit t_width t_rows g1) ++ (wX6 ci un ad1 c9 u_t_limit u_t_width u_t_rows u_t_cells))) dX6_copyFrom_25 (mw wc_37) (mw wc_38) (mw wc_39) (mw wc_40) 3 1 0 0 rfl rfl rfl rfl hg1 rfl (Nat.le_of_ble_eq_true rfl) (Nat.le_of_ble_eq_true rfl) 28 rfl ?_
  refine v_aload_n X dX6_copyFrom_28 1 rfl rfl 29 rfl ?_
  refine v_aload_n X dX6_copyFrom_29 2 rfl rfl 30 rfl ?_
  refine v_get X (C := C9) (T := TX2) (N := 4) (ci := ci) (v := _) dX6_copyFrom_30 (lay_of hwi) 2 rfl hci 3 (by decide) (mw wc_27) rfl rfl 33 rfl ?_
  refine v_put X (C := C9) (T := TX2) (N := 4) (ci := ci) (ty := tyX2 3) (ws' := ((wX6 ci tn ad c9 t_limit t_width u_t_rows g1) ++ (wX6 ci un ad1 c9 u_t_limit u_t_width u_t_rows u_t_cells))) dX6_copyFrom_33 (lay_of hwi) 0 rfl hci 3 (by decide) tyX2 tyX2_ok nmX2 (mw wc_27) rfl rfl (tyX2_ok 3 (by decide)) rfl rfl (Nat.le_of_ble_eq_true rfl) rfl 36 rfl ?_
  obtain rfl := Option.some.inj hf
  exact v_vret X (Nat.zero_le _) (Nat.zero_le _) dX6_copyFrom_36
theorem pd_X6_copyFrom : yX6_copyFrom.cls ≠ "java/lang/invoke/MethodHandle" ∧ yX6_copyFrom.cls ≠ "java/lang/invoke/VarHandle" ∧ (parseMethodDescriptor yX6_copyFrom.desc).map (fun d => d.parameters.length) = some 1 := by decide +kernel
theorem pd_X6_addRow_UX2_addRealm_11 : "TicketGate$Table" ≠ "java/lang/invoke/MethodHandle" ∧ "TicketGate$Table" ≠ "java/lang/invoke/VarHandle" ∧ (parseMethodDescriptor "()I").map (fun d => d.parameters.length) = some 0 := by decide +kernel
theorem pd_X6_set_UX2_addRealm_15 : "TicketGate$Table" ≠ "java/lang/invoke/MethodHandle" ∧ "TicketGate$Table" ≠ "java/lang/invoke/VarHandle" ∧ (parseMethodDescriptor "(III)V").map (fun d => d.parameters.length) = some 3 := by decide +kernel
def f_X2_addRealm (t_rows : Int32) (t_cells : Nat → Int32) (v1 : Int32) (v2 : Int32) (v3 : Int32) (v4 : Int32) : Option (Int32 × (Nat → Int32)) :=
  (f_X6_addRow 25 5 t_rows).bind fun o1 =>
  (f_X6_set 25 5 o1.2 t_cells o1.1 0 v1).bind fun o2 =>
  (f_X6_set 25 5 o1.2 o2 o1.1 1 v2).bind fun o3 =>
  (f_X6_set 25 5 o1.2 o3 o1.1 2 v3).bind fun o4 =>
  (f_X6_set 25 5 o1.2 o4 o1.1 3 v4).bind fun o5 =>
  (f_X6_set 25 5 o1.2 o5 o1.1 4 0).bind fun o6 =>
  some (o1.2, o6)
set_option maxRecDepth 100000 in
set_option maxHeartbeats 4000000 in
theorem c_X2_addRealm (l : Launch) {G : (Nat → Prop) → State → Heap → Prop} (hG : vG G) (D : va_G) (c9 : Nat → ClassId) (ad : Nat → Nat) (t_rows : Int32) (t_cells : Nat → Int32) (v1 : Int32) (v2 : Int32) (v3 : Int32) (v4 : Int32) {o : Int32 × (Nat → Int32)} (hf : f_X2_addRealm t_rows t_cells v1 v2 v3 v4 = some o) : mV l yX2_addRealm (wq yX2_addRealm cX2_addRealm 6 none) { frames := 1, cells := 0, slots := 0, locals := 24 } G D (tyA c9) [.ref (ad 0), .int v1, .int v2, .int v3, .int v4] (wX2 ad c9 t_rows t_cells) [] 0 0 (wX2 ad c9 o.1 o.2) := by
  refine mV_of hG (cc := cX2_addRealm) (maxL := 6) (by decide) rfl (Nat.le_of_ble_eq_true rfl) ?_
  intro p e s m args below meth c A hnm X
  have X : vX p s m args meth c cX2_addRealm 6 none RX2 (wq yX2_addRealm cX2_addRealm 6 none) D (tyA c9) G A := X
  refine v_eq (lv2 := [(0, .ref (ad 0)), (1, .int v1), (2, .int v2), (3, .int v3), (4, .int v4)]) rfl rfl rfl rfl ?_
  rw [f_X2_addRealm] at hf
  refine v_aload_n X dX2_addRealm_0 0 rfl rfl 1 rfl ?_
  obtain ⟨o1, ho1, hf⟩ := bnd hf
  refine v_callUi X (ci := 4) (T := TX2) (C := RX2) (owner := "TicketGate$Table") (As := []) (rest := []) (ws' := (wX2 ad c9 o1.2 t_cells)) (c_X6_addRow l hG D c9 ad 25 4 RX2 rfl layc_X2 5 5 t_rows t_cells ho1) 0 (gU wc_45 wc_46 wc_47 wc_48 wc_34 wc_49) rfl rfl rfl rfl pd_X6_addRow_UX2_addRealm_11 ⟨Nat.le_of_ble_eq_true rfl, Nat.le_of_ble_eq_true rfl⟩ 0 rfl rfl rfl rfl (Nat.le_of_ble_eq_true rfl) ⟨Nat.zero_le _, Nat.zero_le _⟩ [0, 1] [] [0, 1] rfl rfl rfl rfl dX2_addRealm_1 4 rfl ?_
  refine v_istore X (lv' := [(5, .int o1.1), (0, .ref (ad 0)), (1, .int v1), (2, .int v2), (3, .int v3), (4, .int v4)]) dX2_addRealm_4 (by decide) rfl 6 rfl ?_
  refine v_aload_n X dX2_addRealm_6 1 rfl rfl 7 rfl ?_
  refine v_iload X dX2_addRealm_7 0 rfl 9 rfl ?_
  refine v_iconst X dX2_addRealm_9 ic_0 10 rfl ?_
  refine v_iload_n X dX2_addRealm_10 2 rfl rfl 11 rfl ?_
  obtain ⟨o2, ho2, hf⟩ := bnd hf
  refine v_callUv X (ci := 4) (T := TX2) (C := RX2) (owner := "TicketGate$Table") (As := [.int o1.1, .int 0, .int v1]) (rest := []) (ws' := (wX2 ad c9 o1.2 o2)) (c_X6_set l hG D c9 ad 25 4 RX2 rfl layc_X2 5 5 o1.2 t_cells o1.1 0 v1 ho2) 3 (gU wc_50 wc_51 wc_52 wc_53 wc_34 wc_54) rfl rfl rfl rfl pd_X6_set_UX2_addRealm_15 ⟨Nat.le_of_ble_eq_true rfl, Nat.le_of_ble_eq_true rfl⟩ 0 rfl rfl rfl rfl (Nat.le_of_ble_eq_true rfl) ⟨Nat.zero_le _, Nat.zero_le _⟩ [0, 1] [] [0, 1] rfl rfl rfl rfl dX2_addRealm_11 14 rfl ?_
  refine v_aload_n X dX2_addRealm_14 1 rfl rfl 15 rfl ?_
  refine v_iload X dX2_addRealm_15 0 rfl 17 rfl ?_
  refine v_iconst X dX2_addRealm_17 ic_1 18 rfl ?_
  refine v_iload_n X dX2_addRealm_18 3 rfl rfl 19 rfl ?_
  obtain ⟨o3, ho3, hf⟩ := bnd hf
  refine v_callUv X (ci := 4) (T := TX2) (C := RX2) (owner := "TicketGate$Table") (As := [.int o1.1, .int 1, .int v2]) (rest := []) (ws' := (wX2 ad c9 o1.2 o3)) (c_X6_set l hG D c9 ad 25 4 RX2 rfl layc_X2 5 5 o1.2 o2 o1.1 1 v2 ho3) 3 (gU wc_50 wc_51 wc_52 wc_53 wc_34 wc_54) rfl rfl rfl rfl pd_X6_set_UX2_addRealm_15 ⟨Nat.le_of_ble_eq_true rfl, Nat.le_of_ble_eq_true rfl⟩ 0 rfl rfl rfl rfl (Nat.le_of_ble_eq_true rfl) ⟨Nat.zero_le _, Nat.zero_le _⟩ [0, 1] [] [0, 1] rfl rfl rfl rfl dX2_addRealm_19 22 rfl ?_
  refine v_aload_n X dX2_addRealm_22 1 rfl rfl 23 rfl ?_
  refine v_iload X dX2_addRealm_23 0 rfl 25 rfl ?_
  refine v_iconst X dX2_addRealm_25 ic_2 26 rfl ?_
  refine v_iload_n X dX2_addRealm_26 4 rfl rfl 27 rfl ?_
  obtain ⟨o4, ho4, hf⟩ := bnd hf
  refine v_callUv X (ci := 4) (T := TX2) (C := RX2) (owner := "TicketGate$Table") (As := [.int o1.1, .int 2, .int v3]) (rest := []) (ws' := (wX2 ad c9 o1.2 o4)) (c_X6_set l hG D c9 ad 25 4 RX2 rfl layc_X2 5 5 o1.2 o3 o1.1 2 v3 ho4) 3 (gU wc_50 wc_51 wc_52 wc_53 wc_34 wc_54) rfl rfl rfl rfl pd_X6_set_UX2_addRealm_15 ⟨Nat.le_of_ble_eq_true rfl, Nat.le_of_ble_eq_true rfl⟩ 0 rfl rfl rfl rfl (Nat.le_of_ble_eq_true rfl) ⟨Nat.zero_le _, Nat.zero_le _⟩ [0, 1] [] [0, 1] rfl rfl rfl rfl dX2_addRealm_27 30 rfl ?_
  refine v_aload_n X dX2_addRealm_30 1 rfl rfl 31 rfl ?_
  refine v_iload X dX2_addRealm_31 0 rfl 33 rfl ?_
  refine v_iconst X dX2_addRealm_33 ic_3 34 rfl ?_
  refine v_iload X dX2_addRealm_34 5 rfl 36 rfl ?_
  obtain ⟨o5, ho5, hf⟩ := bnd hf
  refine v_callUv X (ci := 4) (T := TX2) (C := RX2) (owner := "TicketGate$Table") (As := [.int o1.1, .int 3, .int v4]) (rest := []) (ws' := (wX2 ad c9 o1.2 o5)) (c_X6_set l hG D c9 ad 25 4 RX2 rfl layc_X2 5 5 o1.2 o4 o1.1 3 v4 ho5) 3 (gU wc_50 wc_51 wc_52 wc_53 wc_34 wc_54) rfl rfl rfl rfl pd_X6_set_UX2_addRealm_15 ⟨Nat.le_of_ble_eq_true rfl, Nat.le_of_ble_eq_true rfl⟩ 0 rfl rfl rfl rfl (Nat.le_of_ble_eq_true rfl) ⟨Nat.zero_le _, Nat.zero_le _⟩ [0, 1] [] [0, 1] rfl rfl rfl rfl dX2_addRealm_36 39 rfl ?_
  refine v_aload_n X dX2_addRealm_39 1 rfl rfl 40 rfl ?_
  refine v_iload X dX2_addRealm_40 0 rfl 42 rfl ?_
  refine v_iconst X dX2_addRealm_42 ic_4 43 rfl ?_
  refine v_iconst X dX2_addRealm_43 ic_0 44 rfl ?_
  obtain ⟨o6, ho6, hf⟩ := bnd hf
  refine v_callUv X (ci := 4) (T := TX2) (C := RX2) (owner := "TicketGate$Table") (As := [.int o1.1, .int 4, .int 0]) (rest := []) (ws' := (wX2 ad c9 o1.2 o6)) (c_X6_set l hG D c9 ad 25 4 RX2 rfl layc_X2 5 5 o1.2 o5 o1.1 4 0 ho6) 3 (gU wc_50 wc_51 wc_52 wc_53 wc_34 wc_54) rfl rfl rfl rfl pd_X6_set_UX2_addRealm_15 ⟨Nat.le_of_ble_eq_true rfl, Nat.le_of_ble_eq_true rfl⟩ 0 rfl rfl rfl rfl (Nat.le_of_ble_eq_true rfl) ⟨Nat.zero_le _, Nat.zero_le _⟩ [0, 1] [] [0, 1] rfl rfl rfl rfl dX2_addRealm_44 47 rfl ?_
  obtain rfl := Option.some.inj hf
  exact v_vret X (Nat.zero_le _) (Nat.zero_le _) dX2_addRealm_47
theorem pd_X2_addRealm : yX2_addRealm.cls ≠ "java/lang/invoke/MethodHandle" ∧ yX2_addRealm.cls ≠ "java/lang/invoke/VarHandle" ∧ (parseMethodDescriptor yX2_addRealm.desc).map (fun d => d.parameters.length) = some 4 := by decide +kernel
theorem pd_X6_get_UX2_addTrust_19 : "TicketGate$Table" ≠ "java/lang/invoke/MethodHandle" ∧ "TicketGate$Table" ≠ "java/lang/invoke/VarHandle" ∧ (parseMethodDescriptor "(II)I").map (fun d => d.parameters.length) = some 2 := by decide +kernel
theorem pd_X6_set_UX2_addTrust_15 : "TicketGate$Table" ≠ "java/lang/invoke/MethodHandle" ∧ "TicketGate$Table" ≠ "java/lang/invoke/VarHandle" ∧ (parseMethodDescriptor "(III)V").map (fun d => d.parameters.length) = some 3 := by decide +kernel
def f_X2_addTrust (t_rows : Int32) (t_cells : Nat → Int32) (v1 : Int32) (v2 : Int32) : Option ((Nat → Int32)) :=
  (f_X6_get 25 5 t_rows t_cells v1 4).bind fun o1 =>
  (f_X6_set 25 5 t_rows t_cells v1 4 (o1 ||| (1 <<< (v2 &&& 31)))).bind fun o2 =>
  some (o2)
set_option maxRecDepth 100000 in
set_option maxHeartbeats 4000000 in
theorem c_X2_addTrust (l : Launch) {G : (Nat → Prop) → State → Heap → Prop} (hG : vG G) (D : va_G) (c9 : Nat → ClassId) (ad : Nat → Nat) (t_rows : Int32) (t_cells : Nat → Int32) (v1 : Int32) (v2 : Int32) {o : (Nat → Int32)} (hf : f_X2_addTrust t_rows t_cells v1 v2 = some o) : mV l yX2_addTrust (wq yX2_addTrust cX2_addTrust 3 none) { frames := 1, cells := 0, slots := 0, locals := 24 } G D (tyA c9) [.ref (ad 0), .int v1, .int v2] (wX2 ad c9 t_rows t_cells) [] 0 0 (wX2 ad c9 t_rows o) := by
  refine mV_of hG (cc := cX2_addTrust) (maxL := 3) (by decide) rfl (Nat.le_of_ble_eq_true rfl) ?_
  intro p e s m args below meth c A hnm X
  have X : vX p s m args meth c cX2_addTrust 3 none RX2 (wq yX2_addTrust cX2_addTrust 3 none) D (tyA c9) G A := X
  refine v_eq (lv2 := [(0, .ref (ad 0)), (1, .int v1), (2, .int v2)]) rfl rfl rfl rfl ?_
  rw [f_X2_addTrust] at hf
  refine v_aload_n X dX2_addTrust_0 0 rfl rfl 1 rfl ?_
  refine v_iload_n X dX2_addTrust_1 1 rfl rfl 2 rfl ?_
  refine v_iconst X dX2_addTrust_2 ic_4 3 rfl ?_
  refine v_aload_n X dX2_addTrust_3 0 rfl rfl 4 rfl ?_
  refine v_iload_n X dX2_addTrust_4 1 rfl rfl 5 rfl ?_
  refine v_iconst X dX2_addTrust_5 ic_4 6 rfl ?_
  obtain ⟨o1, ho1, hf⟩ := bnd hf
  refine v_callUi X (ci := 4) (T := TX2) (C := RX2) (owner := "TicketGate$Table") (As := [.int v1, .int 4]) (rest := [.int 4, .int v1, .ref (ad 0)]) (ws' := (wX2 ad c9 t_rows t_cells)) (c_X6_get l hG D c9 ad 25 4 RX2 rfl layc_X2 5 5 t_rows t_cells v1 4 ho1) 2 (gU wc_55 wc_56 wc_57 wc_33 wc_34 wc_35) rfl rfl rfl rfl pd_X6_get_UX2_addTrust_19 ⟨Nat.le_of_ble_eq_true rfl, Nat.le_of_ble_eq_true rfl⟩ 0 rfl rfl rfl rfl (Nat.le_of_ble_eq_true rfl) ⟨Nat.zero_le _, Nat.zero_le _⟩ [0, 1] [] [0, 1] rfl rfl rfl rfl dX2_addTrust_6 9 rfl ?_
  refine v_iconst X dX2_addTrust_9 ic_1 10 rfl ?_
  refine v_iload_n X dX2_addTrust_10 2 rfl rfl 11 rfl ?_
  refine v_ishl X dX2_addTrust_11 12 rfl ?_
  refine v_ior X dX2_addTrust_12 13 rfl ?_
  obtain ⟨o2, ho2, hf⟩ := bnd hf
  refine v_callUv X (ci := 4) (T := TX2) (C := RX2) (owner := "TicketGate$Table") (As := [.int v1, .int 4, .int (o1 ||| (1 <<< (v2 &&& 31)))]) (rest := []) (ws' := (wX2 ad c9 t_rows o2)) (c_X6_set l hG D c9 ad 25 4 RX2 rfl layc_X2 5 5 t_rows t_cells v1 4 (o1 ||| (1 <<< (v2 &&& 31))) ho2) 3 (gU wc_50 wc_51 wc_52 wc_53 wc_34 wc_54) rfl rfl rfl rfl pd_X6_set_UX2_addTrust_15 ⟨Nat.le_of_ble_eq_true rfl, Nat.le_of_ble_eq_true rfl⟩ 0 rfl rfl rfl rfl (Nat.le_of_ble_eq_true rfl) ⟨Nat.zero_le _, Nat.zero_le _⟩ [0, 1] [] [0, 1] rfl rfl rfl rfl dX2_addTrust_13 16 rfl ?_
  obtain rfl := Option.some.inj hf
  exact v_vret X (Nat.zero_le _) (Nat.zero_le _) dX2_addTrust_16
theorem pd_X2_addTrust : yX2_addTrust.cls ≠ "java/lang/invoke/MethodHandle" ∧ yX2_addTrust.cls ≠ "java/lang/invoke/VarHandle" ∧ (parseMethodDescriptor yX2_addTrust.desc).map (fun d => d.parameters.length) = some 2 := by decide +kernel
