/-! Digits; the constructors; what a builder gives. -/
/-- the rows of digits that the JDK keeps; arrays of int arrays can be made -/
def vV (A : Nat → Prop) (U : State) (H : Heap) : Prop := (∃ t1 t2 : Nat, va_Z "java/lang/Integer" "DigitOnes" "[B" (.ref t1) A U H ∧ va_T .byte t1 100 (fun j => .int (nI (48 + j % 10))) A U H ∧ va_Z "java/lang/Integer" "DigitTens" "[B" (.ref t2) A U H ∧ va_T .byte t2 100 (fun j => .int (nI (48 + j / 10))) A U H) ∧ va_AI U
theorem dgs1 {x : Nat} (h : x < 10) : dgs x = [48 + x] := if_pos h
theorem dgs2 {x : Nat} (h1 : ¬ x < 10) (h : x < 100) : dgs x = [48 + x / 10, 48 + x % 10] := by
  unfold dgs
  rw [if_neg h1, if_pos h]
theorem dgs3 {x : Nat} (h1 : ¬ x < 100) (h : x < 1000) : dgs x = [48 + x / 100, 48 + x / 10 % 10, 48 + x % 10] := by
  unfold dgs
  rw [if_neg (by omega), if_neg h1, if_pos h]
theorem dgs4 {x : Nat} (h : ¬ x < 1000) : dgs x = [48 + x / 1000, 48 + x / 100 % 10, 48 + x / 10 % 10, 48 + x % 10] := by
  unfold dgs
  rw [if_neg (by omega), if_neg (by omega), if_neg h]
theorem byte71 : ∀ c, c < 128 → (nI c).toInt8.toInt32 = nI c := by decide +kernel
set_option maxRecDepth 100000 in
set_option maxHeartbeats 4000000 in
theorem c_strSize (l : Launch) {G : (Nat → Prop) → State → Heap → Prop} (hG : vG G) (D : va_G) (c9 : Nat → ClassId) {sk sv : Nat → Nat} (hGU : ∀ (A : Nat → Prop) (U : State) (H : Heap), G A U H → vU sk sv A U H) {x : Nat} (hx : x < 1024) : mI l yJ6_stringSize_0f7a4 (wq yJ6_stringSize_0f7a4 cJ6_stringSize_0f7a4 4 (some .int)) { frames := 0, cells := 0, slots := 0, locals := 0 } G D (tyA c9) [.int (nI x)] [] [] 0 0 (nI (dgs x).length) [] := by
  refine mI_of hG (cc := cJ6_stringSize_0f7a4) (maxL := 4) (ty := .int) (by decide) rfl (Nat.le_of_ble_eq_true rfl) ?_
  intro p e s m args below meth c A X
  have X : vX p s m args meth c cJ6_stringSize_0f7a4 4 (some .int) RJ6 (wq yJ6_stringSize_0f7a4 cJ6_stringSize_0f7a4 4 (some .int)) D (tyA c9) G A := X
  refine v_eq (lv2 := [(0, .int (nI x))]) rfl rfl rfl rfl ?_
  refine v_iconst X dJ6_stringSize_0f7a4_0 ic_1 1 rfl ?_
  refine v_istore_n X (lv' := [(1, .int 1), (0, .int (nI x))]) dJ6_stringSize_0f7a4_1 rfl (by decide) rfl 2 rfl ?_
  refine v_iload_n X dJ6_stringSize_0f7a4_2 1 rfl rfl 3 rfl ?_
  refine v_if_lt X (tgt := 11) dJ6_stringSize_0f7a4_3 rfl 6 rfl (a := none) (b := some ()) (o := ()) (if_neg (nI_pos (by omega))) (fun h => nomatch h) (fun _ => ?_)
  refine v_iconst X dJ6_stringSize_0f7a4_6 ic_0 7 rfl ?_
  refine v_istore_n X (lv' := [(1, .int 0), (0, .int (nI x))]) dJ6_stringSize_0f7a4_7 rfl (by decide) rfl 8 rfl ?_
  refine v_iload_n X dJ6_stringSize_0f7a4_8 1 rfl rfl 9 rfl ?_
  refine v_ineg X dJ6_stringSize_0f7a4_9 10 rfl ?_
  refine v_istore_n X (lv' := [(0, .int (-(nI x))), (1, .int 0)]) dJ6_stringSize_0f7a4_10 rfl (by decide) rfl 11 rfl ?_
  refine v_bipush X dJ6_stringSize_0f7a4_11 bp_m10 13 rfl ?_
  refine v_istore_n X (lv' := [(2, .int (-10)), (0, .int (-(nI x))), (1, .int 0)]) dJ6_stringSize_0f7a4_13 rfl (by decide) rfl 14 rfl ?_
  refine v_iconst X dJ6_stringSize_0f7a4_14 ic_1 15 rfl ?_
  refine v_istore_n X (lv' := [(3, .int 1), (2, .int (-10)), (0, .int (-(nI x))), (1, .int 0)]) dJ6_stringSize_0f7a4_15 rfl (by decide) rfl 16 rfl ?_
  by_cases h1 : x < 10
  · refine v_iload_n X dJ6_stringSize_0f7a4_16 0 rfl rfl 17 rfl ?_
    refine v_bipush X dJ6_stringSize_0f7a4_17 bp_10 19 rfl ?_
    refine v_icmp_ge X (tgt := 42) dJ6_stringSize_0f7a4_19 rfl 22 rfl (a := none) (b := some ()) (o := ()) (if_neg (by decide)) (fun h => nomatch h) (fun _ => ?_)
    refine v_iload_n X dJ6_stringSize_0f7a4_22 2 rfl rfl 23 rfl ?_
    refine v_iload_n X dJ6_stringSize_0f7a4_23 1 rfl rfl 24 rfl ?_
    refine v_icmp_le X (tgt := 31) dJ6_stringSize_0f7a4_24 rfl 27 rfl (a := none) (b := some ()) (o := ()) (if_neg (show ¬ -nI x ≤ -nI 10 from fun z => absurd ((sb_nle (by omega) (by omega)).mp z) (by omega))) (fun h => nomatch h) (fun _ => ?_)
    refine v_iload_n X dJ6_stringSize_0f7a4_27 0 rfl rfl 28 rfl ?_
    refine v_iload_n X dJ6_stringSize_0f7a4_28 3 rfl rfl 29 rfl ?_
    refine v_iadd X dJ6_stringSize_0f7a4_29 30 rfl ?_
    refine v_eq (st2 := [.int (nI (dgs x).length)]) rfl rfl rfl (by rw [dgs1 h1]; rfl) ?_
    exact v_iret X (by first | exact Nat.le_of_ble_eq_true rfl | omega | (dsimp only; omega)) (by first | exact Nat.le_of_ble_eq_true rfl | omega | (dsimp only; omega)) dJ6_stringSize_0f7a4_30
  by_cases h2 : x < 100
  · refine v_iload_n X dJ6_stringSize_0f7a4_16 0 rfl rfl 17 rfl ?_
    refine v_bipush X dJ6_stringSize_0f7a4_17 bp_10 19 rfl ?_
    refine v_icmp_ge X (tgt := 42) dJ6_stringSize_0f7a4_19 rfl 22 rfl (a := none) (b := some ()) (o := ()) (if_neg (by decide)) (fun h => nomatch h) (fun _ => ?_)
    refine v_iload_n X dJ6_stringSize_0f7a4_22 2 rfl rfl 23 rfl ?_
    refine v_iload_n X dJ6_stringSize_0f7a4_23 1 rfl rfl 24 rfl ?_
    refine v_icmp_le X (tgt := 31) dJ6_stringSize_0f7a4_24 rfl 27 rfl (a := some ()) (b := none) (o := ()) (if_pos (show -nI x ≤ -nI 10 from (sb_nle (by omega) (by omega)).mpr (by omega))) (fun _ => ?_) (fun h => nomatch h)
    refine v_bipush X dJ6_stringSize_0f7a4_31 bp_10 33 rfl ?_
    refine v_iload_n X dJ6_stringSize_0f7a4_33 1 rfl rfl 34 rfl ?_
    refine v_imul X dJ6_stringSize_0f7a4_34 35 rfl ?_
    rw [show _ = -nI 100 from (by decide : (10 * (-10) : Int32) = -nI 100)]
    refine v_istore_n X (lv' := [(2, .int (-nI 100)), (3, .int 1), (0, .int (-(nI x))), (1, .int 0)]) dJ6_stringSize_0f7a4_35 rfl (by decide) rfl 36 rfl ?_
    refine v_iinc X (lv' := [(3, .int (1 + 1)), (2, .int (-nI 100)), (0, .int (-(nI x))), (1, .int 0)]) dJ6_stringSize_0f7a4_36 1 rfl ic_1 (by decide) rfl 39 rfl ?_
    refine v_goto X (tgt := 16) dJ6_stringSize_0f7a4_39 rfl ?_
    refine v_iload_n X dJ6_stringSize_0f7a4_16 0 rfl rfl 17 rfl ?_
    refine v_bipush X dJ6_stringSize_0f7a4_17 bp_10 19 rfl ?_
    refine v_icmp_ge X (tgt := 42) dJ6_stringSize_0f7a4_19 rfl 22 rfl (a := none) (b := some ()) (o := ()) (if_neg (by decide)) (fun h => nomatch h) (fun _ => ?_)
    refine v_iload_n X dJ6_stringSize_0f7a4_22 2 rfl rfl 23 rfl ?_
    refine v_iload_n X dJ6_stringSize_0f7a4_23 1 rfl rfl 24 rfl ?_
    refine v_icmp_le X (tgt := 31) dJ6_stringSize_0f7a4_24 rfl 27 rfl (a := none) (b := some ()) (o := ()) (if_neg (show ¬ -nI x ≤ -nI 100 from fun z => absurd ((sb_nle (by omega) (by omega)).mp z) (by omega))) (fun h => nomatch h) (fun _ => ?_)
    refine v_iload_n X dJ6_stringSize_0f7a4_27 0 rfl rfl 28 rfl ?_
    refine v_iload_n X dJ6_stringSize_0f7a4_28 3 rfl rfl 29 rfl ?_
    refine v_iadd X dJ6_stringSize_0f7a4_29 30 rfl ?_
    refine v_eq (st2 := [.int (nI (dgs x).length)]) rfl rfl rfl (by rw [dgs2 h1 h2]; rfl) ?_
    exact v_iret X (by first | exact Nat.le_of_ble_eq_true rfl | omega | (dsimp only; omega)) (by first | exact Nat.le_of_ble_eq_true rfl | omega | (dsimp only; omega)) dJ6_stringSize_0f7a4_30
  by_cases h3 : x < 1000
  · refine v_iload_n X dJ6_stringSize_0f7a4_16 0 rfl rfl 17 rfl ?_
    refine v_bipush X dJ6_stringSize_0f7a4_17 bp_10 19 rfl ?_
    refine v_icmp_ge X (tgt := 42) dJ6_stringSize_0f7a4_19 rfl 22 rfl (a := none) (b := some ()) (o := ()) (if_neg (by decide)) (fun h => nomatch h) (fun _ => ?_)
    refine v_iload_n X dJ6_stringSize_0f7a4_22 2 rfl rfl 23 rfl ?_
    refine v_iload_n X dJ6_stringSize_0f7a4_23 1 rfl rfl 24 rfl ?_
    refine v_icmp_le X (tgt := 31) dJ6_stringSize_0f7a4_24 rfl 27 rfl (a := some ()) (b := none) (o := ()) (if_pos (show -nI x ≤ -nI 10 from (sb_nle (by omega) (by omega)).mpr (by omega))) (fun _ => ?_) (fun h => nomatch h)
    refine v_bipush X dJ6_stringSize_0f7a4_31 bp_10 33 rfl ?_
    refine v_iload_n X dJ6_stringSize_0f7a4_33 1 rfl rfl 34 rfl ?_
    refine v_imul X dJ6_stringSize_0f7a4_34 35 rfl ?_
    rw [show _ = -nI 100 from (by decide : (10 * (-10) : Int32) = -nI 100)]
    refine v_istore_n X (lv' := [(2, .int (-nI 100)), (3, .int 1), (0, .int (-(nI x))), (1, .int 0)]) dJ6_stringSize_0f7a4_35 rfl (by decide) rfl 36 rfl ?_
    refine v_iinc X (lv' := [(3, .int (1 + 1)), (2, .int (-nI 100)), (0, .int (-(nI x))), (1, .int 0)]) dJ6_stringSize_0f7a4_36 1 rfl ic_1 (by decide) rfl 39 rfl ?_
    refine v_goto X (tgt := 16) dJ6_stringSize_0f7a4_39 rfl ?_
    refine v_iload_n X dJ6_stringSize_0f7a4_16 0 rfl rfl 17 rfl ?_
    refine v_bipush X dJ6_stringSize_0f7a4_17 bp_10 19 rfl ?_
    refine v_icmp_ge X (tgt := 42) dJ6_stringSize_0f7a4_19 rfl 22 rfl (a := none) (b := some ()) (o := ()) (if_neg (by decide)) (fun h => nomatch h) (fun _ => ?_)
    refine v_iload_n X dJ6_stringSize_0f7a4_22 2 rfl rfl 23 rfl ?_
    refine v_iload_n X dJ6_stringSize_0f7a4_23 1 rfl rfl 24 rfl ?_
    refine v_icmp_le X (tgt := 31) dJ6_stringSize_0f7a4_24 rfl 27 rfl (a := some ()) (b := none) (o := ()) (if_pos (show -nI x ≤ -nI 100 from (sb_nle (by omega) (by omega)).mpr (by omega))) (fun _ => ?_) (fun h => nomatch h)
    refine v_bipush X dJ6_stringSize_0f7a4_31 bp_10 33 rfl ?_
    refine v_iload_n X dJ6_stringSize_0f7a4_33 1 rfl rfl 34 rfl ?_
    refine v_imul X dJ6_stringSize_0f7a4_34 35 rfl ?_
    rw [show _ = -nI 1000 from (by decide : (10 * (-nI 100) : Int32) = -nI 1000)]
    refine v_istore_n X (lv' := [(2, .int (-nI 1000)), (3, .int (1 + 1)), (0, .int (-(nI x))), (1, .int 0)]) dJ6_stringSize_0f7a4_35 rfl (by decide) rfl 36 rfl ?_
    refine v_iinc X (lv' := [(3, .int ((1 + 1) + 1)), (2, .int (-nI 1000)), (0, .int (-(nI x))), (1, .int 0)]) dJ6_stringSize_0f7a4_36 1 rfl ic_1 (by decide) rfl 39 rfl ?_
    refine v_goto X (tgt := 16) dJ6_stringSize_0f7a4_39 rfl ?_
    refine v_iload_n X dJ6_stringSize_0f7a4_16 0 rfl rfl 17 rfl ?_
    refine v_bipush X dJ6_stringSize_0f7a4_17 bp_10 19 rfl ?_
    refine v_icmp_ge X (tgt := 42) dJ6_stringSize_0f7a4_19 rfl 22 rfl (a := none) (b := some ()) (o := ()) (if_neg (by decide)) (fun h => nomatch h) (fun _ => ?_)
    refine v_iload_n X dJ6_stringSize_0f7a4_22 2 rfl rfl 23 rfl ?_
    refine v_iload_n X dJ6_stringSize_0f7a4_23 1 rfl rfl 24 rfl ?_
    refine v_icmp_le X (tgt := 31) dJ6_stringSize_0f7a4_24 rfl 27 rfl (a := none) (b := some ()) (o := ()) (if_neg (show ¬ -nI x ≤ -nI 1000 from fun z => absurd ((sb_nle (by omega) (by omega)).mp z) (by omega))) (fun h => nomatch h) (fun _ => ?_)
    refine v_iload_n X dJ6_stringSize_0f7a4_27 0 rfl rfl 28 rfl ?_
    refine v_iload_n X dJ6_stringSize_0f7a4_28 3 rfl rfl 29 rfl ?_
    refine v_iadd X dJ6_stringSize_0f7a4_29 30 rfl ?_
    refine v_eq (st2 := [.int (nI (dgs x).length)]) rfl rfl rfl (by rw [dgs3 h2 h3]; rfl) ?_
    exact v_iret X (by first | exact Nat.le_of_ble_eq_true rfl | omega | (dsimp only; omega)) (by first | exact Nat.le_of_ble_eq_true rfl | omega | (dsimp only; omega)) dJ6_stringSize_0f7a4_30
  refine v_iload_n X dJ6_stringSize_0f7a4_16 0 rfl rfl 17 rfl ?_
  refine v_bipush X dJ6_stringSize_0f7a4_17 bp_10 19 rfl ?_
  refine v_icmp_ge X (tgt := 42) dJ6_stringSize_0f7a4_19 rfl 22 rfl (a := none) (b := some ()) (o := ()) (if_neg (by decide)) (fun h => nomatch h) (fun _ => ?_)
  refine v_iload_n X dJ6_stringSize_0f7a4_22 2 rfl rfl 23 rfl ?_
  refine v_iload_n X dJ6_stringSize_0f7a4_23 1 rfl rfl 24 rfl ?_
  refine v_icmp_le X (tgt := 31) dJ6_stringSize_0f7a4_24 rfl 27 rfl (a := some ()) (b := none) (o := ()) (if_pos (show -nI x ≤ -nI 10 from (sb_nle (by omega) (by omega)).mpr (by omega))) (fun _ => ?_) (fun h => nomatch h)
  refine v_bipush X dJ6_stringSize_0f7a4_31 bp_10 33 rfl ?_
  refine v_iload_n X dJ6_stringSize_0f7a4_33 1 rfl rfl 34 rfl ?_
  refine v_imul X dJ6_stringSize_0f7a4_34 35 rfl ?_
  rw [show _ = -nI 100 from (by decide : (10 * (-10) : Int32) = -nI 100)]
  refine v_istore_n X (lv' := [(2, .int (-nI 100)), (3, .int 1), (0, .int (-(nI x))), (1, .int 0)]) dJ6_stringSize_0f7a4_35 rfl (by decide) rfl 36 rfl ?_
  refine v_iinc X (lv' := [(3, .int (1 + 1)), (2, .int (-nI 100)), (0, .int (-(nI x))), (1, .int 0)]) dJ6_stringSize_0f7a4_36 1 rfl ic_1 (by decide) rfl 39 rfl ?_
  refine v_goto X (tgt := 16) dJ6_stringSize_0f7a4_39 rfl ?_
  refine v_iload_n X dJ6_stringSize_0f7a4_16 0 rfl rfl 17 rfl ?_
  refine v_bipush X dJ6_stringSize_0f7a4_17 bp_10 19 rfl ?_
  refine v_icmp_ge X (tgt := 42) dJ6_stringSize_0f7a4_19 rfl 22 rfl (a := none) (b := some ()) (o := ()) (if_neg (by decide)) (fun h => nomatch h) (fun _ => ?_)
  refine v_iload_n X dJ6_stringSize_0f7a4_22 2 rfl rfl 23 rfl ?_
  refine v_iload_n X dJ6_stringSize_0f7a4_23 1 rfl rfl 24 rfl ?_
  refine v_icmp_le X (tgt := 31) dJ6_stringSize_0f7a4_24 rfl 27 rfl (a := some ()) (b := none) (o := ()) (if_pos (show -nI x ≤ -nI 100 from (sb_nle (by omega) (by omega)).mpr (by omega))) (fun _ => ?_) (fun h => nomatch h)
  refine v_bipush X dJ6_stringSize_0f7a4_31 bp_10 33 rfl ?_
  refine v_iload_n X dJ6_stringSize_0f7a4_33 1 rfl rfl 34 rfl ?_
  refine v_imul X dJ6_stringSize_0f7a4_34 35 rfl ?_
  rw [show _ = -nI 1000 from (by decide : (10 * (-nI 100) : Int32) = -nI 1000)]
  refine v_istore_n X (lv' := [(2, .int (-nI 1000)), (3, .int (1 + 1)), (0, .int (-(nI x))), (1, .int 0)]) dJ6_stringSize_0f7a4_35 rfl (by decide) rfl 36 rfl ?_
  refine v_iinc X (lv' := [(3, .int ((1 + 1) + 1)), (2, .int (-nI 1000)), (0, .int (-(nI x))), (1, .int 0)]) dJ6_stringSize_0f7a4_36 1 rfl ic_1 (by decide) rfl 39 rfl ?_
  refine v_goto X (tgt := 16) dJ6_stringSize_0f7a4_39 rfl ?_
  refine v_iload_n X dJ6_stringSize_0f7a4_16 0 rfl rfl 17 rfl ?_
  refine v_bipush X dJ6_stringSize_0f7a4_17 bp_10 19 rfl ?_
  refine v_icmp_ge X (tgt := 42) dJ6_stringSize_0f7a4_19 rfl 22 rfl (a := none) (b := some ()) (o := ()) (if_neg (by decide)) (fun h => nomatch h) (fun _ => ?_)
  refine v_iload_n X dJ6_stringSize_0f7a4_22 2 rfl rfl 23 rfl ?_
  refine v_iload_n X dJ6_stringSize_0f7a4_23 1 rfl rfl 24 rfl ?_
  refine v_icmp_le X (tgt := 31) dJ6_stringSize_0f7a4_24 rfl 27 rfl (a := some ()) (b := none) (o := ()) (if_pos (show -nI x ≤ -nI 1000 from (sb_nle (by omega) (by omega)).mpr (by omega))) (fun _ => ?_) (fun h => nomatch h)
  refine v_bipush X dJ6_stringSize_0f7a4_31 bp_10 33 rfl ?_
  refine v_iload_n X dJ6_stringSize_0f7a4_33 1 rfl rfl 34 rfl ?_
  refine v_imul X dJ6_stringSize_0f7a4_34 35 rfl ?_
  rw [show _ = -nI 10000 from (by decide : (10 * (-nI 1000) : Int32) = -nI 10000)]
  refine v_istore_n X (lv' := [(2, .int (-nI 10000)), (3, .int ((1 + 1) + 1)), (0, .int (-(nI x))), (1, .int 0)]) dJ6_stringSize_0f7a4_35 rfl (by decide) rfl 36 rfl ?_
  refine v_iinc X (lv' := [(3, .int (((1 + 1) + 1) + 1)), (2, .int (-nI 10000)), (0, .int (-(nI x))), (1, .int 0)]) dJ6_stringSize_0f7a4_36 1 rfl ic_1 (by decide) rfl 39 rfl ?_
  refine v_goto X (tgt := 16) dJ6_stringSize_0f7a4_39 rfl ?_
  refine v_iload_n X dJ6_stringSize_0f7a4_16 0 rfl rfl 17 rfl ?_
  refine v_bipush X dJ6_stringSize_0f7a4_17 bp_10 19 rfl ?_
  refine v_icmp_ge X (tgt := 42) dJ6_stringSize_0f7a4_19 rfl 22 rfl (a := none) (b := some ()) (o := ()) (if_neg (by decide)) (fun h => nomatch h) (fun _ => ?_)
  refine v_iload_n X dJ6_stringSize_0f7a4_22 2 rfl rfl 23 rfl ?_
  refine v_iload_n X dJ6_stringSize_0f7a4_23 1 rfl rfl 24 rfl ?_
  refine v_icmp_le X (tgt := 31) dJ6_stringSize_0f7a4_24 rfl 27 rfl (a := none) (b := some ()) (o := ()) (if_neg (show ¬ -nI x ≤ -nI 10000 from fun z => absurd ((sb_nle (by omega) (by omega)).mp z) (by omega))) (fun h => nomatch h) (fun _ => ?_)
  refine v_iload_n X dJ6_stringSize_0f7a4_27 0 rfl rfl 28 rfl ?_
  refine v_iload_n X dJ6_stringSize_0f7a4_28 3 rfl rfl 29 rfl ?_
  refine v_iadd X dJ6_stringSize_0f7a4_29 30 rfl ?_
  refine v_eq (st2 := [.int (nI (dgs x).length)]) rfl rfl rfl (by rw [dgs4 h3]; rfl) ?_
  exact v_iret X (by first | exact Nat.le_of_ble_eq_true rfl | omega | (dsimp only; omega)) (by first | exact Nat.le_of_ble_eq_true rfl | omega | (dsimp only; omega)) dJ6_stringSize_0f7a4_30
theorem dgs_len {x : Nat} : (dgs x).length ≤ 4 := by
  unfold dgs
  repeat' split
  all_goals exact Nat.le_of_ble_eq_true rfl
set_option maxRecDepth 100000 in
set_option maxHeartbeats 4000000 in
theorem c_getChars (l : Launch) {G : (Nat → Prop) → State → Heap → Prop} (hG : vG G) (D : va_G) (c9 : Nat → ClassId) {sk sv : Nat → Nat} (hGU : ∀ (A : Nat → Prop) (U : State) (H : Heap), G A U H → vU sk sv A U H) (hGV : ∀ (A : Nat → Prop) (U : State) (H : Heap), G A U H → vV A U H) {x k v cap : Nat} {e9 : Int32} {f : Nat → Int32} {F : va_W} (hx : x < 1024) (he : e9 = nI (k + (dgs x).length)) (hk : k + (dgs x).length ≤ cap) (hcap : cap ≤ 700) (hf : sb_Fit f) : mH (S := Nat → Int32) l yJ6_getChars_ba4f3 (wq yJ6_getChars_ba4f3 cJ6_getChars_ba4f3 7 (some .int)) { frames := 0, cells := 0, slots := 0, locals := 0 } G D (tyA c9) [.int (nI x), .int e9, .ref v] ([(v, .inl (c9 2, cap, .inl f))] ++ F) 0 0 (nI k) (fun f' => sb_Fit f' ∧ (∀ j, j < k → f' j = f j) ∧ ∀ j, j < (dgs x).length → f' (k + j) = nI ((dgs x).getD j 0)) (fun f' => [(v, .inl (c9 2, cap, .inl f'))] ++ F) := by
  refine mJ_of hG (cc := cJ6_getChars_ba4f3) (maxL := 7) (ty := .int) (by decide) rfl (Nat.le_of_ble_eq_true rfl) ?_
  intro p e s m args below meth c A X
  have X : vX p s m args meth c cJ6_getChars_ba4f3 7 (some .int) RJ6 (wq yJ6_getChars_ba4f3 cJ6_getChars_ba4f3 7 (some .int)) D (tyA c9) G A := X
  have hlen4 : (dgs x).length ≤ 4 := dgs_len
  refine v_eq (lv2 := [(0, .int (nI x)), (1, .int e9), (2, .ref v)]) rfl rfl rfl rfl ?_
  by_cases h1 : x < 10
  · have he : e9 = nI (k + 1) := by rw [he, dgs1 h1]; rfl
    subst he
    have hk9 : k + 1 ≤ cap := by rw [dgs1 h1] at hk; exact hk
    obtain ⟨⟨t1, t2, hz1, ht1, hz2, ht2⟩, -⟩ := hGV A s s.heap X.2.2.2.2.2.2.2.2.2.2
    refine v_iload_n X dJ6_getChars_ba4f3_0 1 rfl rfl 1 rfl ?_
    refine v_istore X (lv' := [(5, .int (nI (k + 1))), (0, .int (nI x)), (1, .int (nI (k + 1))), (2, .ref v)]) dJ6_getChars_ba4f3_1 (by decide) rfl 3 rfl ?_
    refine v_iload_n X dJ6_getChars_ba4f3_3 1 rfl rfl 4 rfl ?_
    refine v_if_ge X (tgt := 11) dJ6_getChars_ba4f3_4 rfl 7 rfl (a := some ()) (b := none) (o := ()) (if_pos (nI_pos' (by omega))) (fun _ => ?_) (fun h => nomatch h)
    refine v_iconst X dJ6_getChars_ba4f3_11 ic_0 12 rfl ?_
    refine v_istore X (lv' := [(6, .int 0), (5, .int (nI (k + 1))), (0, .int (nI x)), (1, .int (nI (k + 1))), (2, .ref v)]) dJ6_getChars_ba4f3_12 (by decide) rfl 14 rfl ?_
    refine v_iload X dJ6_getChars_ba4f3_14 0 rfl 16 rfl ?_
    refine v_if_ne X (tgt := 22) dJ6_getChars_ba4f3_16 rfl 19 rfl (a := none) (b := some ()) (o := ()) (if_pos rfl) (fun h => nomatch h) (fun _ => ?_)
    refine v_iload_n X dJ6_getChars_ba4f3_19 2 rfl rfl 20 rfl ?_
    refine v_ineg X dJ6_getChars_ba4f3_20 21 rfl ?_
    refine v_istore_n X (lv' := [(0, .int (-nI x)), (6, .int 0), (5, .int (nI (k + 1))), (1, .int (nI (k + 1))), (2, .ref v)]) dJ6_getChars_ba4f3_21 rfl (by decide) rfl 22 rfl ?_
    refine v_iload_n X dJ6_getChars_ba4f3_22 0 rfl rfl 23 rfl ?_
    refine v_bipush X dJ6_getChars_ba4f3_23 bp_m100 25 rfl ?_
    refine v_icmp_gt X (tgt := 72) dJ6_getChars_ba4f3_25 rfl 28 rfl (a := some ()) (b := none) (o := ()) (if_pos (show -nI 100 < -nI x from (sb_nlt (by omega) (by omega)).mpr (by omega))) (fun _ => ?_) (fun h => nomatch h)
    refine v_aload_n X dJ6_getChars_ba4f3_72 4 rfl rfl 73 rfl ?_
    refine v_iinc X (lv' := [(5, .int ((nI (k + 1)) + (-1))), (0, .int (-nI x)), (6, .int 0), (1, .int (nI (k + 1))), (2, .ref v)]) dJ6_getChars_ba4f3_73 2 rfl ic_m1 (by decide) rfl 76 rfl ?_
    rw [show nI (k + 1) + (-1) = nI (k + 0) from sb_m1 (by omega)]
    refine v_iload X dJ6_getChars_ba4f3_76 0 rfl 78 rfl ?_
    refine v_gets X dJ6_getChars_ba4f3_78 hz1 (mw wq_90) rfl 81 rfl ?_
    refine v_iload_n X dJ6_getChars_ba4f3_81 1 rfl rfl 82 rfl ?_
    refine v_ineg X dJ6_getChars_ba4f3_82 83 rfl ?_
    rw [Int32.neg_neg]
    refine v_tb X (v := .int (nI (48 + x % 10))) dJ6_getChars_ba4f3_83 ht1 (vp_in_nI (by omega) (by decide)) (by show Value.int _ = _; rw [nI_clamp (by omega)]) 84 rfl ?_
    refine v_bast X (ws' := [(v, .inl (c9 2, cap, .inl (upd f (k + 0) (nI (48 + x % 10)))))]) dJ6_getChars_ba4f3_84 0 2 rfl rfl (by rw [byte71 _ (by omega)]; exact wr_nI (by omega) (by omega)) rfl 85 rfl ?_
    refine v_iload_n X dJ6_getChars_ba4f3_85 1 rfl rfl 86 rfl ?_
    refine v_bipush X dJ6_getChars_ba4f3_86 bp_m9 88 rfl ?_
    refine v_icmp_ge X (tgt := 104) dJ6_getChars_ba4f3_88 rfl 91 rfl (a := some ()) (b := none) (o := ()) (if_pos (show -nI 9 ≤ -nI x from (sb_nle (by omega) (by omega)).mpr (by omega))) (fun _ => ?_) (fun h => nomatch h)
    refine v_iload X dJ6_getChars_ba4f3_104 2 rfl 106 rfl ?_
    refine v_if_eq X (tgt := 118) dJ6_getChars_ba4f3_106 rfl 109 rfl (a := some ()) (b := none) (o := ()) (if_pos rfl) (fun _ => ?_) (fun h => nomatch h)
    refine v_iload X dJ6_getChars_ba4f3_118 0 rfl 120 rfl ?_
    refine v_jret (u := (upd f (k + 0) (nI (48 + x % 10)))) ⟨(sb_fitU hf (fits7 _ (by omega))), fun j hj => ?_, fun j hj => ?_⟩ (show nI (k + 0) = nI k from rfl) (List.Perm.refl _) X (by first | exact Nat.le_of_ble_eq_true rfl | omega | (dsimp only; omega)) (by first | exact Nat.le_of_ble_eq_true rfl | omega | (dsimp only; omega)) dJ6_getChars_ba4f3_120
    · rw [pk_un (by omega)]
    · rw [dgs1 h1] at hj ⊢
      have hj : j < 1 := hj
      obtain rfl : j = 0 := by omega
      all_goals (simp [upd] <;> (first | done | (congr 1; omega) | omega))
  by_cases h2 : x < 100
  · have he : e9 = nI (k + 2) := by rw [he, dgs2 h1 h2]; rfl
    subst he
    have hk9 : k + 2 ≤ cap := by rw [dgs2 h1 h2] at hk; exact hk
    obtain ⟨⟨t1, t2, hz1, ht1, hz2, ht2⟩, -⟩ := hGV A s s.heap X.2.2.2.2.2.2.2.2.2.2
    refine v_iload_n X dJ6_getChars_ba4f3_0 1 rfl rfl 1 rfl ?_
    refine v_istore X (lv' := [(5, .int (nI (k + 2))), (0, .int (nI x)), (1, .int (nI (k + 2))), (2, .ref v)]) dJ6_getChars_ba4f3_1 (by decide) rfl 3 rfl ?_
    refine v_iload_n X dJ6_getChars_ba4f3_3 1 rfl rfl 4 rfl ?_
    refine v_if_ge X (tgt := 11) dJ6_getChars_ba4f3_4 rfl 7 rfl (a := some ()) (b := none) (o := ()) (if_pos (nI_pos' (by omega))) (fun _ => ?_) (fun h => nomatch h)
    refine v_iconst X dJ6_getChars_ba4f3_11 ic_0 12 rfl ?_
    refine v_istore X (lv' := [(6, .int 0), (5, .int (nI (k + 2))), (0, .int (nI x)), (1, .int (nI (k + 2))), (2, .ref v)]) dJ6_getChars_ba4f3_12 (by decide) rfl 14 rfl ?_
    refine v_iload X dJ6_getChars_ba4f3_14 0 rfl 16 rfl ?_
    refine v_if_ne X (tgt := 22) dJ6_getChars_ba4f3_16 rfl 19 rfl (a := none) (b := some ()) (o := ()) (if_pos rfl) (fun h => nomatch h) (fun _ => ?_)
    refine v_iload_n X dJ6_getChars_ba4f3_19 2 rfl rfl 20 rfl ?_
    refine v_ineg X dJ6_getChars_ba4f3_20 21 rfl ?_
    refine v_istore_n X (lv' := [(0, .int (-nI x)), (6, .int 0), (5, .int (nI (k + 2))), (1, .int (nI (k + 2))), (2, .ref v)]) dJ6_getChars_ba4f3_21 rfl (by decide) rfl 22 rfl ?_
    refine v_iload_n X dJ6_getChars_ba4f3_22 0 rfl rfl 23 rfl ?_
    refine v_bipush X dJ6_getChars_ba4f3_23 bp_m100 25 rfl ?_
    refine v_icmp_gt X (tgt := 72) dJ6_getChars_ba4f3_25 rfl 28 rfl (a := some ()) (b := none) (o := ()) (if_pos (show -nI 100 < -nI x from (sb_nlt (by omega) (by omega)).mpr (by omega))) (fun _ => ?_) (fun h => nomatch h)
    refine v_aload_n X dJ6_getChars_ba4f3_72 4 rfl rfl 73 rfl ?_
    refine v_iinc X (lv' := [(5, .int ((nI (k + 2)) + (-1))), (0, .int (-nI x)), (6, .int 0), (1, .int (nI (k + 2))), (2, .ref v)]) dJ6_getChars_ba4f3_73 2 rfl ic_m1 (by decide) rfl 76 rfl ?_
    rw [show nI (k + 2) + (-1) = nI (k + 1) from sb_m1 (by omega)]
    refine v_iload X dJ6_getChars_ba4f3_76 0 rfl 78 rfl ?_
    refine v_gets X dJ6_getChars_ba4f3_78 hz1 (mw wq_90) rfl 81 rfl ?_
    refine v_iload_n X dJ6_getChars_ba4f3_81 1 rfl rfl 82 rfl ?_
    refine v_ineg X dJ6_getChars_ba4f3_82 83 rfl ?_
    rw [Int32.neg_neg]
    refine v_tb X (v := .int (nI (48 + x % 10))) dJ6_getChars_ba4f3_83 ht1 (vp_in_nI (by omega) (by decide)) (by show Value.int _ = _; rw [nI_clamp (by omega)]) 84 rfl ?_
    refine v_bast X (ws' := [(v, .inl (c9 2, cap, .inl (upd f (k + 1) (nI (48 + x % 10)))))]) dJ6_getChars_ba4f3_84 0 2 rfl rfl (by rw [byte71 _ (by omega)]; exact wr_nI (by omega) (by omega)) rfl 85 rfl ?_
    refine v_iload_n X dJ6_getChars_ba4f3_85 1 rfl rfl 86 rfl ?_
    refine v_bipush X dJ6_getChars_ba4f3_86 bp_m9 88 rfl ?_
    refine v_icmp_ge X (tgt := 104) dJ6_getChars_ba4f3_88 rfl 91 rfl (a := none) (b := some ()) (o := ()) (if_neg (show ¬ -nI 9 ≤ -nI x from fun z => absurd ((sb_nle (by omega) (by omega)).mp z) (by omega))) (fun h => nomatch h) (fun _ => ?_)
    refine v_aload_n X dJ6_getChars_ba4f3_91 4 rfl rfl 92 rfl ?_
    refine v_iinc X (lv' := [(5, .int ((nI (k + 1)) + (-1))), (0, .int (-nI x)), (6, .int 0), (1, .int (nI (k + 2))), (2, .ref v)]) dJ6_getChars_ba4f3_92 0 rfl ic_m1 (by decide) rfl 95 rfl ?_
    rw [show nI (k + 1) + (-1) = nI (k + 0) from sb_m1 (by omega)]
    refine v_iload X dJ6_getChars_ba4f3_95 0 rfl 97 rfl ?_
    refine v_gets X dJ6_getChars_ba4f3_97 hz2 (mw wq_91) rfl 100 rfl ?_
    refine v_iload_n X dJ6_getChars_ba4f3_100 1 rfl rfl 101 rfl ?_
    refine v_ineg X dJ6_getChars_ba4f3_101 102 rfl ?_
    rw [Int32.neg_neg]
    refine v_tb X (v := .int (nI (48 + x / 10))) dJ6_getChars_ba4f3_102 ht2 (vp_in_nI (by omega) (by decide)) (by show Value.int _ = _; rw [nI_clamp (by omega)]) 103 rfl ?_
    refine v_bast X (ws' := [(v, .inl (c9 2, cap, .inl (upd (upd f (k + 1) (nI (48 + x % 10))) (k + 0) (nI (48 + x / 10)))))]) dJ6_getChars_ba4f3_103 0 2 rfl rfl (by rw [byte71 _ (by omega)]; exact wr_nI (by omega) (by omega)) rfl 104 rfl ?_
    refine v_iload X dJ6_getChars_ba4f3_104 2 rfl 106 rfl ?_
    refine v_if_eq X (tgt := 118) dJ6_getChars_ba4f3_106 rfl 109 rfl (a := some ()) (b := none) (o := ()) (if_pos rfl) (fun _ => ?_) (fun h => nomatch h)
    refine v_iload X dJ6_getChars_ba4f3_118 0 rfl 120 rfl ?_
    refine v_jret (u := (upd (upd f (k + 1) (nI (48 + x % 10))) (k + 0) (nI (48 + x / 10)))) ⟨(sb_fitU (sb_fitU hf (fits7 _ (by omega))) (fits7 _ (by omega))), fun j hj => ?_, fun j hj => ?_⟩ (show nI (k + 0) = nI k from rfl) (List.Perm.refl _) X (by first | exact Nat.le_of_ble_eq_true rfl | omega | (dsimp only; omega)) (by first | exact Nat.le_of_ble_eq_true rfl | omega | (dsimp only; omega)) dJ6_getChars_ba4f3_120
    · rw [pk_un (by omega), pk_un (by omega)]
    · rw [dgs2 h1 h2] at hj ⊢
      have hj : j < 2 := hj
      rcases (show j = 0 ∨ j = 1 by omega) with rfl | rfl
      all_goals (simp [upd] <;> (first | done | (congr 1; omega) | omega))
  by_cases h3 : x < 1000
  · have he : e9 = nI (k + 3) := by rw [he, dgs3 h2 h3]; rfl
    subst he
    have hk9 : k + 3 ≤ cap := by rw [dgs3 h2 h3] at hk; exact hk
    obtain ⟨⟨t1, t2, hz1, ht1, hz2, ht2⟩, -⟩ := hGV A s s.heap X.2.2.2.2.2.2.2.2.2.2
    refine v_iload_n X dJ6_getChars_ba4f3_0 1 rfl rfl 1 rfl ?_
    refine v_istore X (lv' := [(5, .int (nI (k + 3))), (0, .int (nI x)), (1, .int (nI (k + 3))), (2, .ref v)]) dJ6_getChars_ba4f3_1 (by decide) rfl 3 rfl ?_
    refine v_iload_n X dJ6_getChars_ba4f3_3 1 rfl rfl 4 rfl ?_
    refine v_if_ge X (tgt := 11) dJ6_getChars_ba4f3_4 rfl 7 rfl (a := some ()) (b := none) (o := ()) (if_pos (nI_pos' (by omega))) (fun _ => ?_) (fun h => nomatch h)
    refine v_iconst X dJ6_getChars_ba4f3_11 ic_0 12 rfl ?_
    refine v_istore X (lv' := [(6, .int 0), (5, .int (nI (k + 3))), (0, .int (nI x)), (1, .int (nI (k + 3))), (2, .ref v)]) dJ6_getChars_ba4f3_12 (by decide) rfl 14 rfl ?_
    refine v_iload X dJ6_getChars_ba4f3_14 0 rfl 16 rfl ?_
    refine v_if_ne X (tgt := 22) dJ6_getChars_ba4f3_16 rfl 19 rfl (a := none) (b := some ()) (o := ()) (if_pos rfl) (fun h => nomatch h) (fun _ => ?_)
    refine v_iload_n X dJ6_getChars_ba4f3_19 2 rfl rfl 20 rfl ?_
    refine v_ineg X dJ6_getChars_ba4f3_20 21 rfl ?_
    refine v_istore_n X (lv' := [(0, .int (-nI x)), (6, .int 0), (5, .int (nI (k + 3))), (1, .int (nI (k + 3))), (2, .ref v)]) dJ6_getChars_ba4f3_21 rfl (by decide) rfl 22 rfl ?_
    refine v_iload_n X dJ6_getChars_ba4f3_22 0 rfl rfl 23 rfl ?_
    refine v_bipush X dJ6_getChars_ba4f3_23 bp_m100 25 rfl ?_
    refine v_icmp_gt X (tgt := 72) dJ6_getChars_ba4f3_25 rfl 28 rfl (a := none) (b := some ()) (o := ()) (if_neg (show ¬ -nI 100 < -nI x from fun z => absurd ((sb_nlt (by omega) (by omega)).mp z) (by omega))) (fun h => nomatch h) (fun _ => ?_)
    refine v_iload_n X dJ6_getChars_ba4f3_28 0 rfl rfl 29 rfl ?_
    refine v_bipush X dJ6_getChars_ba4f3_29 bp_100 31 rfl ?_
    refine v_idiv X dJ6_getChars_ba4f3_31 (by decide) 32 rfl ?_
    rw [sb_ndiv (by omega)]
    refine v_istore_n X (lv' := [(3, .int (-nI (x / 100))), (0, .int (-nI x)), (6, .int 0), (5, .int (nI (k + 3))), (1, .int (nI (k + 3))), (2, .ref v)]) dJ6_getChars_ba4f3_32 rfl (by decide) rfl 33 rfl ?_
    refine v_iload_n X dJ6_getChars_ba4f3_33 0 rfl rfl 34 rfl ?_
    refine v_bipush X dJ6_getChars_ba4f3_34 bp_100 36 rfl ?_
    refine v_imul X dJ6_getChars_ba4f3_36 37 rfl ?_
    refine v_iload_n X dJ6_getChars_ba4f3_37 1 rfl rfl 38 rfl ?_
    refine v_isub X dJ6_getChars_ba4f3_38 39 rfl ?_
    rw [sb_nrem (by omega)]
    refine v_istore X (lv' := [(4, .int (nI (x % 100))), (3, .int (-nI (x / 100))), (0, .int (-nI x)), (6, .int 0), (5, .int (nI (k + 3))), (1, .int (nI (k + 3))), (2, .ref v)]) dJ6_getChars_ba4f3_39 (by decide) rfl 41 rfl ?_
    refine v_iload_n X dJ6_getChars_ba4f3_41 1 rfl rfl 42 rfl ?_
    refine v_istore_n X (lv' := [(0, .int (-nI (x / 100))), (4, .int (nI (x % 100))), (3, .int (-nI (x / 100))), (6, .int 0), (5, .int (nI (k + 3))), (1, .int (nI (k + 3))), (2, .ref v)]) dJ6_getChars_ba4f3_42 rfl (by decide) rfl 43 rfl ?_
    refine v_aload_n X dJ6_getChars_ba4f3_43 6 rfl rfl 44 rfl ?_
    refine v_iinc X (lv' := [(5, .int ((nI (k + 3)) + (-1))), (0, .int (-nI (x / 100))), (4, .int (nI (x % 100))), (3, .int (-nI (x / 100))), (6, .int 0), (1, .int (nI (k + 3))), (2, .ref v)]) dJ6_getChars_ba4f3_44 4 rfl ic_m1 (by decide) rfl 47 rfl ?_
    rw [show nI (k + 3) + (-1) = nI (k + 2) from sb_m1 (by omega)]
    refine v_iload X dJ6_getChars_ba4f3_47 0 rfl 49 rfl ?_
    refine v_gets X dJ6_getChars_ba4f3_49 hz1 (mw wq_90) rfl 52 rfl ?_
    refine v_iload X dJ6_getChars_ba4f3_52 2 rfl 54 rfl ?_
    refine v_tb X (v := .int (nI (48 + (x % 100) % 10))) dJ6_getChars_ba4f3_54 ht1 (vp_in_nI (by omega) (by decide)) (by show Value.int _ = _; rw [nI_clamp (by omega)]) 55 rfl ?_
    refine v_bast X (ws' := [(v, .inl (c9 2, cap, .inl (upd f (k + 2) (nI (48 + (x % 100) % 10)))))]) dJ6_getChars_ba4f3_55 0 2 rfl rfl (by rw [byte71 _ (by omega)]; exact wr_nI (by omega) (by omega)) rfl 56 rfl ?_
    refine v_aload_n X dJ6_getChars_ba4f3_56 6 rfl rfl 57 rfl ?_
    refine v_iinc X (lv' := [(5, .int ((nI (k + 2)) + (-1))), (0, .int (-nI (x / 100))), (4, .int (nI (x % 100))), (3, .int (-nI (x / 100))), (6, .int 0), (1, .int (nI (k + 3))), (2, .ref v)]) dJ6_getChars_ba4f3_57 0 rfl ic_m1 (by decide) rfl 60 rfl ?_
    rw [show nI (k + 2) + (-1) = nI (k + 1) from sb_m1 (by omega)]
    refine v_iload X dJ6_getChars_ba4f3_60 0 rfl 62 rfl ?_
    refine v_gets X dJ6_getChars_ba4f3_62 hz2 (mw wq_91) rfl 65 rfl ?_
    refine v_iload X dJ6_getChars_ba4f3_65 2 rfl 67 rfl ?_
    refine v_tb X (v := .int (nI (48 + (x % 100) / 10))) dJ6_getChars_ba4f3_67 ht2 (vp_in_nI (by omega) (by decide)) (by show Value.int _ = _; rw [nI_clamp (by omega)]) 68 rfl ?_
    refine v_bast X (ws' := [(v, .inl (c9 2, cap, .inl (upd (upd f (k + 2) (nI (48 + (x % 100) % 10))) (k + 1) (nI (48 + (x % 100) / 10)))))]) dJ6_getChars_ba4f3_68 0 2 rfl rfl (by rw [byte71 _ (by omega)]; exact wr_nI (by omega) (by omega)) rfl 69 rfl ?_
    refine v_goto X (tgt := 22) dJ6_getChars_ba4f3_69 rfl ?_
    refine v_iload_n X dJ6_getChars_ba4f3_22 1 rfl rfl 23 rfl ?_
    refine v_bipush X dJ6_getChars_ba4f3_23 bp_m100 25 rfl ?_
    refine v_icmp_gt X (tgt := 72) dJ6_getChars_ba4f3_25 rfl 28 rfl (a := some ()) (b := none) (o := ()) (if_pos (show -nI 100 < -nI (x / 100) from (sb_nlt (by omega) (by omega)).mpr (by omega))) (fun _ => ?_) (fun h => nomatch h)
    refine v_aload_n X dJ6_getChars_ba4f3_72 6 rfl rfl 73 rfl ?_
    refine v_iinc X (lv' := [(5, .int ((nI (k + 1)) + (-1))), (0, .int (-nI (x / 100))), (4, .int (nI (x % 100))), (3, .int (-nI (x / 100))), (6, .int 0), (1, .int (nI (k + 3))), (2, .ref v)]) dJ6_getChars_ba4f3_73 0 rfl ic_m1 (by decide) rfl 76 rfl ?_
    rw [show nI (k + 1) + (-1) = nI (k + 0) from sb_m1 (by omega)]
    refine v_iload X dJ6_getChars_ba4f3_76 0 rfl 78 rfl ?_
    refine v_gets X dJ6_getChars_ba4f3_78 hz1 (mw wq_90) rfl 81 rfl ?_
    refine v_iload_n X dJ6_getChars_ba4f3_81 1 rfl rfl 82 rfl ?_
    refine v_ineg X dJ6_getChars_ba4f3_82 83 rfl ?_
    rw [Int32.neg_neg]
    refine v_tb X (v := .int (nI (48 + (x / 100) % 10))) dJ6_getChars_ba4f3_83 ht1 (vp_in_nI (by omega) (by decide)) (by show Value.int _ = _; rw [nI_clamp (by omega)]) 84 rfl ?_
    refine v_bast X (ws' := [(v, .inl (c9 2, cap, .inl (upd (upd (upd f (k + 2) (nI (48 + (x % 100) % 10))) (k + 1) (nI (48 + (x % 100) / 10))) (k + 0) (nI (48 + (x / 100) % 10)))))]) dJ6_getChars_ba4f3_84 0 2 rfl rfl (by rw [byte71 _ (by omega)]; exact wr_nI (by omega) (by omega)) rfl 85 rfl ?_
    refine v_iload_n X dJ6_getChars_ba4f3_85 1 rfl rfl 86 rfl ?_
    refine v_bipush X dJ6_getChars_ba4f3_86 bp_m9 88 rfl ?_
    refine v_icmp_ge X (tgt := 104) dJ6_getChars_ba4f3_88 rfl 91 rfl (a := some ()) (b := none) (o := ()) (if_pos (show -nI 9 ≤ -nI (x / 100) from (sb_nle (by omega) (by omega)).mpr (by omega))) (fun _ => ?_) (fun h => nomatch h)
    refine v_iload X dJ6_getChars_ba4f3_104 4 rfl 106 rfl ?_
    refine v_if_eq X (tgt := 118) dJ6_getChars_ba4f3_106 rfl 109 rfl (a := some ()) (b := none) (o := ()) (if_pos rfl) (fun _ => ?_) (fun h => nomatch h)
    refine v_iload X dJ6_getChars_ba4f3_118 0 rfl 120 rfl ?_
    refine v_jret (u := (upd (upd (upd f (k + 2) (nI (48 + (x % 100) % 10))) (k + 1) (nI (48 + (x % 100) / 10))) (k + 0) (nI (48 + (x / 100) % 10)))) ⟨(sb_fitU (sb_fitU (sb_fitU hf (fits7 _ (by omega))) (fits7 _ (by omega))) (fits7 _ (by omega))), fun j hj => ?_, fun j hj => ?_⟩ (show nI (k + 0) = nI k from rfl) (List.Perm.refl _) X (by first | exact Nat.le_of_ble_eq_true rfl | omega | (dsimp only; omega)) (by first | exact Nat.le_of_ble_eq_true rfl | omega | (dsimp only; omega)) dJ6_getChars_ba4f3_120
    · rw [pk_un (by omega), pk_un (by omega), pk_un (by omega)]
    · rw [dgs3 h2 h3] at hj ⊢
      have hj : j < 3 := hj
      rcases (show j = 0 ∨ j = 1 ∨ j = 2 by omega) with rfl | rfl | rfl
      all_goals (simp [upd] <;> (first | done | (congr 1; omega) | omega))
  have he : e9 = nI (k + 4) := by rw [he, dgs4 h3]; rfl
  subst he
  have hk9 : k + 4 ≤ cap := by rw [dgs4 h3] at hk; exact hk
  obtain ⟨⟨t1, t2, hz1, ht1, hz2, ht2⟩, -⟩ := hGV A s s.heap X.2.2.2.2.2.2.2.2.2.2
  refine v_iload_n X dJ6_getChars_ba4f3_0 1 rfl rfl 1 rfl ?_
  refine v_istore X (lv' := [(5, .int (nI (k + 4))), (0, .int (nI x)), (1, .int (nI (k + 4))), (2, .ref v)]) dJ6_getChars_ba4f3_1 (by decide) rfl 3 rfl ?_
  refine v_iload_n X dJ6_getChars_ba4f3_3 1 rfl rfl 4 rfl ?_
  refine v_if_ge X (tgt := 11) dJ6_getChars_ba4f3_4 rfl 7 rfl (a := some ()) (b := none) (o := ()) (if_pos (nI_pos' (by omega))) (fun _ => ?_) (fun h => nomatch h)
  refine v_iconst X dJ6_getChars_ba4f3_11 ic_0 12 rfl ?_
  refine v_istore X (lv' := [(6, .int 0), (5, .int (nI (k + 4))), (0, .int (nI x)), (1, .int (nI (k + 4))), (2, .ref v)]) dJ6_getChars_ba4f3_12 (by decide) rfl 14 rfl ?_
  refine v_iload X dJ6_getChars_ba4f3_14 0 rfl 16 rfl ?_
  refine v_if_ne X (tgt := 22) dJ6_getChars_ba4f3_16 rfl 19 rfl (a := none) (b := some ()) (o := ()) (if_pos rfl) (fun h => nomatch h) (fun _ => ?_)
  refine v_iload_n X dJ6_getChars_ba4f3_19 2 rfl rfl 20 rfl ?_
  refine v_ineg X dJ6_getChars_ba4f3_20 21 rfl ?_
  refine v_istore_n X (lv' := [(0, .int (-nI x)), (6, .int 0), (5, .int (nI (k + 4))), (1, .int (nI (k + 4))), (2, .ref v)]) dJ6_getChars_ba4f3_21 rfl (by decide) rfl 22 rfl ?_
  refine v_iload_n X dJ6_getChars_ba4f3_22 0 rfl rfl 23 rfl ?_
  refine v_bipush X dJ6_getChars_ba4f3_23 bp_m100 25 rfl ?_
  refine v_icmp_gt X (tgt := 72) dJ6_getChars_ba4f3_25 rfl 28 rfl (a := none) (b := some ()) (o := ()) (if_neg (show ¬ -nI 100 < -nI x from fun z => absurd ((sb_nlt (by omega) (by omega)).mp z) (by omega))) (fun h => nomatch h) (fun _ => ?_)
  refine v_iload_n X dJ6_getChars_ba4f3_28 0 rfl rfl 29 rfl ?_
  refine v_bipush X dJ6_getChars_ba4f3_29 bp_100 31 rfl ?_
  refine v_idiv X dJ6_getChars_ba4f3_31 (by decide) 32 rfl ?_
  rw [sb_ndiv (by omega)]
  refine v_istore_n X (lv' := [(3, .int (-nI (x / 100))), (0, .int (-nI x)), (6, .int 0), (5, .int (nI (k + 4))), (1, .int (nI (k + 4))), (2, .ref v)]) dJ6_getChars_ba4f3_32 rfl (by decide) rfl 33 rfl ?_
  refine v_iload_n X dJ6_getChars_ba4f3_33 0 rfl rfl 34 rfl ?_
  refine v_bipush X dJ6_getChars_ba4f3_34 bp_100 36 rfl ?_
  refine v_imul X dJ6_getChars_ba4f3_36 37 rfl ?_
  refine v_iload_n X dJ6_getChars_ba4f3_37 1 rfl rfl 38 rfl ?_
  refine v_isub X dJ6_getChars_ba4f3_38 39 rfl ?_
  rw [sb_nrem (by omega)]
  refine v_istore X (lv' := [(4, .int (nI (x % 100))), (3, .int (-nI (x / 100))), (0, .int (-nI x)), (6, .int 0), (5, .int (nI (k + 4))), (1, .int (nI (k + 4))), (2, .ref v)]) dJ6_getChars_ba4f3_39 (by decide) rfl 41 rfl ?_
  refine v_iload_n X dJ6_getChars_ba4f3_41 1 rfl rfl 42 rfl ?_
  refine v_istore_n X (lv' := [(0, .int (-nI (x / 100))), (4, .int (nI (x % 100))), (3, .int (-nI (x / 100))), (6, .int 0), (5, .int (nI (k + 4))), (1, .int (nI (k + 4))), (2, .ref v)]) dJ6_getChars_ba4f3_42 rfl (by decide) rfl 43 rfl ?_
  refine v_aload_n X dJ6_getChars_ba4f3_43 6 rfl rfl 44 rfl ?_
  refine v_iinc X (lv' := [(5, .int ((nI (k + 4)) + (-1))), (0, .int (-nI (x / 100))), (4, .int (nI (x % 100))), (3, .int (-nI (x / 100))), (6, .int 0), (1, .int (nI (k + 4))), (2, .ref v)]) dJ6_getChars_ba4f3_44 4 rfl ic_m1 (by decide) rfl 47 rfl ?_
  rw [show nI (k + 4) + (-1) = nI (k + 3) from sb_m1 (by omega)]
  refine v_iload X dJ6_getChars_ba4f3_47 0 rfl 49 rfl ?_
  refine v_gets X dJ6_getChars_ba4f3_49 hz1 (mw wq_90) rfl 52 rfl ?_
  refine v_iload X dJ6_getChars_ba4f3_52 2 rfl 54 rfl ?_
  refine v_tb X (v := .int (nI (48 + (x % 100) % 10))) dJ6_getChars_ba4f3_54 ht1 (vp_in_nI (by omega) (by decide)) (by show Value.int _ = _; rw [nI_clamp (by omega)]) 55 rfl ?_
  refine v_bast X (ws' := [(v, .inl (c9 2, cap, .inl (upd f (k + 3) (nI (48 + (x % 100) % 10)))))]) dJ6_getChars_ba4f3_55 0 2 rfl rfl (by rw [byte71 _ (by omega)]; exact wr_nI (by omega) (by omega)) rfl 56 rfl ?_
  refine v_aload_n X dJ6_getChars_ba4f3_56 6 rfl rfl 57 rfl ?_
  refine v_iinc X (lv' := [(5, .int ((nI (k + 3)) + (-1))), (0, .int (-nI (x / 100))), (4, .int (nI (x % 100))), (3, .int (-nI (x / 100))), (6, .int 0), (1, .int (nI (k + 4))), (2, .ref v)]) dJ6_getChars_ba4f3_57 0 rfl ic_m1 (by decide) rfl 60 rfl ?_
  rw [show nI (k + 3) + (-1) = nI (k + 2) from sb_m1 (by omega)]
  refine v_iload X dJ6_getChars_ba4f3_60 0 rfl 62 rfl ?_
  refine v_gets X dJ6_getChars_ba4f3_62 hz2 (mw wq_91) rfl 65 rfl ?_
  refine v_iload X dJ6_getChars_ba4f3_65 2 rfl 67 rfl ?_
  refine v_tb X (v := .int (nI (48 + (x % 100) / 10))) dJ6_getChars_ba4f3_67 ht2 (vp_in_nI (by omega) (by decide)) (by show Value.int _ = _; rw [nI_clamp (by omega)]) 68 rfl ?_
  refine v_bast X (ws' := [(v, .inl (c9 2, cap, .inl (upd (upd f (k + 3) (nI (48 + (x % 100) % 10))) (k + 2) (nI (48 + (x % 100) / 10)))))]) dJ6_getChars_ba4f3_68 0 2 rfl rfl (by rw [byte71 _ (by omega)]; exact wr_nI (by omega) (by omega)) rfl 69 rfl ?_
  refine v_goto X (tgt := 22) dJ6_getChars_ba4f3_69 rfl ?_
  refine v_iload_n X dJ6_getChars_ba4f3_22 1 rfl rfl 23 rfl ?_
  refine v_bipush X dJ6_getChars_ba4f3_23 bp_m100 25 rfl ?_
  refine v_icmp_gt X (tgt := 72) dJ6_getChars_ba4f3_25 rfl 28 rfl (a := some ()) (b := none) (o := ()) (if_pos (show -nI 100 < -nI (x / 100) from (sb_nlt (by omega) (by omega)).mpr (by omega))) (fun _ => ?_) (fun h => nomatch h)
  refine v_aload_n X dJ6_getChars_ba4f3_72 6 rfl rfl 73 rfl ?_
  refine v_iinc X (lv' := [(5, .int ((nI (k + 2)) + (-1))), (0, .int (-nI (x / 100))), (4, .int (nI (x % 100))), (3, .int (-nI (x / 100))), (6, .int 0), (1, .int (nI (k + 4))), (2, .ref v)]) dJ6_getChars_ba4f3_73 0 rfl ic_m1 (by decide) rfl 76 rfl ?_
  rw [show nI (k + 2) + (-1) = nI (k + 1) from sb_m1 (by omega)]
  refine v_iload X dJ6_getChars_ba4f3_76 0 rfl 78 rfl ?_
  refine v_gets X dJ6_getChars_ba4f3_78 hz1 (mw wq_90) rfl 81 rfl ?_
  refine v_iload_n X dJ6_getChars_ba4f3_81 1 rfl rfl 82 rfl ?_
  refine v_ineg X dJ6_getChars_ba4f3_82 83 rfl ?_
  rw [Int32.neg_neg]
  refine v_tb X (v := .int (nI (48 + (x / 100) % 10))) dJ6_getChars_ba4f3_83 ht1 (vp_in_nI (by omega) (by decide)) (by show Value.int _ = _; rw [nI_clamp (by omega)]) 84 rfl ?_
  refine v_bast X (ws' := [(v, .inl (c9 2, cap, .inl (upd (upd (upd f (k + 3) (nI (48 + (x % 100) % 10))) (k + 2) (nI (48 + (x % 100) / 10))) (k + 1) (nI (48 + (x / 100) % 10)))))]) dJ6_getChars_ba4f3_84 0 2 rfl rfl (by rw [byte71 _ (by omega)]; exact wr_nI (by omega) (by omega)) rfl 85 rfl ?_
  refine v_iload_n X dJ6_getChars_ba4f3_85 1 rfl rfl 86 rfl ?_
  refine v_bipush X dJ6_getChars_ba4f3_86 bp_m9 88 rfl ?_
  refine v_icmp_ge X (tgt := 104) dJ6_getChars_ba4f3_88 rfl 91 rfl (a := none) (b := some ()) (o := ()) (if_neg (show ¬ -nI 9 ≤ -nI (x / 100) from fun z => absurd ((sb_nle (by omega) (by omega)).mp z) (by omega))) (fun h => nomatch h) (fun _ => ?_)
  refine v_aload_n X dJ6_getChars_ba4f3_91 6 rfl rfl 92 rfl ?_
  refine v_iinc X (lv' := [(5, .int ((nI (k + 1)) + (-1))), (0, .int (-nI (x / 100))), (4, .int (nI (x % 100))), (3, .int (-nI (x / 100))), (6, .int 0), (1, .int (nI (k + 4))), (2, .ref v)]) dJ6_getChars_ba4f3_92 0 rfl ic_m1 (by decide) rfl 95 rfl ?_
  rw [show nI (k + 1) + (-1) = nI (k + 0) from sb_m1 (by omega)]
  refine v_iload X dJ6_getChars_ba4f3_95 0 rfl 97 rfl ?_
  refine v_gets X dJ6_getChars_ba4f3_97 hz2 (mw wq_91) rfl 100 rfl ?_
  refine v_iload_n X dJ6_getChars_ba4f3_100 1 rfl rfl 101 rfl ?_
  refine v_ineg X dJ6_getChars_ba4f3_101 102 rfl ?_
  rw [Int32.neg_neg]
  refine v_tb X (v := .int (nI (48 + (x / 100) / 10))) dJ6_getChars_ba4f3_102 ht2 (vp_in_nI (by omega) (by decide)) (by show Value.int _ = _; rw [nI_clamp (by omega)]) 103 rfl ?_
  refine v_bast X (ws' := [(v, .inl (c9 2, cap, .inl (upd (upd (upd (upd f (k + 3) (nI (48 + (x % 100) % 10))) (k + 2) (nI (48 + (x % 100) / 10))) (k + 1) (nI (48 + (x / 100) % 10))) (k + 0) (nI (48 + (x / 100) / 10)))))]) dJ6_getChars_ba4f3_103 0 2 rfl rfl (by rw [byte71 _ (by omega)]; exact wr_nI (by omega) (by omega)) rfl 104 rfl ?_
  refine v_iload X dJ6_getChars_ba4f3_104 4 rfl 106 rfl ?_
  refine v_if_eq X (tgt := 118) dJ6_getChars_ba4f3_106 rfl 109 rfl (a := some ()) (b := none) (o := ()) (if_pos rfl) (fun _ => ?_) (fun h => nomatch h)
  refine v_iload X dJ6_getChars_ba4f3_118 0 rfl 120 rfl ?_
  refine v_jret (u := (upd (upd (upd (upd f (k + 3) (nI (48 + (x % 100) % 10))) (k + 2) (nI (48 + (x % 100) / 10))) (k + 1) (nI (48 + (x / 100) % 10))) (k + 0) (nI (48 + (x / 100) / 10)))) ⟨(sb_fitU (sb_fitU (sb_fitU (sb_fitU hf (fits7 _ (by omega))) (fits7 _ (by omega))) (fits7 _ (by omega))) (fits7 _ (by omega))), fun j hj => ?_, fun j hj => ?_⟩ (show nI (k + 0) = nI k from rfl) (List.Perm.refl _) X (by first | exact Nat.le_of_ble_eq_true rfl | omega | (dsimp only; omega)) (by first | exact Nat.le_of_ble_eq_true rfl | omega | (dsimp only; omega)) dJ6_getChars_ba4f3_120
  · rw [pk_un (by omega), pk_un (by omega), pk_un (by omega), pk_un (by omega)]
  · rw [dgs4 h3] at hj ⊢
    have hj : j < 4 := hj
    rcases (show j = 0 ∨ j = 1 ∨ j = 2 ∨ j = 3 by omega) with rfl | rfl | rfl | rfl
    all_goals (simp [upd] <;> (first | done | (congr 1; omega) | omega))
set_option maxRecDepth 100000 in
set_option maxHeartbeats 4000000 in
theorem c_appendI0 (l : Launch) {G : (Nat → Prop) → State → Heap → Prop} (hG : vG G) (D : va_G) (c9 : Nat → ClassId) {sk sv : Nat → Nat} (hGU : ∀ (A : Nat → Prop) (U : State) (H : Heap), G A U H → vU sk sv A U H) (hGV : ∀ (A : Nat → Prop) (U : State) (H : Heap), G A U H → vV A U H) {x : Nat} (hx : x < 1024) {a v cap : Nat} {f : Nat → Int32} {L : List Nat} {F : va_W} (hL : SBp L (v, cap, f)) (hlen : L.length + (dgs x).length ≤ 300) : mR (S := SBt) l yJ5_append_c97b9 (wq yJ5_append_c97b9 cJ5_append_c97b9 4 (some (.object "java/lang/AbstractStringBuilder"))) { frames := 4, cells := 1, slots := 700, locals := 110 } G D (tyA c9) [.ref a, .int (nI x)] ((SBx c9 a L (v, cap, f)) ++ F) 1 700 (fun u => SBp (L ++ (dgs x)) u) (fun _ => a) (fun u => SBx c9 a (L ++ (dgs x)) u ++ F) := by
  refine mR_of hG (cc := cJ5_append_c97b9) (maxL := 4) (ty := (.object "java/lang/AbstractStringBuilder")) (by decide) rfl (Nat.le_of_ble_eq_true rfl) ?_
  intro p e s m args below meth c A X
  have X : vX p s m args meth c cJ5_append_c97b9 4 (some (.object "java/lang/AbstractStringBuilder")) RJ5 (wq yJ5_append_c97b9 cJ5_append_c97b9 4 (some (.object "java/lang/AbstractStringBuilder"))) D (tyA c9) G A := X
  have hlen2 : (L ++ dgs x).length ≤ 300 := by rw [List.length_append]; exact hlen
  refine v_eq (lv2 := [(0, .ref a), (1, .int (nI x))]) rfl rfl rfl rfl ?_
  refine v_aload_n X dJ5_append_c97b9_0 0 rfl rfl 1 rfl ?_
  refine v_get X (C := RJ4) (T := TJ4) (N := 4) (ci := 1) (v := _) dJ5_append_c97b9_1 (lay_of layq_J4) 0 rfl rfl 3 (by decide) (mw wq_56) rfl rfl 4 rfl ?_
  refine v_istore_n X (lv' := [(2, .int (nI L.length)), (0, .ref a), (1, .int (nI x))]) dJ5_append_c97b9_4 rfl (by decide) rfl 5 rfl ?_
  refine v_iload_n X dJ5_append_c97b9_5 0 rfl rfl 6 rfl ?_
  refine v_iload_n X dJ5_append_c97b9_6 2 rfl rfl 7 rfl ?_
  refine v_callZi X (As := [.int (nI x)]) (rest := [.int (nI L.length)]) (c_strSize l hG D c9 hGU hx) 1 (gS wq_92 wq_93 wq_94 wq_95) rfl rfl rfl (by decide +kernel) ⟨Nat.le_of_ble_eq_true rfl, Nat.le_of_ble_eq_true rfl⟩ rfl rfl (Nat.le_of_ble_eq_true rfl) ⟨(by first | exact Nat.le_of_ble_eq_true rfl | omega | (dsimp only; omega)), (by first | exact Nat.le_of_ble_eq_true rfl | omega | (dsimp only; omega))⟩ dJ5_append_c97b9_7 10 rfl ?_
  refine v_iadd X dJ5_append_c97b9_10 11 rfl ?_
  rw [show nI L.length + nI (dgs x).length = nI (L ++ dgs x).length from (nI_add _ _).trans (congrArg nI List.length_append.symm)]
  refine v_istore_n X (lv' := [(3, .int (nI (L ++ dgs x).length)), (2, .int (nI L.length)), (0, .ref a), (1, .int (nI x))]) dJ5_append_c97b9_11 rfl (by decide) rfl 12 rfl ?_
  refine v_aload_n X dJ5_append_c97b9_12 2 rfl rfl 13 rfl ?_
  refine v_iload_n X dJ5_append_c97b9_13 0 rfl rfl 14 rfl ?_
  refine v_gn X (S := SBt) (ws' := fun u => wSB c9 a u.1 u.2.1 (nI L.length) u.2.2) (F' := fun u => F) (r_U X (C := RJ4) (owner := "java/lang/AbstractStringBuilder") (As := [.int (nI (L ++ dgs x).length)]) (rest := []) (r_pc X) (c_ensure l hG D c9 hGU (a := a) (v := v) (cap := cap) (mn := (L ++ dgs x).length) (cnt := nI L.length) (f := f) (by omega) hL.2.1 hL.2.2.1) 1 (gU wq_57 wq_58 wq_59 wq_60 wq_36 wq_61) rfl rfl rfl rfl (by decide +kernel) ⟨Nat.le_of_ble_eq_true rfl, Nat.le_of_ble_eq_true rfl⟩ (r_recv X 0 rfl rfl) rfl rfl (Nat.le_of_ble_eq_true rfl) ⟨(by first | exact Nat.le_of_ble_eq_true rfl | omega | (dsimp only; omega)), (by first | exact Nat.le_of_ble_eq_true rfl | omega | (dsimp only; omega))⟩ dJ5_append_c97b9_14) (fun _ => rfl) 17 rfl (fun u hu => ?_)
  obtain ⟨hu1, hu2, hu3, hu4, hu5⟩ := hu
  rw [List.length_append] at hu1
  refine v_aload_n X dJ5_append_c97b9_17 2 rfl rfl 18 rfl ?_
  refine v_gj X (S := Unit) (ws' := fun _u => [(a, .inr (1, [.ref u.1, .int 0, .int 0, .int (nI L.length)])), (u.1, .inl (c9 2, u.2.1, .inl u.2.2))]) (F' := fun _u => F) (r_U X (C := RJ4) (owner := "java/lang/AbstractStringBuilder") (As := []) (rest := []) (r_pc X) (c_SBlatin l hG D c9 hGU (a := a) (v := u.1) (cap := u.2.1) (cnt := (nI L.length)) (f := u.2.2)) 0 (gU wq_77 wq_78 wq_79 wq_80 wq_36 wq_81) rfl rfl rfl rfl (by decide +kernel) ⟨Nat.le_of_ble_eq_true rfl, Nat.le_of_ble_eq_true rfl⟩ (r_recv X 0 rfl rfl) rfl rfl (Nat.le_of_ble_eq_true rfl) ⟨(by first | exact Nat.le_of_ble_eq_true rfl | omega | (dsimp only; omega)), (by first | exact Nat.le_of_ble_eq_true rfl | omega | (dsimp only; omega))⟩ dJ5_append_c97b9_18) (fun _ => rfl) 21 rfl (fun _u _ => ?_)
  refine v_if_eq X (tgt := 37) dJ5_append_c97b9_21 rfl 24 rfl (a := none) (b := some ()) (o := ()) (if_neg (by decide)) (fun h => nomatch h) (fun _ => ?_)
  refine v_iload_n X dJ5_append_c97b9_24 3 rfl rfl 25 rfl ?_
  refine v_iload_n X dJ5_append_c97b9_25 0 rfl rfl 26 rfl ?_
  refine v_aload_n X dJ5_append_c97b9_26 2 rfl rfl 27 rfl ?_
  refine v_get X (C := RJ4) (T := TJ4) (N := 4) (ci := 1) (v := _) dJ5_append_c97b9_27 (lay_of layq_J4) 0 rfl rfl 0 (by decide) (mw wq_21) rfl rfl 30 rfl ?_
  refine v_perm (ws' := [(u.1, .inl (c9 2, u.2.1, .inl u.2.2))]) (F' := (a, .inr (1, [.ref u.1, .int 0, .int 0, .int (nI L.length)])) :: F) (List.Perm.swap _ _ _) ?_
  refine v_gj X (S := Nat → Int32) (ws' := fun f' => [(u.1, .inl (c9 2, u.2.1, .inl f'))]) (F' := fun f' => (a, .inr (1, [.ref u.1, .int 0, .int 0, .int (nI L.length)])) :: F) (r_S X (As := [.int (nI x), .int (nI (L ++ dgs x).length), .ref u.1]) (rest := []) (r_pc X) (c_getChars l hG D c9 hGU hGV (x := x) (k := L.length) (v := u.1) (cap := u.2.1) (f := u.2.2) hx (congrArg nI List.length_append) hu1 hu3 hu4) 3 (gS wq_96 wq_97 wq_94 wq_98) rfl rfl rfl (by decide +kernel) ⟨Nat.le_of_ble_eq_true rfl, Nat.le_of_ble_eq_true rfl⟩ rfl rfl (Nat.le_of_ble_eq_true rfl) ⟨(by first | exact Nat.le_of_ble_eq_true rfl | omega | (dsimp only; omega)), (by first | exact Nat.le_of_ble_eq_true rfl | omega | (dsimp only; omega))⟩ dJ5_append_c97b9_30) (fun _ => rfl) 33 rfl (fun f' hf9 => ?_)
  refine v_perm (ws' := [(a, .inr (1, [.ref u.1, .int 0, .int 0, .int (nI L.length)])), (u.1, .inl (c9 2, u.2.1, .inl f'))]) (F' := F) (List.Perm.swap _ _ _) ?_
  refine v_pop X dJ5_append_c97b9_33 rfl 34 rfl ?_
  refine v_goto X (tgt := 48) dJ5_append_c97b9_34 rfl ?_
  refine v_aload_n X dJ5_append_c97b9_48 2 rfl rfl 49 rfl ?_
  refine v_iload_n X dJ5_append_c97b9_49 0 rfl rfl 50 rfl ?_
  refine v_put X (C := RJ4) (T := TJ4) (N := 4) (ci := 1) (ty := tyJ4 3) (ws' := [(a, .inr (1, [.ref u.1, .int 0, .int 0, .int (nI (L ++ dgs x).length)])), (u.1, .inl (c9 2, u.2.1, .inl f'))]) dJ5_append_c97b9_50 (lay_of layq_J4) 0 rfl rfl 3 (by decide) tyJ4 tyJ4_ok nmJ4 (mw wq_56) rfl rfl (tyJ4_ok 3 (by decide)) rfl rfl (Nat.le_of_ble_eq_true rfl) rfl 53 rfl ?_
  refine v_aload_n X dJ5_append_c97b9_53 2 rfl rfl 54 rfl ?_
  exact v_rret (u.1, u.2.1, f') (SBp_put (v := u.1) (cap := u.2.1) (f := u.2.2) hu1 hu3 hf9.1 hf9.2.1 (fun j hj => (hu5 j (by have h9 : L.length ≤ cap := hL.1; omega)).trans (hL.2.2.2 j hj)) hf9.2.2) rfl (List.Perm.refl _) X (Or.inl ⟨_, rfl⟩) (by first | exact Nat.le_of_ble_eq_true rfl | omega | (dsimp only; omega)) (by first | exact Nat.le_of_ble_eq_true rfl | omega | (dsimp only; omega)) dJ5_append_c97b9_54
set_option maxRecDepth 100000 in
set_option maxHeartbeats 4000000 in
theorem c_appendI (l : Launch) {G : (Nat → Prop) → State → Heap → Prop} (hG : vG G) (D : va_G) (c9 : Nat → ClassId) {sk sv : Nat → Nat} (hGU : ∀ (A : Nat → Prop) (U : State) (H : Heap), G A U H → vU sk sv A U H) (hGV : ∀ (A : Nat → Prop) (U : State) (H : Heap), G A U H → vV A U H) {x : Nat} (hx : x < 1024) {a v cap : Nat} {f : Nat → Int32} {L : List Nat} {F : va_W} (hL : SBp L (v, cap, f)) (hlen : L.length + ((dgs x)).length ≤ 300) : mR (S := SBt) l yJ4_append_bf812 (wq yJ4_append_bf812 cJ4_append_bf812 2 (some (.object "java/lang/StringBuilder"))) { frames := 5, cells := 1, slots := 700, locals := 133 } G D (tyA c9) [.ref a, .int (nI x)] ((SBx c9 a L (v, cap, f)) ++ F) 1 700 (fun u => SBp (L ++ (dgs x)) u) (fun _ => a) (fun u => SBx c9 a (L ++ (dgs x)) u ++ F) := by
  refine mR_of hG (cc := cJ4_append_bf812) (maxL := 2) (ty := (.object "java/lang/StringBuilder")) (by decide) rfl (Nat.le_of_ble_eq_true rfl) ?_
  intro p e s m args below meth c A X
  have X : vX p s m args meth c cJ4_append_bf812 2 (some (.object "java/lang/StringBuilder")) RJ4 (wq yJ4_append_bf812 cJ4_append_bf812 2 (some (.object "java/lang/StringBuilder"))) D (tyA c9) G A := X
  refine v_eq (lv2 := [(0, .ref a), (1, .int (nI x))]) rfl rfl rfl rfl ?_
  refine v_aload_n X dJ4_append_bf812_0 0 rfl rfl 1 rfl ?_
  refine v_iload_n X dJ4_append_bf812_1 1 rfl rfl 2 rfl ?_
  refine v_gr X (S := SBt) (ws' := fun u => SBx c9 a (L ++ (dgs x)) u) (F' := fun u => F) (r_SU X (C := RJ4) (ci := 1) (T := TJ4) (N := 4) (As := [.int (nI x)]) (rest := []) (r_pc X) (c_appendI0 l hG D c9 hGU hGV hx hL hlen) 1 (gSU wq_99 wq_100 wq_69 wq_101 wq_36 wq_102) rfl rfl rfl rfl (by decide +kernel) ⟨Nat.le_of_ble_eq_true rfl, Nat.le_of_ble_eq_true rfl⟩ (r_recv X 0 rfl rfl) rfl rfl (Nat.le_of_ble_eq_true rfl) ⟨(by first | exact Nat.le_of_ble_eq_true rfl | omega | (dsimp only; omega)), (by first | exact Nat.le_of_ble_eq_true rfl | omega | (dsimp only; omega))⟩ dJ4_append_bf812_2) (fun _ => rfl) 5 rfl (fun u hu => ?_)
  refine v_pop X dJ4_append_bf812_5 rfl 6 rfl ?_
  refine v_aload_n X dJ4_append_bf812_6 0 rfl rfl 7 rfl ?_
  exact v_rret u hu rfl (List.Perm.refl _) X (Or.inl ⟨_, rfl⟩) (by first | exact Nat.le_of_ble_eq_true rfl | omega | (dsimp only; omega)) (by first | exact Nat.le_of_ble_eq_true rfl | omega | (dsimp only; omega)) dJ4_append_bf812_7
set_option maxRecDepth 100000 in
set_option maxHeartbeats 4000000 in
theorem c_SBinit0 (l : Launch) {G : (Nat → Prop) → State → Heap → Prop} (hG : vG G) (D : va_G) (c9 : Nat → ClassId) {sk sv : Nat → Nat} (hGU : ∀ (A : Nat → Prop) (U : State) (H : Heap), G A U H → vU sk sv A U H) {a : Nat} {F : va_W} : mN (S := SBt) l yJ5_init_d00df (wq yJ5_init_d00df cJ5_init_d00df 2 none) { frames := 2, cells := 1, slots := 700, locals := 40 } G D (tyA c9) [.ref a, .int 16] [(a, .inr (1, [.null, .int 0, .int 0, .int 0]))] F 1 700 (fun u => SBp [] u) (fun u => SBx c9 a [] u ++ F) := by
  refine mN_of hG (cc := cJ5_init_d00df) (maxL := 2) (by decide) rfl (Nat.le_of_ble_eq_true rfl) ?_
  intro p e s m args below meth c A hnm X
  have X : vX p s m args meth c cJ5_init_d00df 2 none RJ5 (wq yJ5_init_d00df cJ5_init_d00df 2 none) D (tyA c9) G A := X
  have hnm : meth.name = "<init>" := hnm
  refine v_eq (lv2 := [(0, .ref a), (1, .int 16)]) rfl rfl rfl rfl ?_
  refine v_aload_n X dJ5_init_d00df_0 0 rfl rfl 1 rfl ?_
  refine v_oinit X dJ5_init_d00df_1 (mw wq_103) (mw wq_104) (mw wq_105) (by first | exact Nat.le_of_ble_eq_true rfl | omega | (dsimp only; omega)) (by first | exact Nat.le_of_ble_eq_true rfl | omega | (dsimp only; omega)) 4 rfl ?_
  refine v_gets X dJ5_init_d00df_4 (hGU A s s.heap X.2.2.2.2.2.2.2.2.2.2).2.2.1 (mw wq_10) rfl 7 rfl ?_
  refine v_if_eq X (tgt := 25) dJ5_init_d00df_7 rfl 10 rfl (a := none) (b := some ()) (o := ()) (if_neg (by decide)) (fun h => nomatch h) (fun _ => ?_)
  refine v_aload_n X dJ5_init_d00df_10 0 rfl rfl 11 rfl ?_
  refine v_iload_n X dJ5_init_d00df_11 1 rfl rfl 12 rfl ?_
  refine v_newa X (ty := .byte) (a0 := (16, .inl (fun _ => 0))) dJ5_init_d00df_12 (mw wq_27) rfl 2 rfl (fun _ _ h1 h2 => Option.some.inj (h1.symm.trans h2)) (fun _ => rfl) (by decide) (by decide) (by decide) (by first | exact Nat.le_of_ble_eq_true rfl | omega | (dsimp only; omega)) (by first | exact Nat.le_of_ble_eq_true rfl | omega | (dsimp only; omega)) 14 rfl (fun v => ?_)
  refine v_eq (ws2 := [(a, .inr (1, [.null, .int 0, .int 0, .int 0])), (v, .inl (c9 2, 16, .inl (fun _ => 0)))]) (st2 := [.ref v, .ref a]) rfl rfl rfl rfl ?_
  refine v_put X (C := RJ4) (T := TJ4) (N := 4) (ci := 1) (ty := tyJ4 0) (ws' := [(a, .inr (1, [.ref v, .int 0, .int 0, .int 0])), (v, .inl (c9 2, 16, .inl (fun _ => 0)))]) dJ5_init_d00df_14 (lay_of layq_J4) 0 rfl rfl 0 (by decide) tyJ4 tyJ4_ok nmJ4 (mw wq_21) rfl rfl (tyJ4_ok 0 (by decide)) rfl rfl (Nat.le_of_ble_eq_true rfl) rfl 17 rfl ?_
  refine v_aload_n X dJ5_init_d00df_17 0 rfl rfl 18 rfl ?_
  refine v_iconst X dJ5_init_d00df_18 ic_0 19 rfl ?_
  refine v_put X (C := RJ4) (T := TJ4) (N := 4) (ci := 1) (ty := tyJ4 1) (ws' := [(a, .inr (1, [.ref v, .int 0, .int 0, .int 0])), (v, .inl (c9 2, 16, .inl (fun _ => 0)))]) dJ5_init_d00df_19 (lay_of layq_J4) 0 rfl rfl 1 (by decide) tyJ4 tyJ4_ok nmJ4 (mw wq_11) rfl rfl (tyJ4_ok 1 (by decide)) rfl rfl (Nat.le_of_ble_eq_true rfl) rfl 22 rfl ?_
  refine v_goto X (tgt := 38) dJ5_init_d00df_22 rfl ?_
  exact v_nret (v, 16, fun _ => 0) ⟨Nat.zero_le _, by show 16 ≤ 700; omega, sb_fit0, fun j hj => absurd hj (Nat.not_lt_zero j)⟩ (List.Perm.refl _) X (by first | exact Nat.le_of_ble_eq_true rfl | omega | (dsimp only; omega)) (by first | exact Nat.le_of_ble_eq_true rfl | omega | (dsimp only; omega)) dJ5_init_d00df_38
set_option maxRecDepth 100000 in
set_option maxHeartbeats 4000000 in
theorem c_SBinit (l : Launch) {G : (Nat → Prop) → State → Heap → Prop} (hG : vG G) (D : va_G) (c9 : Nat → ClassId) {sk sv : Nat → Nat} (hGU : ∀ (A : Nat → Prop) (U : State) (H : Heap), G A U H → vU sk sv A U H) {a : Nat} {F : va_W} : mN (S := SBt) l yJ4_init_da8c8 (wq yJ4_init_da8c8 cJ4_init_da8c8 1 none) { frames := 3, cells := 1, slots := 700, locals := 61 } G D (tyA c9) [.ref a] [(a, .inr (1, [.null, .int 0, .int 0, .int 0]))] F 1 700 (fun u => SBp [] u) (fun u => SBx c9 a [] u ++ F) := by
  refine mN_of hG (cc := cJ4_init_da8c8) (maxL := 1) (by decide) rfl (Nat.le_of_ble_eq_true rfl) ?_
  intro p e s m args below meth c A hnm X
  have X : vX p s m args meth c cJ4_init_da8c8 1 none RJ4 (wq yJ4_init_da8c8 cJ4_init_da8c8 1 none) D (tyA c9) G A := X
  have hnm : meth.name = "<init>" := hnm
  refine v_eq (lv2 := [(0, .ref a)]) rfl rfl rfl rfl ?_
  refine v_aload_n X dJ4_init_da8c8_0 0 rfl rfl 1 rfl ?_
  refine v_bipush X dJ4_init_da8c8_1 bp_16 3 rfl ?_
  refine v_gn X (S := SBt) (ws' := fun u => SBx c9 a [] u) (F' := fun u => F) (r_I X (As := [.int 16]) (rest := []) (r_pc X) (c_SBinit0 l hG D c9 hGU (a := a)) 1 (wg_sub _ wq_106 _) rfl rfl rfl (mw wq_36) (mw wq_107) (mw wq_108) rfl (by decide +kernel) ⟨Nat.le_of_ble_eq_true rfl, Nat.le_of_ble_eq_true rfl⟩ rfl rfl (Nat.le_of_ble_eq_true rfl) ⟨(by first | exact Nat.le_of_ble_eq_true rfl | omega | (dsimp only; omega)), (by first | exact Nat.le_of_ble_eq_true rfl | omega | (dsimp only; omega))⟩ dJ4_init_da8c8_3) (fun _ => rfl) 6 rfl (fun u hu => ?_)
  exact v_nret u hu (List.Perm.refl _) X (by first | exact Nat.le_of_ble_eq_true rfl | omega | (dsimp only; omega)) (by first | exact Nat.le_of_ble_eq_true rfl | omega | (dsimp only; omega)) dJ4_init_da8c8_6
set_option maxRecDepth 100000 in
set_option maxHeartbeats 4000000 in
theorem c_SBinitS0 (l : Launch) {G : (Nat → Prop) → State → Heap → Prop} (hG : vG G) (D : va_G) (c9 : Nat → ClassId) {sk sv : Nat → Nat} (hGU : ∀ (A : Nat → Prop) (U : State) (H : Heap), G A U H → vU sk sv A U H) {q t : Nat} {M : List Nat} (hGT : ∀ (A : Nat → Prop) (U : State) (H : Heap), G A U H → vStr q t M.length (fun j => nI (M.getD j 0)) A U H) (hn : M.length < 2 ^ 31) (hM : ∀ x ∈ M, x < 128) {a : Nat} {F : va_W} (hm : M.length ≤ 300) : mN (S := SBt) l yJ5_init_a7421 (wq yJ5_init_a7421 cJ5_init_a7421 5 none) { frames := 7, cells := 2, slots := 1400, locals := 174 } G D (tyA c9) [.ref a, .ref q] [(a, .inr (1, [.null, .int 0, .int 0, .int 0]))] F 2 1400 (fun u => SBp M u) (fun u => SBx c9 a M u ++ F) := by
  refine mN_of hG (cc := cJ5_init_a7421) (maxL := 5) (by decide) rfl (Nat.le_of_ble_eq_true rfl) ?_
  intro p e s m args below meth c A hnm X
  have X : vX p s m args meth c cJ5_init_a7421 5 none RJ5 (wq yJ5_init_a7421 cJ5_init_a7421 5 none) D (tyA c9) G A := X
  have hnm : meth.name = "<init>" := hnm
  have T := hGT A s s.heap X.2.2.2.2.2.2.2.2.2.2
  refine v_eq (lv2 := [(0, .ref a), (1, .ref q)]) rfl rfl rfl rfl ?_
  refine v_aload_n X dJ5_init_a7421_0 0 rfl rfl 1 rfl ?_
  refine v_oinit X dJ5_init_a7421_1 (mw wq_103) (mw wq_104) (mw wq_105) (by first | exact Nat.le_of_ble_eq_true rfl | omega | (dsimp only; omega)) (by first | exact Nat.le_of_ble_eq_true rfl | omega | (dsimp only; omega)) 4 rfl ?_
  refine v_aload_n X dJ5_init_a7421_4 1 rfl rfl 5 rfl ?_
  refine v_callEi X (C := RJ0) (As := []) (rest := []) (cs_J0_length l hG D c9 hGU hGT hn) 0 (gV wq_52 wq_53 wq_54 wq_3 wq_55) rfl rfl rfl ⟨rfl, by decide +kernel⟩ ⟨Nat.le_of_ble_eq_true rfl, Nat.le_of_ble_eq_true rfl⟩ (fun H locs hS => vs_recv T hS) rfl rfl (Nat.le_of_ble_eq_true rfl) ⟨(by first | exact Nat.le_of_ble_eq_true rfl | omega | (dsimp only; omega)), (by first | exact Nat.le_of_ble_eq_true rfl | omega | (dsimp only; omega))⟩ dJ5_init_a7421_5 8 rfl ?_
  refine v_istore_n X (lv' := [(2, .int (Int32.ofNat M.length)), (0, .ref a), (1, .ref q)]) dJ5_init_a7421_8 rfl (by decide) rfl 9 rfl ?_
  refine v_iload_n X dJ5_init_a7421_9 0 rfl rfl 10 rfl ?_
  refine v_ldc X dJ5_init_a7421_10 (X.2.2.2.2.2.1 _ (mw wq_109)) 12 rfl ?_
  refine v_icmp_ge X (tgt := 22) dJ5_init_a7421_12 rfl 15 rfl (a := none) (b := some ()) (o := ()) (if_neg (show ¬ nI 2147483631 ≤ nI M.length from nI_ge (by omega) (by decide))) (fun h => nomatch h) (fun _ => ?_)
  refine v_iload_n X dJ5_init_a7421_15 0 rfl rfl 16 rfl ?_
  refine v_bipush X dJ5_init_a7421_16 bp_16 18 rfl ?_
  refine v_iadd X dJ5_init_a7421_18 19 rfl ?_
  rw [show Int32.ofNat M.length + 16 = nI (M.length + 16) from nI_add M.length 16]
  refine v_goto X (tgt := 24) dJ5_init_a7421_19 rfl ?_
  refine v_istore_n X (lv' := [(3, .int (nI (M.length + 16))), (2, .int (Int32.ofNat M.length)), (0, .ref a), (1, .ref q)]) dJ5_init_a7421_24 rfl (by decide) rfl 25 rfl ?_
  refine v_aload_n X dJ5_init_a7421_25 3 rfl rfl 26 rfl ?_
  refine v_callEi X (C := RJ0) (As := []) (rest := []) (cs_J0_coder l hG D c9 hGU hGT hn) 0 (gV wq_42 wq_1 wq_2 wq_3 wq_4) rfl rfl rfl ⟨rfl, by decide +kernel⟩ ⟨Nat.le_of_ble_eq_true rfl, Nat.le_of_ble_eq_true rfl⟩ (fun H locs hS => vs_recv T hS) rfl rfl (Nat.le_of_ble_eq_true rfl) ⟨(by first | exact Nat.le_of_ble_eq_true rfl | omega | (dsimp only; omega)), (by first | exact Nat.le_of_ble_eq_true rfl | omega | (dsimp only; omega))⟩ dJ5_init_a7421_26 29 rfl ?_
  refine v_istore X (lv' := [(4, .int 0), (3, .int (nI (M.length + 16))), (2, .int (Int32.ofNat M.length)), (0, .ref a), (1, .ref q)]) dJ5_init_a7421_29 (by decide) rfl 31 rfl ?_
  refine v_aload_n X dJ5_init_a7421_31 3 rfl rfl 32 rfl ?_
  refine v_iload X dJ5_init_a7421_32 0 rfl 34 rfl ?_
  refine v_put X (C := RJ4) (T := TJ4) (N := 4) (ci := 1) (ty := tyJ4 1) (ws' := [(a, .inr (1, [.null, .int 0, .int 0, .int 0]))]) dJ5_init_a7421_34 (lay_of layq_J4) 0 rfl rfl 1 (by decide) tyJ4 tyJ4_ok nmJ4 (mw wq_11) rfl rfl (tyJ4_ok 1 (by decide)) rfl rfl (Nat.le_of_ble_eq_true rfl) rfl 37 rfl ?_
  refine v_aload_n X dJ5_init_a7421_37 3 rfl rfl 38 rfl ?_
  refine v_iload X dJ5_init_a7421_38 0 rfl 40 rfl ?_
  refine v_if_ne X (tgt := 49) dJ5_init_a7421_40 rfl 43 rfl (a := none) (b := some ()) (o := ()) (if_pos rfl) (fun h => nomatch h) (fun _ => ?_)
  refine v_iload_n X dJ5_init_a7421_43 1 rfl rfl 44 rfl ?_
  refine v_newa X (ty := .byte) (a0 := (M.length + 16, .inl (fun _ => 0))) dJ5_init_a7421_44 (mw wq_27) rfl 2 rfl (fun _ _ h1 h2 => Option.some.inj (h1.symm.trans h2)) (fun _ => rfl) (nI_pos (by omega)) (nI_clamp (by omega)) (by show (M.length + 16) * 1 ≤ 536870912; omega) (by first | exact Nat.le_of_ble_eq_true rfl | omega | (dsimp only; omega)) (by first | exact Nat.le_of_ble_eq_true rfl | omega | (dsimp only; omega)) 46 rfl (fun v => ?_)
  refine v_eq (ws2 := [(a, .inr (1, [.null, .int 0, .int 0, .int 0])), (v, .inl (c9 2, (M.length + 16), .inl (fun _ => 0)))]) (st2 := [.ref v, .ref a]) rfl rfl rfl rfl ?_
  refine v_goto X (tgt := 53) dJ5_init_a7421_46 rfl ?_
  refine v_put X (C := RJ4) (T := TJ4) (N := 4) (ci := 1) (ty := tyJ4 0) (ws' := [(a, .inr (1, [.ref v, .int 0, .int 0, .int 0])), (v, .inl (c9 2, (M.length + 16), .inl (fun _ => 0)))]) dJ5_init_a7421_53 (lay_of layq_J4) 0 rfl rfl 0 (by decide) tyJ4 tyJ4_ok nmJ4 (mw wq_21) rfl rfl (tyJ4_ok 0 (by decide)) rfl rfl (Nat.le_of_ble_eq_true rfl) rfl 56 rfl ?_
  refine v_aload_n X dJ5_init_a7421_56 3 rfl rfl 57 rfl ?_
  refine v_aload_n X dJ5_init_a7421_57 4 rfl rfl 58 rfl ?_
  refine v_gr X (S := SBt) (ws' := fun u => SBx c9 a M u) (F' := fun u => F) (r_O X (C := RJ4) (owner := "java/lang/AbstractStringBuilder") (As := [.ref q]) (rest := []) (r_pc X) (c_appendB l hG D c9 hGU hGT hn hM (a := a) (v := v) (cap := M.length + 16) (f := fun _ => 0) (L := []) ⟨Nat.zero_le _, by show M.length + 16 ≤ 700; omega, sb_fit0, fun j hj => absurd hj (Nat.not_lt_zero j)⟩ (by show 0 + M.length ≤ 300; omega)) 1 (gO wq_110 wq_68 wq_70 wq_111 wq_112 wq_75 wq_113) rfl rfl rfl (mw wq_71) (by decide +kernel) ⟨Nat.le_of_ble_eq_true rfl, Nat.le_of_ble_eq_true rfl⟩ (r_recv X 0 rfl rfl) rfl rfl (Nat.le_of_ble_eq_true rfl) ⟨(by first | exact Nat.le_of_ble_eq_true rfl | omega | (dsimp only; omega)), (by first | exact Nat.le_of_ble_eq_true rfl | omega | (dsimp only; omega))⟩ dJ5_init_a7421_58) (fun _ => rfl) 61 rfl (fun u hu => ?_)
  refine v_pop X dJ5_init_a7421_61 rfl 62 rfl ?_
  exact v_nret u hu (List.Perm.refl _) X (by first | exact Nat.le_of_ble_eq_true rfl | omega | (dsimp only; omega)) (by first | exact Nat.le_of_ble_eq_true rfl | omega | (dsimp only; omega)) dJ5_init_a7421_62
set_option maxRecDepth 100000 in
set_option maxHeartbeats 4000000 in
theorem c_SBinitS (l : Launch) {G : (Nat → Prop) → State → Heap → Prop} (hG : vG G) (D : va_G) (c9 : Nat → ClassId) {sk sv : Nat → Nat} (hGU : ∀ (A : Nat → Prop) (U : State) (H : Heap), G A U H → vU sk sv A U H) {q t : Nat} {M : List Nat} (hGT : ∀ (A : Nat → Prop) (U : State) (H : Heap), G A U H → vStr q t M.length (fun j => nI (M.getD j 0)) A U H) (hn : M.length < 2 ^ 31) (hM : ∀ x ∈ M, x < 128) {a : Nat} {F : va_W} (hm : M.length ≤ 300) : mN (S := SBt) l yJ4_init_a7421 (wq yJ4_init_a7421 cJ4_init_a7421 2 none) { frames := 8, cells := 2, slots := 1400, locals := 198 } G D (tyA c9) [.ref a, .ref q] [(a, .inr (1, [.null, .int 0, .int 0, .int 0]))] F 2 1400 (fun u => SBp M u) (fun u => SBx c9 a M u ++ F) := by
  refine mN_of hG (cc := cJ4_init_a7421) (maxL := 2) (by decide) rfl (Nat.le_of_ble_eq_true rfl) ?_
  intro p e s m args below meth c A hnm X
  have X : vX p s m args meth c cJ4_init_a7421 2 none RJ4 (wq yJ4_init_a7421 cJ4_init_a7421 2 none) D (tyA c9) G A := X
  have hnm : meth.name = "<init>" := hnm
  have T := hGT A s s.heap X.2.2.2.2.2.2.2.2.2.2
  refine v_eq (lv2 := [(0, .ref a), (1, .ref q)]) rfl rfl rfl rfl ?_
  refine v_aload_n X dJ4_init_a7421_0 0 rfl rfl 1 rfl ?_
  refine v_aload_n X dJ4_init_a7421_1 1 rfl rfl 2 rfl ?_
  refine v_gn X (S := SBt) (ws' := fun u => SBx c9 a M u) (F' := fun u => F) (r_I X (As := [.ref q]) (rest := []) (r_pc X) (c_SBinitS0 l hG D c9 hGU hGT hn hM (a := a) hm) 1 (wg_sub _ wq_114 _) rfl rfl rfl (mw wq_36) (mw wq_115) (mw wq_116) rfl (by decide +kernel) ⟨Nat.le_of_ble_eq_true rfl, Nat.le_of_ble_eq_true rfl⟩ rfl rfl (Nat.le_of_ble_eq_true rfl) ⟨(by first | exact Nat.le_of_ble_eq_true rfl | omega | (dsimp only; omega)), (by first | exact Nat.le_of_ble_eq_true rfl | omega | (dsimp only; omega))⟩ dJ4_init_a7421_2) (fun _ => rfl) 5 rfl (fun u hu => ?_)
  exact v_nret u hu (List.Perm.refl _) X (by first | exact Nat.le_of_ble_eq_true rfl | omega | (dsimp only; omega)) (by first | exact Nat.le_of_ble_eq_true rfl | omega | (dsimp only; omega)) dJ4_init_a7421_5
set_option maxRecDepth 100000 in
set_option maxHeartbeats 4000000 in
theorem c_getValue (l : Launch) {G : (Nat → Prop) → State → Heap → Prop} (hG : vG G) (D : va_G) (c9 : Nat → ClassId) {sk sv : Nat → Nat} (hGU : ∀ (A : Nat → Prop) (U : State) (H : Heap), G A U H → vU sk sv A U H) {a v cap : Nat} {cnt : Int32} {f : Nat → Int32} {F : va_W} : mR (S := Unit) l yJ5_getValue_6d5f1 (wq yJ5_getValue_6d5f1 cJ5_getValue_6d5f1 1 (some (.array .byte))) { frames := 0, cells := 0, slots := 0, locals := 0 } G D (tyA c9) [.ref a] ((wSB c9 a v cap cnt f) ++ F) 0 0 (fun _ => True) (fun _ => v) (fun _ => (wSB c9 a v cap cnt f) ++ F) := by
  refine mR_of hG (cc := cJ5_getValue_6d5f1) (maxL := 1) (ty := (.array .byte)) (by decide) rfl (Nat.le_of_ble_eq_true rfl) ?_
  intro p e s m args below meth c A X
  have X : vX p s m args meth c cJ5_getValue_6d5f1 1 (some (.array .byte)) RJ5 (wq yJ5_getValue_6d5f1 cJ5_getValue_6d5f1 1 (some (.array .byte))) D (tyA c9) G A := X
  refine v_eq (lv2 := [(0, .ref a)]) rfl rfl rfl rfl ?_
  refine v_aload_n X dJ5_getValue_6d5f1_0 0 rfl rfl 1 rfl ?_
  refine v_get X (C := RJ4) (T := TJ4) (N := 4) (ci := 1) (v := _) dJ5_getValue_6d5f1_1 (lay_of layq_J4) 0 rfl rfl 0 (by decide) (mw wq_21) rfl rfl 4 rfl ?_
  exact v_rret () trivial rfl (List.Perm.refl _) X (Or.inr ⟨_, rfl⟩) (by first | exact Nat.le_of_ble_eq_true rfl | omega | (dsimp only; omega)) (by first | exact Nat.le_of_ble_eq_true rfl | omega | (dsimp only; omega)) dJ5_getValue_6d5f1_4
set_option maxRecDepth 100000 in
set_option maxHeartbeats 4000000 in
theorem c_SBlen0 (l : Launch) {G : (Nat → Prop) → State → Heap → Prop} (hG : vG G) (D : va_G) (c9 : Nat → ClassId) {sk sv : Nat → Nat} (hGU : ∀ (A : Nat → Prop) (U : State) (H : Heap), G A U H → vU sk sv A U H) {a v cap : Nat} {cnt : Int32} {f : Nat → Int32} {F : va_W} : mH (S := Unit) l yJ5_length_8abf5 (wq yJ5_length_8abf5 cJ5_length_8abf5 1 (some .int)) { frames := 0, cells := 0, slots := 0, locals := 0 } G D (tyA c9) [.ref a] ((wSB c9 a v cap cnt f) ++ F) 0 0 cnt (fun _ => True) (fun _ => (wSB c9 a v cap cnt f) ++ F) := by
  refine mJ_of hG (cc := cJ5_length_8abf5) (maxL := 1) (ty := .int) (by decide) rfl (Nat.le_of_ble_eq_true rfl) ?_
  intro p e s m args below meth c A X
  have X : vX p s m args meth c cJ5_length_8abf5 1 (some .int) RJ5 (wq yJ5_length_8abf5 cJ5_length_8abf5 1 (some .int)) D (tyA c9) G A := X
  refine v_eq (lv2 := [(0, .ref a)]) rfl rfl rfl rfl ?_
  refine v_aload_n X dJ5_length_8abf5_0 0 rfl rfl 1 rfl ?_
  refine v_get X (C := RJ4) (T := TJ4) (N := 4) (ci := 1) (v := _) dJ5_length_8abf5_1 (lay_of layq_J4) 0 rfl rfl 3 (by decide) (mw wq_56) rfl rfl 4 rfl ?_
  exact v_jret () trivial rfl (List.Perm.refl _) X (by first | exact Nat.le_of_ble_eq_true rfl | omega | (dsimp only; omega)) (by first | exact Nat.le_of_ble_eq_true rfl | omega | (dsimp only; omega)) dJ5_length_8abf5_4
set_option maxRecDepth 100000 in
set_option maxHeartbeats 4000000 in
theorem c_SBlen (l : Launch) {G : (Nat → Prop) → State → Heap → Prop} (hG : vG G) (D : va_G) (c9 : Nat → ClassId) {sk sv : Nat → Nat} (hGU : ∀ (A : Nat → Prop) (U : State) (H : Heap), G A U H → vU sk sv A U H) {a v cap : Nat} {cnt : Int32} {f : Nat → Int32} {F : va_W} : mH (S := Unit) l yJ4_length_8abf5 (wq yJ4_length_8abf5 cJ4_length_8abf5 1 (some .int)) { frames := 1, cells := 0, slots := 0, locals := 20 } G D (tyA c9) [.ref a] ((wSB c9 a v cap cnt f) ++ F) 0 0 cnt (fun _ => True) (fun _ => (wSB c9 a v cap cnt f) ++ F) := by
  refine mJ_of hG (cc := cJ4_length_8abf5) (maxL := 1) (ty := .int) (by decide) rfl (Nat.le_of_ble_eq_true rfl) ?_
  intro p e s m args below meth c A X
  have X : vX p s m args meth c cJ4_length_8abf5 1 (some .int) RJ4 (wq yJ4_length_8abf5 cJ4_length_8abf5 1 (some .int)) D (tyA c9) G A := X
  refine v_eq (lv2 := [(0, .ref a)]) rfl rfl rfl rfl ?_
  refine v_aload_n X dJ4_length_8abf5_0 0 rfl rfl 1 rfl ?_
  refine v_gj X (S := Unit) (ws' := fun _u => [(a, .inr (1, [.ref v, .int 0, .int 0, .int cnt])), (v, .inl (c9 2, cap, .inl f))]) (F' := fun _u => F) (r_SU X (C := RJ4) (ci := 1) (T := TJ4) (N := 4) (As := []) (rest := []) (r_pc X) (c_SBlen0 l hG D c9 hGU (a := a) (v := v) (cap := cap) (cnt := cnt) (f := f)) 0 (gSU wq_117 wq_118 wq_69 wq_119 wq_36 wq_120) rfl rfl rfl rfl (by decide +kernel) ⟨Nat.le_of_ble_eq_true rfl, Nat.le_of_ble_eq_true rfl⟩ (r_recv X 0 rfl rfl) rfl rfl (Nat.le_of_ble_eq_true rfl) ⟨(by first | exact Nat.le_of_ble_eq_true rfl | omega | (dsimp only; omega)), (by first | exact Nat.le_of_ble_eq_true rfl | omega | (dsimp only; omega))⟩ dJ4_length_8abf5_1) (fun _ => rfl) 4 rfl (fun _u _ => ?_)
  exact v_jret () trivial rfl (List.Perm.refl _) X (by first | exact Nat.le_of_ble_eq_true rfl | omega | (dsimp only; omega)) (by first | exact Nat.le_of_ble_eq_true rfl | omega | (dsimp only; omega)) dJ4_length_8abf5_4
set_option maxRecDepth 100000 in
set_option maxHeartbeats 4000000 in
theorem c_checkLen (l : Launch) {G : (Nat → Prop) → State → Heap → Prop} (hG : vG G) (D : va_G) (c9 : Nat → ClassId) {sk sv : Nat → Nat} (hGU : ∀ (A : Nat → Prop) (U : State) (H : Heap), G A U H → vU sk sv A U H) {n : Nat} (hn : n < 2 ^ 31) : mV l yJ7_checkLength_df160 (wq yJ7_checkLength_df160 cJ7_checkLength_df160 2 none) { frames := 0, cells := 0, slots := 0, locals := 0 } G D (tyA c9) [.int 0, .int (nI n)] [] [] 0 0 [] := by
  refine mV_of hG (cc := cJ7_checkLength_df160) (maxL := 2) (by decide) rfl (Nat.le_of_ble_eq_true rfl) ?_
  intro p e s m args below meth c A hnm X
  have X : vX p s m args meth c cJ7_checkLength_df160 2 none RJ7 (wq yJ7_checkLength_df160 cJ7_checkLength_df160 2 none) D (tyA c9) G A := X
  refine v_eq (lv2 := [(0, .int 0), (1, .int (nI n))]) rfl rfl rfl rfl ?_
  refine v_iload_n X dJ7_checkLength_df160_0 1 rfl rfl 1 rfl ?_
  refine v_iload_n X dJ7_checkLength_df160_1 0 rfl rfl 2 rfl ?_
  refine v_icmp_ge X (tgt := 37) dJ7_checkLength_df160_2 rfl 5 rfl (a := some ()) (b := none) (o := ()) (if_pos (nI_pos' hn)) (fun _ => ?_) (fun h => nomatch h)
  exact v_vret X (by first | exact Nat.le_of_ble_eq_true rfl | omega | (dsimp only; omega)) (by first | exact Nat.le_of_ble_eq_true rfl | omega | (dsimp only; omega)) dJ7_checkLength_df160_37
set_option maxRecDepth 100000 in
set_option maxHeartbeats 4000000 in
theorem c_copyRB (l : Launch) {G : (Nat → Prop) → State → Heap → Prop} (hG : vG G) (D : va_G) (c9 : Nat → ClassId) {sk sv : Nat → Nat} (hGU : ∀ (A : Nat → Prop) (U : State) (H : Heap), G A U H → vU sk sv A U H) {v cap n : Nat} {f : Nat → Int32} {F : va_W} (hnc : n ≤ cap) (hm : cap ≤ 700) (hf : sb_Fit f) : mR (S := Nat) l yJ7_copyOfRangeByte_39247 (wq yJ7_copyOfRangeByte_39247 cJ7_copyOfRangeByte_39247 5 (some (.array .byte))) { frames := 1, cells := 1, slots := 700, locals := 60 } G D (tyA c9) [.ref v, .int 0, .int (nI n)] ([(v, .inl (c9 2, cap, .inl f))] ++ F) 1 700 (fun _ => True) (fun u => u) (fun u => [(v, .inl (c9 2, cap, .inl f)), (u, .inl (c9 2, n, .inl (va_cpy f (fun _ => 0) 0 0 n)))] ++ F) := by
  refine mR_of hG (cc := cJ7_copyOfRangeByte_39247) (maxL := 5) (ty := (.array .byte)) (by decide) rfl (Nat.le_of_ble_eq_true rfl) ?_
  intro p e s m args below meth c A X
  have X : vX p s m args meth c cJ7_copyOfRangeByte_39247 5 (some (.array .byte)) RJ7 (wq yJ7_copyOfRangeByte_39247 cJ7_copyOfRangeByte_39247 5 (some (.array .byte))) D (tyA c9) G A := X
  refine v_eq (lv2 := [(0, .ref v), (1, .int 0), (2, .int (nI n))]) rfl rfl rfl rfl ?_
  refine v_iload_n X dJ7_copyOfRangeByte_39247_0 1 rfl rfl 1 rfl ?_
  refine v_iload_n X dJ7_copyOfRangeByte_39247_1 2 rfl rfl 2 rfl ?_
  refine v_callZv X (As := [.int 0, .int (nI n)]) (rest := []) (c_checkLen l hG D c9 hGU (by omega)) 2 (gS wq_121 wq_122 wq_40 wq_123) rfl rfl rfl (by decide +kernel) ⟨Nat.le_of_ble_eq_true rfl, Nat.le_of_ble_eq_true rfl⟩ rfl rfl (Nat.le_of_ble_eq_true rfl) ⟨(by first | exact Nat.le_of_ble_eq_true rfl | omega | (dsimp only; omega)), (by first | exact Nat.le_of_ble_eq_true rfl | omega | (dsimp only; omega))⟩ dJ7_copyOfRangeByte_39247_2 5 rfl ?_
  refine v_iload_n X dJ7_copyOfRangeByte_39247_5 2 rfl rfl 6 rfl ?_
  refine v_iload_n X dJ7_copyOfRangeByte_39247_6 1 rfl rfl 7 rfl ?_
  refine v_isub X dJ7_copyOfRangeByte_39247_7 8 rfl ?_
  rw [show nI n - 0 = nI n from Int32.sub_zero _]
  refine v_istore_n X (lv' := [(3, .int (nI n)), (0, .ref v), (1, .int 0), (2, .int (nI n))]) dJ7_copyOfRangeByte_39247_8 rfl (by decide) rfl 9 rfl ?_
  refine v_iload_n X dJ7_copyOfRangeByte_39247_9 0 rfl rfl 10 rfl ?_
  refine v_newa X (ty := .byte) (a0 := (n, .inl (fun _ => 0))) dJ7_copyOfRangeByte_39247_10 (mw wq_27) rfl 2 rfl (fun _ _ h1 h2 => Option.some.inj (h1.symm.trans h2)) (fun _ => rfl) (nI_pos (by omega)) (nI_clamp (by omega)) (by show n * 1 ≤ 536870912; omega) (by first | exact Nat.le_of_ble_eq_true rfl | omega | (dsimp only; omega)) (by first | exact Nat.le_of_ble_eq_true rfl | omega | (dsimp only; omega)) 12 rfl (fun u => ?_)
  refine v_eq (ws2 := [(v, .inl (c9 2, cap, .inl f)), (u, .inl (c9 2, n, .inl (fun _ => 0)))]) (st2 := [.ref u]) rfl rfl rfl rfl ?_
  refine v_astore X (lv' := [(4, .ref u), (3, .int (nI n)), (0, .ref v), (1, .int 0), (2, .int (nI n))]) dJ7_copyOfRangeByte_39247_12 (by decide) rfl 14 rfl ?_
  refine v_aload_n X dJ7_copyOfRangeByte_39247_14 2 rfl rfl 15 rfl ?_
  refine v_iload_n X dJ7_copyOfRangeByte_39247_15 3 rfl rfl 16 rfl ?_
  refine v_aload X dJ7_copyOfRangeByte_39247_16 0 rfl 18 rfl ?_
  refine v_iconst X dJ7_copyOfRangeByte_39247_18 ic_0 19 rfl ?_
  refine v_aload_n X dJ7_copyOfRangeByte_39247_19 2 rfl rfl 20 rfl ?_
  refine v_alen X dJ7_copyOfRangeByte_39247_20 0 2 rfl rfl rfl 21 rfl ?_
  refine v_iload_n X dJ7_copyOfRangeByte_39247_21 3 rfl rfl 22 rfl ?_
  refine v_isub X dJ7_copyOfRangeByte_39247_22 23 rfl ?_
  rw [show Int32.ofNat cap - 0 = nI cap from Int32.sub_zero _]
  refine v_iload_n X dJ7_copyOfRangeByte_39247_23 1 rfl rfl 24 rfl ?_
  refine v_mmin X dJ7_copyOfRangeByte_39247_24 (mw wq_28) (mw wq_29) (mw wq_18) (mw wq_30) (Nat.le_of_ble_eq_true rfl) (Nat.le_of_ble_eq_true rfl) (by first | exact Nat.le_of_ble_eq_true rfl | omega | (dsimp only; omega)) (by first | exact Nat.le_of_ble_eq_true rfl | omega | (dsimp only; omega)) 27 rfl ?_
  rw [show imin (nI cap) (nI n) = nI n from (imin_nI (by omega) (by omega)).trans (congrArg nI (by omega))]
  refine v_copyb X (ws' := [(v, .inl (c9 2, cap, .inl f)), (u, .inl (c9 2, n, .inl (va_cpy f (fun _ => 0) 0 0 n)))]) dJ7_copyOfRangeByte_39247_27 (mw wq_31) (mw wq_7) (mw wq_8) (mw wq_9) 0 1 2 2 rfl rfl rfl rfl (by decide) (by decide) (nI_pos (by omega)) (by rw [sb_cl0, nI_clamp (by omega)]; omega) (by rw [sb_cl0, nI_clamp (by omega)]; omega) hf (by rw [sb_cl0, nI_clamp (by omega)]; rfl) (Nat.le_of_ble_eq_true rfl) (Nat.le_of_ble_eq_true rfl) 30 rfl ?_
  refine v_aload X dJ7_copyOfRangeByte_39247_30 0 rfl 32 rfl ?_
  exact v_rret u trivial rfl (List.Perm.refl _) X (Or.inr ⟨_, rfl⟩) (by first | exact Nat.le_of_ble_eq_true rfl | omega | (dsimp only; omega)) (by first | exact Nat.le_of_ble_eq_true rfl | omega | (dsimp only; omega)) dJ7_copyOfRangeByte_39247_32
set_option maxRecDepth 100000 in
set_option maxHeartbeats 4000000 in
theorem c_copyR (l : Launch) {G : (Nat → Prop) → State → Heap → Prop} (hG : vG G) (D : va_G) (c9 : Nat → ClassId) {sk sv : Nat → Nat} (hGU : ∀ (A : Nat → Prop) (U : State) (H : Heap), G A U H → vU sk sv A U H) {v cap n : Nat} {f : Nat → Int32} {F : va_W} (hnc : n ≤ cap) (hm : cap ≤ 700) (hf : sb_Fit f) : mR (S := Nat × (Nat → Int32)) l yJ7_copyOfRange_39247 (wq yJ7_copyOfRange_39247 cJ7_copyOfRange_39247 3 (some (.array .byte))) { frames := 2, cells := 1, slots := 700, locals := 84 } G D (tyA c9) [.ref v, .int 0, .int (nI n)] ([(v, .inl (c9 2, cap, .inl f))] ++ F) 1 700 (fun u => sb_Fit u.2 ∧ ∀ j, j < n → u.2 j = f j) (fun u => u.1) (fun u => [(v, .inl (c9 2, cap, .inl f)), (u.1, .inl (c9 2, n, .inl u.2))] ++ F) := by
  refine mR_of hG (cc := cJ7_copyOfRange_39247) (maxL := 3) (ty := (.array .byte)) (by decide) rfl (Nat.le_of_ble_eq_true rfl) ?_
  intro p e s m args below meth c A X
  have X : vX p s m args meth c cJ7_copyOfRange_39247 3 (some (.array .byte)) RJ7 (wq yJ7_copyOfRange_39247 cJ7_copyOfRange_39247 3 (some (.array .byte))) D (tyA c9) G A := X
  refine v_eq (lv2 := [(0, .ref v), (1, .int 0), (2, .int (nI n))]) rfl rfl rfl rfl ?_
  refine v_iload_n X dJ7_copyOfRange_39247_0 1 rfl rfl 1 rfl ?_
  refine v_if_ne X (tgt := 10) dJ7_copyOfRange_39247_1 rfl 4 rfl (a := none) (b := some ()) (o := ()) (if_pos rfl) (fun h => nomatch h) (fun _ => ?_)
  refine v_iload_n X dJ7_copyOfRange_39247_4 2 rfl rfl 5 rfl ?_
  refine v_aload_n X dJ7_copyOfRange_39247_5 0 rfl rfl 6 rfl ?_
  refine v_alen X dJ7_copyOfRange_39247_6 0 2 rfl rfl rfl 7 rfl ?_
  by_cases h : n = cap
  · subst h
    refine v_icmp_eq X (tgt := 17) dJ7_copyOfRange_39247_7 rfl 10 rfl (a := some ()) (b := none) (o := ()) (if_pos rfl) (fun _ => ?_) (fun h => nomatch h)
    refine v_aload_n X dJ7_copyOfRange_39247_17 0 rfl rfl 18 rfl ?_
    refine v_cloneb X dJ7_copyOfRange_39247_18 (mw wq_124) (mw wq_125) (mw wq_126) (mw wq_127) (mw wq_128) nest_clone 0 2 rfl rfl hf (Nat.le_of_ble_eq_true rfl) (Nat.le_of_ble_eq_true rfl) (by first | exact Nat.le_of_ble_eq_true rfl | omega | (dsimp only; omega)) (by first | exact Nat.le_of_ble_eq_true rfl | omega | (dsimp only; omega)) 21 rfl (fun u => ?_)
    refine v_eq (ws2 := [(v, .inl (c9 2, n, .inl f)), (u, .inl (c9 2, n, .inl f))]) (st2 := [.ref u]) rfl rfl rfl rfl ?_
    refine v_castb X dJ7_copyOfRange_39247_21 (mw wq_129) 1 2 rfl rfl 24 rfl ?_
    exact v_rret (u, f) ⟨hf, fun _ _ => rfl⟩ rfl (List.Perm.refl _) X (Or.inr ⟨_, rfl⟩) (by first | exact Nat.le_of_ble_eq_true rfl | omega | (dsimp only; omega)) (by first | exact Nat.le_of_ble_eq_true rfl | omega | (dsimp only; omega)) dJ7_copyOfRange_39247_24
  · refine v_icmp_eq X (tgt := 17) dJ7_copyOfRange_39247_7 rfl 10 rfl (a := none) (b := some ()) (o := ()) (if_neg (show ¬ nI n = nI cap from fun z9 => h ((nI_eq (by omega) (by omega)).mp z9))) (fun h => nomatch h) (fun _ => ?_)
    refine v_aload_n X dJ7_copyOfRange_39247_10 0 rfl rfl 11 rfl ?_
    refine v_iload_n X dJ7_copyOfRange_39247_11 1 rfl rfl 12 rfl ?_
    refine v_iload_n X dJ7_copyOfRange_39247_12 2 rfl rfl 13 rfl ?_
    refine v_gr X (S := Nat) (ws' := fun u => [(v, .inl (c9 2, cap, .inl f)), (u, .inl (c9 2, n, .inl (va_cpy f (fun _ => 0) 0 0 n)))]) (F' := fun u => F) (r_S X (As := [.ref v, .int 0, .int (nI n)]) (rest := []) (r_pc X) (c_copyRB l hG D c9 hGU (v := v) (cap := cap) (n := n) (f := f) hnc hm hf) 3 (gS wq_130 wq_131 wq_40 wq_132) rfl rfl rfl (by decide +kernel) ⟨Nat.le_of_ble_eq_true rfl, Nat.le_of_ble_eq_true rfl⟩ rfl rfl (Nat.le_of_ble_eq_true rfl) ⟨(by first | exact Nat.le_of_ble_eq_true rfl | omega | (dsimp only; omega)), (by first | exact Nat.le_of_ble_eq_true rfl | omega | (dsimp only; omega))⟩ dJ7_copyOfRange_39247_13) (fun _ => rfl) 16 rfl (fun u _ => ?_)
    exact v_rret (u, va_cpy f (fun _ => 0) 0 0 n) ⟨sb_fitC hf sb_fit0, fun j hj => (show va_cpy f (fun _ => 0) 0 0 n j = f j from sb_cpy0 hj)⟩ rfl (List.Perm.refl _) X (Or.inr ⟨_, rfl⟩) (by first | exact Nat.le_of_ble_eq_true rfl | omega | (dsimp only; omega)) (by first | exact Nat.le_of_ble_eq_true rfl | omega | (dsimp only; omega)) dJ7_copyOfRange_39247_16
theorem perm_is2 (p q r s : Nat × va_E) (F : va_W) : ([r, s] ++ (p :: q :: F)).Perm ([p, q, r, s] ++ F) := by
  show (r :: s :: p :: q :: F).Perm (p :: q :: r :: s :: F)
  exact (List.perm_append_comm (l₁ := [r, s]) (l₂ := [p, q])).append_right F
theorem perm_is3 (p q r s : Nat × va_E) (F : va_W) : ([p, q, r, s] ++ F).Perm ([p, s, q, r] ++ F) := by
  show (p :: q :: r :: s :: F).Perm (p :: s :: q :: r :: F)
  exact ((List.perm_append_comm (l₁ := [q, r]) (l₂ := [s])).append_right F).cons p
set_option maxRecDepth 100000 in
set_option maxHeartbeats 4000000 in
theorem c_Sinit0 (l : Launch) {G : (Nat → Prop) → State → Heap → Prop} (hG : vG G) (D : va_G) (c9 : Nat → ClassId) {sk sv : Nat → Nat} (hGU : ∀ (A : Nat → Prop) (U : State) (H : Heap), G A U H → vU sk sv A U H) {a b v cap : Nat} {f : Nat → Int32} {L : List Nat} {F : va_W} (hL : SBp L (v, cap, f)) : mN (S := Nat × (Nat → Int32)) l yJ0_init_db425 (wq yJ0_init_db425 cJ0_init_db425 5 none) { frames := 3, cells := 1, slots := 700, locals := 106 } G D (tyA c9) [.ref b, .ref a, .null] ((b, .inr (0, [.null, .int 0, .int 0, .int 0])) :: SBx c9 a L (v, cap, f)) F 1 700 (fun u => sb_Fit u.2 ∧ ∀ j, j < L.length → u.2 j = nI (L.getD j 0)) (fun u => (wStr c9 b u.1 L.length u.2 ++ SBx c9 a L (v, cap, f)) ++ F) := by
  refine mN_of hG (cc := cJ0_init_db425) (maxL := 5) (by decide) rfl (Nat.le_of_ble_eq_true rfl) ?_
  intro p e s m args below meth c A hnm X
  have X : vX p s m args meth c cJ0_init_db425 5 none RJ0 (wq yJ0_init_db425 cJ0_init_db425 5 none) D (tyA c9) G A := X
  have hnm : meth.name = "<init>" := hnm
  refine v_eq (lv2 := [(0, .ref b), (1, .ref a), (2, .null)]) rfl rfl rfl rfl ?_
  refine v_aload_n X dJ0_init_db425_0 0 rfl rfl 1 rfl ?_
  refine v_oinit X dJ0_init_db425_1 (mw wq_133) (mw wq_104) (mw wq_105) (by first | exact Nat.le_of_ble_eq_true rfl | omega | (dsimp only; omega)) (by first | exact Nat.le_of_ble_eq_true rfl | omega | (dsimp only; omega)) 4 rfl ?_
  refine v_aload_n X dJ0_init_db425_4 1 rfl rfl 5 rfl ?_
  refine v_perm (ws' := [(a, .inr (1, [.ref v, .int 0, .int 0, .int (nI L.length)])), (v, .inl (c9 2, cap, .inl f))]) (F' := (b, .inr (0, [.null, .int 0, .int 0, .int 0])) :: F) (List.perm_middle (l₁ := ([(a, .inr (1, [.ref v, .int 0, .int 0, .int (nI L.length)])), (v, .inl (c9 2, cap, .inl f))] : va_W))).symm ?_
  refine v_gr X (S := Unit) (ws' := fun _u => [(a, .inr (1, [.ref v, .int 0, .int 0, .int (nI L.length)])), (v, .inl (c9 2, cap, .inl f))]) (F' := fun _u => (b, .inr (0, [.null, .int 0, .int 0, .int 0])) :: F) (r_U X (C := RJ4) (owner := "java/lang/AbstractStringBuilder") (As := []) (rest := []) (r_pc X) (c_getValue l hG D c9 hGU (a := a) (v := v) (cap := cap) (cnt := nI L.length) (f := f)) 0 (gU wq_134 wq_135 wq_136 wq_137 wq_36 wq_138) rfl rfl rfl rfl (by decide +kernel) ⟨Nat.le_of_ble_eq_true rfl, Nat.le_of_ble_eq_true rfl⟩ (r_recv X 0 rfl rfl) rfl rfl (Nat.le_of_ble_eq_true rfl) ⟨(by first | exact Nat.le_of_ble_eq_true rfl | omega | (dsimp only; omega)), (by first | exact Nat.le_of_ble_eq_true rfl | omega | (dsimp only; omega))⟩ dJ0_init_db425_5) (fun _ => rfl) 8 rfl (fun _u _ => ?_)
  refine v_astore_n X (lv' := [(3, .ref v), (0, .ref b), (1, .ref a), (2, .null)]) dJ0_init_db425_8 rfl (by decide) rfl 9 rfl ?_
  refine v_aload_n X dJ0_init_db425_9 2 rfl rfl 10 rfl ?_
  refine v_gj X (S := Unit) (ws' := fun _u => [(a, .inr (1, [.ref v, .int 0, .int 0, .int (nI L.length)])), (v, .inl (c9 2, cap, .inl f))]) (F' := fun _u => (b, .inr (0, [.null, .int 0, .int 0, .int 0])) :: F) (r_O X (C := RJ4) (owner := "java/lang/AbstractStringBuilder") (As := []) (rest := []) (r_pc X) (c_SBlen l hG D c9 hGU (a := a) (v := v) (cap := cap) (cnt := nI L.length) (f := f)) 0 (gO wq_139 wq_118 wq_119 wq_140 wq_141 wq_75 wq_142) rfl rfl rfl (mw wq_120) (by decide +kernel) ⟨Nat.le_of_ble_eq_true rfl, Nat.le_of_ble_eq_true rfl⟩ (r_recv X 0 rfl rfl) rfl rfl (Nat.le_of_ble_eq_true rfl) ⟨(by first | exact Nat.le_of_ble_eq_true rfl | omega | (dsimp only; omega)), (by first | exact Nat.le_of_ble_eq_true rfl | omega | (dsimp only; omega))⟩ dJ0_init_db425_10) (fun _ => rfl) 13 rfl (fun _u _ => ?_)
  refine v_istore X (lv' := [(4, .int (nI L.length)), (3, .ref v), (0, .ref b), (1, .ref a), (2, .null)]) dJ0_init_db425_13 (by decide) rfl 15 rfl ?_
  refine v_aload_n X dJ0_init_db425_15 3 rfl rfl 16 rfl ?_
  refine v_gj X (S := Unit) (ws' := fun _u => [(a, .inr (1, [.ref v, .int 0, .int 0, .int (nI L.length)])), (v, .inl (c9 2, cap, .inl f))]) (F' := fun _u => (b, .inr (0, [.null, .int 0, .int 0, .int 0])) :: F) (r_U X (C := RJ4) (owner := "java/lang/AbstractStringBuilder") (As := []) (rest := []) (r_pc X) (c_SBlatin l hG D c9 hGU (a := a) (v := v) (cap := cap) (cnt := nI L.length) (f := f)) 0 (gU wq_143 wq_78 wq_79 wq_80 wq_36 wq_81) rfl rfl rfl rfl (by decide +kernel) ⟨Nat.le_of_ble_eq_true rfl, Nat.le_of_ble_eq_true rfl⟩ (r_recv X 0 rfl rfl) rfl rfl (Nat.le_of_ble_eq_true rfl) ⟨(by first | exact Nat.le_of_ble_eq_true rfl | omega | (dsimp only; omega)), (by first | exact Nat.le_of_ble_eq_true rfl | omega | (dsimp only; omega))⟩ dJ0_init_db425_16) (fun _ => rfl) 19 rfl (fun _u _ => ?_)
  refine v_perm (ws' := [(b, .inr (0, [.null, .int 0, .int 0, .int 0])), (a, .inr (1, [.ref v, .int 0, .int 0, .int (nI L.length)])), (v, .inl (c9 2, cap, .inl f))]) (F' := F) (List.perm_middle (l₁ := ([(a, .inr (1, [.ref v, .int 0, .int 0, .int (nI L.length)])), (v, .inl (c9 2, cap, .inl f))] : va_W))) ?_
  refine v_if_eq X (tgt := 41) dJ0_init_db425_19 rfl 22 rfl (a := none) (b := some ()) (o := ()) (if_neg (by decide)) (fun h => nomatch h) (fun _ => ?_)
  refine v_aload_n X dJ0_init_db425_22 2 rfl rfl 23 rfl ?_
  refine v_iconst X dJ0_init_db425_23 ic_0 24 rfl ?_
  refine v_putF X (C := RJ0) (T := TJ0) (N := 4) (ci := 0) (ty := tyJ0 1) (ws' := [(b, .inr (0, [.null, .int 0, .int 0, .int 0])), (a, .inr (1, [.ref v, .int 0, .int 0, .int (nI L.length)])), (v, .inl (c9 2, cap, .inl f))]) dJ0_init_db425_24 (lay_of layq_J0) 0 rfl rfl 1 (by decide) tyJ0 tyJ0_ok nmJ0 (mw wq_144) rfl rfl hnm rfl (tyJ0_ok 1 (by decide)) rfl rfl (Nat.le_of_ble_eq_true rfl) rfl 27 rfl ?_
  refine v_aload_n X dJ0_init_db425_27 2 rfl rfl 28 rfl ?_
  refine v_aload_n X dJ0_init_db425_28 1 rfl rfl 29 rfl ?_
  refine v_iconst X dJ0_init_db425_29 ic_0 30 rfl ?_
  refine v_iload X dJ0_init_db425_30 0 rfl 32 rfl ?_
  refine v_perm (ws' := [(v, .inl (c9 2, cap, .inl f))]) (F' := (b, .inr (0, [.null, .int 0, .int 0, .int 0])) :: (a, .inr (1, [.ref v, .int 0, .int 0, .int (nI L.length)])) :: F) (List.perm_middle (l₁ := ([(b, .inr (0, [.null, .int 0, .int 0, .int 0])), (a, .inr (1, [.ref v, .int 0, .int 0, .int (nI L.length)]))] : va_W))) ?_
  refine v_gr X (S := Nat × (Nat → Int32)) (ws' := fun u => [(v, .inl (c9 2, cap, .inl f)), (u.1, .inl (c9 2, L.length, .inl u.2))]) (F' := fun u => (b, .inr (0, [.null, .int 0, .int 0, .int 0])) :: (a, .inr (1, [.ref v, .int 0, .int 0, .int (nI L.length)])) :: F) (r_S X (As := [.ref v, .int 0, .int (nI L.length)]) (rest := [.ref b]) (r_pc X) (c_copyR l hG D c9 hGU (v := v) (cap := cap) (n := L.length) (f := f) hL.1 hL.2.1 hL.2.2.1) 3 (gS wq_149 wq_150 wq_40 wq_151) rfl rfl rfl (by decide +kernel) ⟨Nat.le_of_ble_eq_true rfl, Nat.le_of_ble_eq_true rfl⟩ rfl rfl (Nat.le_of_ble_eq_true rfl) ⟨(by first | exact Nat.le_of_ble_eq_true rfl | omega | (dsimp only; omega)), (by first | exact Nat.le_of_ble_eq_true rfl | omega | (dsimp only; omega))⟩ dJ0_init_db425_32) (fun _ => rfl) 35 rfl (fun u hu => ?_)
  refine v_perm (ws' := [(b, .inr (0, [.null, .int 0, .int 0, .int 0])), (a, .inr (1, [.ref v, .int 0, .int 0, .int (nI L.length)])), (v, .inl (c9 2, cap, .inl f)), (u.1, .inl (c9 2, L.length, .inl u.2))]) (F' := F) (perm_is2 _ _ _ _ F) ?_
  refine v_putF X (C := RJ0) (T := TJ0) (N := 4) (ci := 0) (ty := tyJ0 0) (ws' := [(b, .inr (0, [.ref u.1, .int 0, .int 0, .int 0])), (a, .inr (1, [.ref v, .int 0, .int 0, .int (nI L.length)])), (v, .inl (c9 2, cap, .inl f)), (u.1, .inl (c9 2, L.length, .inl u.2))]) dJ0_init_db425_35 (lay_of layq_J0) 0 rfl rfl 0 (by decide) tyJ0 tyJ0_ok nmJ0 (mw wq_5) rfl rfl hnm rfl (tyJ0_ok 0 (by decide)) rfl rfl (Nat.le_of_ble_eq_true rfl) rfl 38 rfl ?_
  refine v_goto X (tgt := 97) dJ0_init_db425_38 rfl ?_
  exact v_nret (u.1, u.2) ⟨hu.1, fun j hj => (hu.2 j hj).trans (hL.2.2.2 j hj)⟩ (perm_is3 _ _ _ _ F) X (by first | exact Nat.le_of_ble_eq_true rfl | omega | (dsimp only; omega)) (by first | exact Nat.le_of_ble_eq_true rfl | omega | (dsimp only; omega)) dJ0_init_db425_97
set_option maxRecDepth 100000 in
set_option maxHeartbeats 4000000 in
theorem c_Sinit (l : Launch) {G : (Nat → Prop) → State → Heap → Prop} (hG : vG G) (D : va_G) (c9 : Nat → ClassId) {sk sv : Nat → Nat} (hGU : ∀ (A : Nat → Prop) (U : State) (H : Heap), G A U H → vU sk sv A U H) {a b v cap : Nat} {f : Nat → Int32} {L : List Nat} {F : va_W} (hL : SBp L (v, cap, f)) : mN (S := Nat × (Nat → Int32)) l yJ0_init_81219 (wq yJ0_init_81219 cJ0_init_81219 2 none) { frames := 4, cells := 1, slots := 700, locals := 130 } G D (tyA c9) [.ref b, .ref a] ((b, .inr (0, [.null, .int 0, .int 0, .int 0])) :: SBx c9 a L (v, cap, f)) F 1 700 (fun u => sb_Fit u.2 ∧ ∀ j, j < L.length → u.2 j = nI (L.getD j 0)) (fun u => (wStr c9 b u.1 L.length u.2 ++ SBx c9 a L (v, cap, f)) ++ F) := by
  refine mN_of hG (cc := cJ0_init_81219) (maxL := 2) (by decide) rfl (Nat.le_of_ble_eq_true rfl) ?_
  intro p e s m args below meth c A hnm X
  have X : vX p s m args meth c cJ0_init_81219 2 none RJ0 (wq yJ0_init_81219 cJ0_init_81219 2 none) D (tyA c9) G A := X
  have hnm : meth.name = "<init>" := hnm
  refine v_eq (lv2 := [(0, .ref b), (1, .ref a)]) rfl rfl rfl rfl ?_
  refine v_aload_n X dJ0_init_81219_0 0 rfl rfl 1 rfl ?_
  refine v_aload_n X dJ0_init_81219_1 1 rfl rfl 2 rfl ?_
  refine v_null X dJ0_init_81219_2 3 rfl ?_
  refine v_gn X (S := Nat × (Nat → Int32)) (ws' := fun u => wStr c9 b u.1 L.length u.2 ++ SBx c9 a L (v, cap, f)) (F' := fun u => F) (r_I X (As := [.ref a, .null]) (rest := []) (r_pc X) (c_Sinit0 l hG D c9 hGU (a := a) (b := b) hL) 2 (wg_sub _ wq_152 _) rfl rfl rfl (mw wq_3) (mw wq_153) (mw wq_154) rfl (by decide +kernel) ⟨Nat.le_of_ble_eq_true rfl, Nat.le_of_ble_eq_true rfl⟩ rfl rfl (Nat.le_of_ble_eq_true rfl) ⟨(by first | exact Nat.le_of_ble_eq_true rfl | omega | (dsimp only; omega)), (by first | exact Nat.le_of_ble_eq_true rfl | omega | (dsimp only; omega))⟩ dJ0_init_81219_3) (fun _ => rfl) 6 rfl (fun u hu => ?_)
  exact v_nret u hu (List.Perm.refl _) X (by first | exact Nat.le_of_ble_eq_true rfl | omega | (dsimp only; omega)) (by first | exact Nat.le_of_ble_eq_true rfl | omega | (dsimp only; omega)) dJ0_init_81219_6
set_option maxRecDepth 100000 in
set_option maxHeartbeats 4000000 in
theorem c_toString (l : Launch) {G : (Nat → Prop) → State → Heap → Prop} (hG : vG G) (D : va_G) (c9 : Nat → ClassId) {sk sv : Nat → Nat} (hGU : ∀ (A : Nat → Prop) (U : State) (H : Heap), G A U H → vU sk sv A U H) {a v cap : Nat} {f : Nat → Int32} {L : List Nat} {F : va_W} (hL : SBp L (v, cap, f)) : mR (S := Nat × Nat × (Nat → Int32)) l yJ4_toString_0e30d (wq yJ4_toString_0e30d cJ4_toString_0e30d 1 (some (.object "java/lang/String"))) { frames := 5, cells := 2, slots := 704, locals := 151 } G D (tyA c9) [.ref a] (SBx c9 a L (v, cap, f) ++ F) 2 704 (fun u => sb_Fit u.2.2 ∧ ∀ j, j < L.length → u.2.2 j = nI (L.getD j 0)) (fun u => u.1) (fun u => (wStr c9 u.1 u.2.1 L.length u.2.2 ++ SBx c9 a L (v, cap, f)) ++ F) := by
  refine mR_of hG (cc := cJ4_toString_0e30d) (maxL := 1) (ty := (.object "java/lang/String")) (by decide) rfl (Nat.le_of_ble_eq_true rfl) ?_
  intro p e s m args below meth c A X
  have X : vX p s m args meth c cJ4_toString_0e30d 1 (some (.object "java/lang/String")) RJ4 (wq yJ4_toString_0e30d cJ4_toString_0e30d 1 (some (.object "java/lang/String"))) D (tyA c9) G A := X
  refine v_eq (lv2 := [(0, .ref a)]) rfl rfl rfl rfl ?_
  refine v_new X (C := RJ0) (T := TJ0) (N := 4) (ci := 0) (fs := [.null, .int 0, .int 0, .int 0]) dJ4_toString_0e30d_0 (lay_of layq_J0) tyJ0 tyJ0_ok (mw wq_155) (mw wq_156) (mw wq_3) rfl (fun j hj => match j, hj with | 0, _ => rfl | 1, _ => rfl | 2, _ => rfl | 3, _ => rfl | z + 4, h => absurd h (by omega)) (by first | exact Nat.le_of_ble_eq_true rfl | omega | (dsimp only; omega)) (by first | exact Nat.le_of_ble_eq_true rfl | omega | (dsimp only; omega)) 3 rfl (fun b => ?_)
  refine v_perm (ws' := [(b, .inr (0, [.null, .int 0, .int 0, .int 0])), (a, .inr (1, [.ref v, .int 0, .int 0, .int (nI L.length)])), (v, .inl (c9 2, cap, .inl f))]) (F' := F) ((List.perm_append_comm (l₁ := ([(a, .inr (1, [.ref v, .int 0, .int 0, .int (nI L.length)])), (v, .inl (c9 2, cap, .inl f))] : va_W)) (l₂ := ([(b, .inr (0, [.null, .int 0, .int 0, .int 0]))] : va_W))).append_right F) ?_
  refine v_dup X dJ4_toString_0e30d_3 rfl 4 rfl ?_
  refine v_aload_n X dJ4_toString_0e30d_4 0 rfl rfl 5 rfl ?_
  refine v_gn X (S := Nat × (Nat → Int32)) (ws' := fun u => wStr c9 b u.1 L.length u.2 ++ SBx c9 a L (v, cap, f)) (F' := fun u => F) (r_I X (As := [.ref a]) (rest := [.ref b]) (r_pc X) (c_Sinit l hG D c9 hGU (a := a) (b := b) hL) 1 (wg_sub _ wq_157 _) rfl rfl rfl (mw wq_3) (mw wq_158) (mw wq_159) rfl (by decide +kernel) ⟨Nat.le_of_ble_eq_true rfl, Nat.le_of_ble_eq_true rfl⟩ rfl rfl (Nat.le_of_ble_eq_true rfl) ⟨(by first | exact Nat.le_of_ble_eq_true rfl | omega | (dsimp only; omega)), (by first | exact Nat.le_of_ble_eq_true rfl | omega | (dsimp only; omega))⟩ dJ4_toString_0e30d_5) (fun _ => rfl) 8 rfl (fun u hu => ?_)
  exact v_rret (b, u.1, u.2) hu rfl (List.Perm.refl _) X (Or.inl ⟨_, rfl⟩) (by first | exact Nat.le_of_ble_eq_true rfl | omega | (dsimp only; omega)) (by first | exact Nat.le_of_ble_eq_true rfl | omega | (dsimp only; omega)) dJ4_toString_0e30d_8
