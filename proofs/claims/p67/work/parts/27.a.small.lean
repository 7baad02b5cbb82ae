theorem ww_0 : Cond.constant RL 7 2147483647 ∈ Wg := t4_in (List.mem_of_getElem? (i := 138) rfl) rfl
theorem ww_1 : Cond.methodLink RL 60 yL_cell ∈ Wg := t4_in (List.mem_of_getElem? (i := 209) rfl) rfl
theorem ww_2 : Cond.static yL_cell ∈ Wg := t4_in (List.mem_of_getElem? (i := 136) rfl) rfl
theorem ww_3 : Cond.initialized RL ∈ Wg := t1_in (List.mem_of_getElem? (i := 0) rfl) rfl
theorem ww_4 : Cond.code yL_cell cL_cell 2 (some .int) ∈ Wg := t4_in (List.mem_of_getElem? (i := 137) rfl) rfl

/-! The law's own small methods: a number of the script, an offset, a trust, a password. -/
/-- a number of the script, without its highest bit -/
def scel (xs : Nat → Int32) (Ls k : Nat) : Nat := if k < Ls then (xs k).toBitVec.toNat % 2 ^ 31 else 0
theorem scel_lt (xs : Nat → Int32) (Ls k : Nat) : scel xs Ls k < 2 ^ 31 := by
  unfold scel
  split
  · exact Nat.mod_lt _ (by decide)
  · decide
def trB (c x z : Nat) : Bool := x != z && c.testBit (3 * x + z)
theorem irm_nI {n k : Nat} (hn : n < 2 ^ 31) (h0 : 0 < k) (hk : k < 2 ^ 31) : irm (nI n) (nI k) = nI (n % k) := pk_rem hn h0 hk
theorem bit_nI {c k : Nat} (hc : c < 2 ^ 31) (hk : k < 31) : ((nI c >>> (nI k &&& 31)) &&& 1) = nI (if c.testBit k = true then 1 else 0) := by
  have hs : ∀ k, k < 31 → ((nI k &&& 31).toBitVec.smod 32).toNat = k := by decide +kernel
  rw [pk_shrN hc _ k (hs k hk), pk_andN (Nat.lt_of_le_of_lt (Nat.div_le_self _ _) (by omega)) 1 (by decide)]
  congr 1
  have := Nat.testBit_eq_decide_div_mod_eq (x := c) (i := k)
  by_cases h : c / 2 ^ k % 2 = 1
  · rw [this, decide_eq_true h]
    simpa using h
  · rw [this, decide_eq_false h]
    simp
    omega
set_option maxRecDepth 100000 in
set_option maxHeartbeats 4000000 in
theorem c_cell (l : Launch) {G : (Nat → Prop) → State → Heap → Prop} (hG : vG G) (D : va_G) (c9 : Nat → ClassId) {sk sv : Nat → Nat} (hGU : ∀ (A : Nat → Prop) (U : State) (H : Heap), G A U H → vU sk sv A U H) {bs Ls : Nat} {xs : Nat → Int32} (hGS : ∀ (A : Nat → Prop) (U : State) (H : Heap), G A U H → va_T .int bs Ls (fun j => .int (xs j)) A U H) (hLs : Ls < 2 ^ 31) {k : Nat} (hk : k < 2 ^ 31) : mI l yL_cell (wq yL_cell cL_cell 2 (some .int)) { frames := 0, cells := 0, slots := 0, locals := 0 } G D (tyA c9) [.ref bs, .int (nI k)] [] [] 0 0 (nI (scel xs Ls k)) [] := by
  refine mI_of hG (cc := cL_cell) (maxL := 2) (ty := .int) (by decide) rfl (Nat.le_of_ble_eq_true rfl) ?_
  intro p e s m args below meth c A X
  have X : vX p s m args meth c cL_cell 2 (some .int) RL (wq yL_cell cL_cell 2 (some .int)) D (tyA c9) G A := X
  have TS := hGS A s s.heap X.2.2.2.2.2.2.2.2.2.2
  refine v_eq (lv2 := [(0, .ref bs), (1, .int (nI k))]) rfl rfl rfl rfl ?_
  refine v_iload_n X dL_cell_0 1 rfl rfl 1 rfl ?_
  refine v_aload_n X dL_cell_1 0 rfl rfl 2 rfl ?_
  refine v_tlen X (v := nI Ls) dL_cell_2 TS rfl 3 rfl ?_
  by_cases h : k < Ls
  · refine v_icmp_ge X (tgt := 15) dL_cell_3 rfl 6 rfl (a := none) (b := some ()) (o := ()) (if_neg (nI_ge h hLs)) (fun h => nomatch h) (fun _ => ?_)
    refine v_aload_n X dL_cell_6 0 rfl rfl 7 rfl ?_
    refine v_iload_n X dL_cell_7 1 rfl rfl 8 rfl ?_
    refine v_ti X (v := .int (xs k)) dL_cell_8 TS (vp_in_nI h hLs) (by show Value.int _ = _; rw [nI_clamp hk]) 9 rfl ?_
    refine v_ldc X dL_cell_9 (X.2.2.2.2.2.1 _ (mw ww_0)) 11 rfl ?_
    refine v_iand X dL_cell_11 12 rfl ?_
    rw [pk_and (xs k) 31 (by decide)]
    refine v_goto X (tgt := 16) dL_cell_12 rfl ?_
    rw [show (xs k).toBitVec.toNat % 2 ^ 31 = scel xs Ls k from (if_pos h).symm]
    exact v_iret X (by first | exact Nat.le_of_ble_eq_true rfl | omega) (by first | exact Nat.le_of_ble_eq_true rfl | omega) dL_cell_16
  · refine v_icmp_ge X (tgt := 15) dL_cell_3 rfl 6 rfl (a := some ()) (b := none) (o := ()) (if_pos (nI_le (by omega) hk)) (fun _ => ?_) (fun h => nomatch h)
    refine v_iconst X dL_cell_15 ic_0 16 rfl ?_
    refine v_eq (st2 := [.int (nI (scel xs Ls k))]) rfl rfl rfl (by rw [show scel xs Ls k = 0 from if_neg h]; rfl) ?_
    exact v_iret X (by first | exact Nat.le_of_ble_eq_true rfl | omega) (by first | exact Nat.le_of_ble_eq_true rfl | omega) dL_cell_16
set_option maxRecDepth 100000 in
set_option maxHeartbeats 4000000 in
theorem c_offset (l : Launch) {G : (Nat → Prop) → State → Heap → Prop} (hG : vG G) (D : va_G) (c9 : Nat → ClassId) {sk sv : Nat → Nat} (hGU : ∀ (A : Nat → Prop) (U : State) (H : Heap), G A U H → vU sk sv A U H) {n : Nat} (hn : n < 2 ^ 31) : mI l yL_offset (wq yL_offset cL_offset 1 (some .int)) { frames := 0, cells := 0, slots := 0, locals := 0 } G D (tyA c9) [.int (nI n)] [] [] 0 0 (nI (n % 7) - 3) [] := by
  refine mI_of hG (cc := cL_offset) (maxL := 1) (ty := .int) (by decide) rfl (Nat.le_of_ble_eq_true rfl) ?_
  intro p e s m args below meth c A X
  have X : vX p s m args meth c cL_offset 1 (some .int) RL (wq yL_offset cL_offset 1 (some .int)) D (tyA c9) G A := X
  refine v_eq (lv2 := [(0, .int (nI n))]) rfl rfl rfl rfl ?_
  refine v_iload_n X dL_offset_0 0 rfl rfl 1 rfl ?_
  refine v_bipush X dL_offset_1 bp_7 3 rfl ?_
  refine v_irem X dL_offset_3 (by decide) 4 rfl ?_
  rw [show irm (nI n) 7 = nI (n % 7) from irm_nI (by omega) (by decide) (by decide)]
  refine v_iconst X dL_offset_4 ic_3 5 rfl ?_
  refine v_isub X dL_offset_5 6 rfl ?_
  exact v_iret X (by first | exact Nat.le_of_ble_eq_true rfl | omega) (by first | exact Nat.le_of_ble_eq_true rfl | omega) dL_offset_6
set_option maxRecDepth 100000 in
set_option maxHeartbeats 4000000 in
theorem c_isTrusted (l : Launch) {G : (Nat → Prop) → State → Heap → Prop} (hG : vG G) (D : va_G) (c9 : Nat → ClassId) {sk sv : Nat → Nat} (hGU : ∀ (A : Nat → Prop) (U : State) (H : Heap), G A U H → vU sk sv A U H) {bs Ls : Nat} {xs : Nat → Int32} (hGS : ∀ (A : Nat → Prop) (U : State) (H : Heap), G A U H → va_T .int bs Ls (fun j => .int (xs j)) A U H) (hLs : Ls < 2 ^ 31) {x z : Nat} (hx : x < 3) (hz : z < 3) : mI l yL_isTrusted (wq yL_isTrusted cL_isTrusted 3 (some .boolean)) { frames := 1, cells := 0, slots := 0, locals := 21 } G D (tyA c9) [.ref bs, .int (nI x), .int (nI z)] [] [] 0 0 (if trB (scel xs Ls 4) x z = true then 1 else 0) [] := by
  refine mI_of hG (cc := cL_isTrusted) (maxL := 3) (ty := .boolean) (by decide) rfl (Nat.le_of_ble_eq_true rfl) ?_
  intro p e s m args below meth c A X
  have X : vX p s m args meth c cL_isTrusted 3 (some .boolean) RL (wq yL_isTrusted cL_isTrusted 3 (some .boolean)) D (tyA c9) G A := X
  have TS := hGS A s s.heap X.2.2.2.2.2.2.2.2.2.2
  refine v_eq (lv2 := [(0, .ref bs), (1, .int (nI x)), (2, .int (nI z))]) rfl rfl rfl rfl ?_
  refine v_iload_n X dL_isTrusted_0 1 rfl rfl 1 rfl ?_
  refine v_iload_n X dL_isTrusted_1 2 rfl rfl 2 rfl ?_
  by_cases h : x = z
  · refine v_icmp_eq X (tgt := 26) dL_isTrusted_2 rfl 5 rfl (a := some ()) (b := none) (o := ()) (if_pos (congrArg nI h)) (fun _ => ?_) (fun h => nomatch h)
    refine v_iconst X dL_isTrusted_26 ic_0 27 rfl ?_
    refine v_eq (st2 := [.int (if trB (scel xs Ls 4) x z = true then 1 else 0)]) rfl rfl rfl (by unfold trB; rw [h]; simp) ?_
    exact v_zret X (by first | exact Nat.le_of_ble_eq_true rfl | omega) (by first | exact Nat.le_of_ble_eq_true rfl | omega) (by split <;> rfl) dL_isTrusted_27
  · refine v_icmp_eq X (tgt := 26) dL_isTrusted_2 rfl 5 rfl (a := none) (b := some ()) (o := ()) (if_neg (fun z9 => h ((nI_eq (by omega) (by omega)).mp z9))) (fun h => nomatch h) (fun _ => ?_)
    refine v_aload_n X dL_isTrusted_5 0 rfl rfl 6 rfl ?_
    refine v_iconst X dL_isTrusted_6 ic_4 7 rfl ?_
    refine v_callZi X (As := [.ref bs, .int 4]) (rest := []) (c_cell l hG D c9 hGU hGS hLs (k := 4) (by decide)) 2 (gS ww_1 ww_2 ww_3 ww_4) rfl rfl rfl (by decide +kernel) ⟨Nat.le_of_ble_eq_true rfl, Nat.le_of_ble_eq_true rfl⟩ rfl rfl (Nat.le_of_ble_eq_true rfl) ⟨(by first | exact Nat.le_of_ble_eq_true rfl | omega), (by first | exact Nat.le_of_ble_eq_true rfl | omega)⟩ dL_isTrusted_7 10 rfl ?_
    refine v_iconst X dL_isTrusted_10 ic_3 11 rfl ?_
    refine v_iload_n X dL_isTrusted_11 1 rfl rfl 12 rfl ?_
    refine v_imul X dL_isTrusted_12 13 rfl ?_
    rw [show (3 : Int32) * nI x = nI (3 * x) from pk_mul 3 x]
    refine v_iload_n X dL_isTrusted_13 2 rfl rfl 14 rfl ?_
    refine v_iadd X dL_isTrusted_14 15 rfl ?_
    rw [nI_add]
    refine v_ishr X dL_isTrusted_15 16 rfl ?_
    refine v_iconst X dL_isTrusted_16 ic_1 17 rfl ?_
    refine v_iand X dL_isTrusted_17 18 rfl ?_
    rw [bit_nI (scel_lt xs Ls 4) (by omega)]
    refine v_iconst X dL_isTrusted_18 ic_1 19 rfl ?_
    by_cases hb : (scel xs Ls 4).testBit (3 * x + z) = true
    · refine v_icmp_ne X (tgt := 26) dL_isTrusted_19 rfl 22 rfl (a := none) (b := some ()) (o := ()) (by rw [if_pos hb]; exact if_pos rfl) (fun h => nomatch h) (fun _ => ?_)
      refine v_iconst X dL_isTrusted_22 ic_1 23 rfl ?_
      refine v_goto X (tgt := 27) dL_isTrusted_23 rfl ?_
      refine v_eq (st2 := [.int (if trB (scel xs Ls 4) x z = true then 1 else 0)]) rfl rfl rfl (by rw [if_pos (by unfold trB; rw [hb]; simp [h])]) ?_
      exact v_zret X (by first | exact Nat.le_of_ble_eq_true rfl | omega) (by first | exact Nat.le_of_ble_eq_true rfl | omega) (by split <;> rfl) dL_isTrusted_27
    · refine v_icmp_ne X (tgt := 26) dL_isTrusted_19 rfl 22 rfl (a := some ()) (b := none) (o := ()) (by rw [if_neg hb]; exact if_neg (by decide)) (fun _ => ?_) (fun h => nomatch h)
      refine v_iconst X dL_isTrusted_26 ic_0 27 rfl ?_
      refine v_eq (st2 := [.int (if trB (scel xs Ls 4) x z = true then 1 else 0)]) rfl rfl rfl (by rw [if_neg (by unfold trB; simp [hb])]) ?_
      exact v_zret X (by first | exact Nat.le_of_ble_eq_true rfl | omega) (by first | exact Nat.le_of_ble_eq_true rfl | omega) (by split <;> rfl) dL_isTrusted_27
set_option maxRecDepth 100000 in
set_option maxHeartbeats 4000000 in
theorem c_password (l : Launch) {G : (Nat → Prop) → State → Heap → Prop} (hG : vG G) (D : va_G) (c9 : Nat → ClassId) {sk sv : Nat → Nat} (hGU : ∀ (A : Nat → Prop) (U : State) (H : Heap), G A U H → vU sk sv A U H) {bs Ls : Nat} {xs : Nat → Int32} (hGS : ∀ (A : Nat → Prop) (U : State) (H : Heap), G A U H → va_T .int bs Ls (fun j => .int (xs j)) A U H) (hLs : Ls < 2 ^ 31) {u : Nat} (hu : u < 3) : mI l yL_password (wq yL_password cL_password 2 (some .int)) { frames := 1, cells := 0, slots := 0, locals := 21 } G D (tyA c9) [.ref bs, .int (nI u)] [] [] 0 0 (nI (scel xs Ls (5 + u) / 4 % 100)) [] := by
  refine mI_of hG (cc := cL_password) (maxL := 2) (ty := .int) (by decide) rfl (Nat.le_of_ble_eq_true rfl) ?_
  intro p e s m args below meth c A X
  have X : vX p s m args meth c cL_password 2 (some .int) RL (wq yL_password cL_password 2 (some .int)) D (tyA c9) G A := X
  have hsl := scel_lt xs Ls (5 + u)
  have TS := hGS A s s.heap X.2.2.2.2.2.2.2.2.2.2
  refine v_eq (lv2 := [(0, .ref bs), (1, .int (nI u))]) rfl rfl rfl rfl ?_
  refine v_aload_n X dL_password_0 0 rfl rfl 1 rfl ?_
  refine v_iconst X dL_password_1 ic_5 2 rfl ?_
  refine v_iload_n X dL_password_2 1 rfl rfl 3 rfl ?_
  refine v_iadd X dL_password_3 4 rfl ?_
  rw [show (5 : Int32) + nI u = nI (5 + u) from nI_add 5 u]
  refine v_callZi X (As := [.ref bs, .int (nI (5 + u))]) (rest := []) (c_cell l hG D c9 hGU hGS hLs (k := 5 + u) (by omega)) 2 (gS ww_1 ww_2 ww_3 ww_4) rfl rfl rfl (by decide +kernel) ⟨Nat.le_of_ble_eq_true rfl, Nat.le_of_ble_eq_true rfl⟩ rfl rfl (Nat.le_of_ble_eq_true rfl) ⟨(by first | exact Nat.le_of_ble_eq_true rfl | omega), (by first | exact Nat.le_of_ble_eq_true rfl | omega)⟩ dL_password_4 7 rfl ?_
  refine v_iconst X dL_password_7 ic_4 8 rfl ?_
  refine v_idiv X dL_password_8 (by decide) 9 rfl ?_
  rw [show nI (scel xs Ls (5 + u)) / 4 = nI ((scel xs Ls (5 + u)) / 4) from pk_div (by omega) (by decide) (by decide)]
  refine v_bipush X dL_password_9 bp_100 11 rfl ?_
  refine v_irem X dL_password_11 (by decide) 12 rfl ?_
  rw [show irm (nI (scel xs Ls (5 + u) / 4)) 100 = nI ((scel xs Ls (5 + u) / 4) % 100) from irm_nI (by omega) (by decide) (by decide)]
  exact v_iret X (by first | exact Nat.le_of_ble_eq_true rfl | omega) (by first | exact Nat.le_of_ble_eq_true rfl | omega) dL_password_12
