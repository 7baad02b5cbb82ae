/-! The class's record; what the law says to it. -/
abbrev FX : Type := Int32 × Int32 × Int32 × (Nat → Int32) × Int32 × (Nat → Int32) × Int32 × Int32 × Int32 × Int32 × Int32 × Int32 × Int32 × Int32 × Int32 × Int32 × Int32 × Int32 × (Nat → Int32) × Int32 × (Nat → Int32) × Int32 × (Nat → Int32) × Int32 × (Nat → Int32) × Int32 × (Nat → Int32) × Int32 × Int32 × Int32 × Int32 × Int32 × Int32 × (Nat → Int32) × Int32 × (Nat → Int32) × Int32 × (Nat → Int32) × Int32 × (Nat → Int32) × Int32 × (Nat → Int32) × (Nat → Option SV) × (Nat → Option SV)
abbrev FX.nextPast (x : FX) : Int32 := x.1
abbrev FX.pastCount (x : FX) : Int32 := x.2.1
abbrev FX.i_count (x : FX) : Int32 := x.2.2.1
abbrev FX.i_cells (x : FX) : Nat → Int32 := x.2.2.2.1
abbrev FX.o_count (x : FX) : Int32 := x.2.2.2.2.1
abbrev FX.o_cells (x : FX) : Nat → Int32 := x.2.2.2.2.2.1
abbrev FX.p_start (x : FX) : Int32 := x.2.2.2.2.2.2.1
abbrev FX.p_end (x : FX) : Int32 := x.2.2.2.2.2.2.2.1
abbrev FX.p_kind (x : FX) : Int32 := x.2.2.2.2.2.2.2.2.1
abbrev FX.p_value (x : FX) : Int32 := x.2.2.2.2.2.2.2.2.2.1
abbrev FX.p_error (x : FX) : Int32 := x.2.2.2.2.2.2.2.2.2.2.1
abbrev FX.p_errorAt (x : FX) : Int32 := x.2.2.2.2.2.2.2.2.2.2.2.1
abbrev FX.p_d_time (x : FX) : Int32 := x.2.2.2.2.2.2.2.2.2.2.2.2.1
abbrev FX.p_d_tolerance (x : FX) : Int32 := x.2.2.2.2.2.2.2.2.2.2.2.2.2.1
abbrev FX.p_d_seed (x : FX) : Int32 := x.2.2.2.2.2.2.2.2.2.2.2.2.2.2.1
abbrev FX.p_d_madeTickets (x : FX) : Int32 := x.2.2.2.2.2.2.2.2.2.2.2.2.2.2.2.1
abbrev FX.p_d_cheesesOfText (x : FX) : Int32 := x.2.2.2.2.2.2.2.2.2.2.2.2.2.2.2.2.1
abbrev FX.p_d_R_rows (x : FX) : Int32 := x.2.2.2.2.2.2.2.2.2.2.2.2.2.2.2.2.2.1
abbrev FX.p_d_R_cells (x : FX) : Nat → Int32 := x.2.2.2.2.2.2.2.2.2.2.2.2.2.2.2.2.2.2.1
abbrev FX.p_d_U_rows (x : FX) : Int32 := x.2.2.2.2.2.2.2.2.2.2.2.2.2.2.2.2.2.2.2.1
abbrev FX.p_d_U_cells (x : FX) : Nat → Int32 := x.2.2.2.2.2.2.2.2.2.2.2.2.2.2.2.2.2.2.2.2.1
abbrev FX.p_d_S_rows (x : FX) : Int32 := x.2.2.2.2.2.2.2.2.2.2.2.2.2.2.2.2.2.2.2.2.2.1
abbrev FX.p_d_S_cells (x : FX) : Nat → Int32 := x.2.2.2.2.2.2.2.2.2.2.2.2.2.2.2.2.2.2.2.2.2.2.1
abbrev FX.p_d_T_rows (x : FX) : Int32 := x.2.2.2.2.2.2.2.2.2.2.2.2.2.2.2.2.2.2.2.2.2.2.2.1
abbrev FX.p_d_T_cells (x : FX) : Nat → Int32 := x.2.2.2.2.2.2.2.2.2.2.2.2.2.2.2.2.2.2.2.2.2.2.2.2.1
abbrev FX.p_d_E_rows (x : FX) : Int32 := x.2.2.2.2.2.2.2.2.2.2.2.2.2.2.2.2.2.2.2.2.2.2.2.2.2.1
abbrev FX.p_d_E_cells (x : FX) : Nat → Int32 := x.2.2.2.2.2.2.2.2.2.2.2.2.2.2.2.2.2.2.2.2.2.2.2.2.2.2.1
abbrev FX.s_time (x : FX) : Int32 := x.2.2.2.2.2.2.2.2.2.2.2.2.2.2.2.2.2.2.2.2.2.2.2.2.2.2.2.1
abbrev FX.s_tolerance (x : FX) : Int32 := x.2.2.2.2.2.2.2.2.2.2.2.2.2.2.2.2.2.2.2.2.2.2.2.2.2.2.2.2.1
abbrev FX.s_seed (x : FX) : Int32 := x.2.2.2.2.2.2.2.2.2.2.2.2.2.2.2.2.2.2.2.2.2.2.2.2.2.2.2.2.2.1
abbrev FX.s_madeTickets (x : FX) : Int32 := x.2.2.2.2.2.2.2.2.2.2.2.2.2.2.2.2.2.2.2.2.2.2.2.2.2.2.2.2.2.2.1
abbrev FX.s_cheesesOfText (x : FX) : Int32 := x.2.2.2.2.2.2.2.2.2.2.2.2.2.2.2.2.2.2.2.2.2.2.2.2.2.2.2.2.2.2.2.1
abbrev FX.s_R_rows (x : FX) : Int32 := x.2.2.2.2.2.2.2.2.2.2.2.2.2.2.2.2.2.2.2.2.2.2.2.2.2.2.2.2.2.2.2.2.1
abbrev FX.s_R_cells (x : FX) : Nat → Int32 := x.2.2.2.2.2.2.2.2.2.2.2.2.2.2.2.2.2.2.2.2.2.2.2.2.2.2.2.2.2.2.2.2.2.1
abbrev FX.s_U_rows (x : FX) : Int32 := x.2.2.2.2.2.2.2.2.2.2.2.2.2.2.2.2.2.2.2.2.2.2.2.2.2.2.2.2.2.2.2.2.2.2.1
abbrev FX.s_U_cells (x : FX) : Nat → Int32 := x.2.2.2.2.2.2.2.2.2.2.2.2.2.2.2.2.2.2.2.2.2.2.2.2.2.2.2.2.2.2.2.2.2.2.2.1
abbrev FX.s_S_rows (x : FX) : Int32 := x.2.2.2.2.2.2.2.2.2.2.2.2.2.2.2.2.2.2.2.2.2.2.2.2.2.2.2.2.2.2.2.2.2.2.2.2.1
abbrev FX.s_S_cells (x : FX) : Nat → Int32 := x.2.2.2.2.2.2.2.2.2.2.2.2.2.2.2.2.2.2.2.2.2.2.2.2.2.2.2.2.2.2.2.2.2.2.2.2.2.1
abbrev FX.s_T_rows (x : FX) : Int32 := x.2.2.2.2.2.2.2.2.2.2.2.2.2.2.2.2.2.2.2.2.2.2.2.2.2.2.2.2.2.2.2.2.2.2.2.2.2.2.1
abbrev FX.s_T_cells (x : FX) : Nat → Int32 := x.2.2.2.2.2.2.2.2.2.2.2.2.2.2.2.2.2.2.2.2.2.2.2.2.2.2.2.2.2.2.2.2.2.2.2.2.2.2.2.1
abbrev FX.s_E_rows (x : FX) : Int32 := x.2.2.2.2.2.2.2.2.2.2.2.2.2.2.2.2.2.2.2.2.2.2.2.2.2.2.2.2.2.2.2.2.2.2.2.2.2.2.2.2.1
abbrev FX.s_E_cells (x : FX) : Nat → Int32 := x.2.2.2.2.2.2.2.2.2.2.2.2.2.2.2.2.2.2.2.2.2.2.2.2.2.2.2.2.2.2.2.2.2.2.2.2.2.2.2.2.2.1
abbrev FX.sl (x : FX) : Nat → Option SV := x.2.2.2.2.2.2.2.2.2.2.2.2.2.2.2.2.2.2.2.2.2.2.2.2.2.2.2.2.2.2.2.2.2.2.2.2.2.2.2.2.2.2.1
abbrev FX.pa (x : FX) : Nat → Option SV := x.2.2.2.2.2.2.2.2.2.2.2.2.2.2.2.2.2.2.2.2.2.2.2.2.2.2.2.2.2.2.2.2.2.2.2.2.2.2.2.2.2.2.2
abbrev wC (ad : Nat → Nat) (c9 : Nat → ClassId) (x : FX) (asl apa : Nat → Nat → Nat) : va_W := wX11 ad c9 (FX.nextPast x) (FX.pastCount x) (FX.i_count x) (FX.i_cells x) (FX.o_count x) (FX.o_cells x) (FX.p_start x) (FX.p_end x) (FX.p_kind x) (FX.p_value x) (FX.p_error x) (FX.p_errorAt x) (FX.p_d_time x) (FX.p_d_tolerance x) (FX.p_d_seed x) (FX.p_d_madeTickets x) (FX.p_d_cheesesOfText x) (FX.p_d_R_rows x) (FX.p_d_R_cells x) (FX.p_d_U_rows x) (FX.p_d_U_cells x) (FX.p_d_S_rows x) (FX.p_d_S_cells x) (FX.p_d_T_rows x) (FX.p_d_T_cells x) (FX.p_d_E_rows x) (FX.p_d_E_cells x) (FX.s_time x) (FX.s_tolerance x) (FX.s_seed x) (FX.s_madeTickets x) (FX.s_cheesesOfText x) (FX.s_R_rows x) (FX.s_R_cells x) (FX.s_U_rows x) (FX.s_U_cells x) (FX.s_S_rows x) (FX.s_S_cells x) (FX.s_T_rows x) (FX.s_T_cells x) (FX.s_E_rows x) (FX.s_E_cells x) (FX.sl x) asl (FX.pa x) apa
abbrev wCF (c9 : Nat → ClassId) (x : FX) (asl apa : Nat → Nat → Nat) (F0 : va_W) : va_W := optA c9 (List.range 8) (FX.pa x) apa ++ (optA c9 (List.range 2) (FX.sl x) asl ++ F0)
section VY
variable {p : Program} {l : Launch} {e : Env} {R : Room} {s : State} {m : MethodId} {args : Array Value} {below : List Frame} {meth : Method} {c : Code} {cc : ByteArray} {nL : Nat} {ret : Option FieldType} {own : String} {Ts : List Cond} {D : va_G} {tys : List (ClassId × FieldType)} {G : (Nat → Prop) → State → Heap → Prop} {A : Nat → Prop} {F : va_W} {cells slots : Nat} {Q : State → Prop} {ws : va_W} {pc : Nat} {lv : List (Nat × Value)} {st : List Value}
theorem v_tsw (X : vX p s m args meth c cc nL ret own Ts D tys G A) {dflt lo hi : Int} {offs : Array Int} {len : Nat} {x : Int32} {off : Int} {tgt : Nat} (d : decode cc pc = .ok (.tableswitch dflt lo hi offs, len)) (h1 : ¬ x.toInt < lo) (h2 : ¬ hi < x.toInt) (ho : offs[(x.toInt - lo).toNat]? = some off) (ht : (pc : Int) + off = (tgt : Int)) (K : vW p l e R s m args below meth c nL D A F cells slots Q ws tgt lv st) : vW p l e R s m args below meth c nL D A F cells slots Q ws pc lv (.int x :: st) :=
  fun H locs ls hP hD hS hl => lv_tableIn X.1 X.2.1 d h1 h2 ho ht (K H locs ls hP hD hS hl)
theorem v_tswD (X : vX p s m args meth c cc nL ret own Ts D tys G A) {dflt lo hi : Int} {offs : Array Int} {len : Nat} {x : Int32} {tgt : Nat} (d : decode cc pc = .ok (.tableswitch dflt lo hi offs, len)) (h : x.toInt < lo ∨ hi < x.toInt) (ht : (pc : Int) + dflt = (tgt : Int)) (K : vW p l e R s m args below meth c nL D A F cells slots Q ws tgt lv st) : vW p l e R s m args below meth c nL D A F cells slots Q ws pc lv (.int x :: st) :=
  fun H locs ls hP hD hS hl => lv_tableOut X.1 X.2.1 d h ht (K H locs ls hP hD hS hl)
theorem v_all (K : vW p l e R s m args below meth c nL D A [] cells slots Q (ws ++ F) pc lv st) : vW p l e R s m args below meth c nL D A F cells slots Q ws pc lv st := fun H locs ls hP hD hS hl => K H locs ls (by rw [List.append_nil]; exact hP) (by rw [List.append_nil]; exact hD) hS hl
theorem v_drop {w9 : va_W} (K : vW p l e R s m args below meth c nL D A F cells slots Q ws pc lv st) : vW p l e R s m args below meth c nL D A F cells slots Q (ws ++ w9) pc lv st := v_perm (F' := F ++ w9) (by rw [List.append_assoc]; exact List.Perm.append_left _ List.perm_append_comm) (v_dropF K)
end VY
theorem wy_0 : Cond.methodLink RL 8 yJ0_length_8abf5 ∈ Wg := t5_in (List.mem_of_getElem? (i := 200) rfl) rfl
theorem wy_1 : Cond.instanceMethod yJ0_length_8abf5 ∈ Wg := t1_in (List.mem_of_getElem? (i := 230) rfl) rfl
theorem wy_2 : Cond.selects RJ0 yJ0_length_8abf5 yJ0_length_8abf5 ∈ Wg := t1_in (List.mem_of_getElem? (i := 231) rfl) rfl
theorem wy_3 : Cond.initialized RJ0 ∈ Wg := t1_in (List.mem_of_getElem? (i := 13) rfl) rfl
theorem wy_4 : Cond.code yJ0_length_8abf5 cJ0_length_8abf5 1 (some .int) ∈ Wg := t1_in (List.mem_of_getElem? (i := 232) rfl) rfl
theorem wy_5 : Cond.methodLink RL 14 yJ0_charAt_5068e ∈ Wg := t5_in (List.mem_of_getElem? (i := 201) rfl) rfl
theorem wy_6 : Cond.instanceMethod yJ0_charAt_5068e ∈ Wg := t2_in (List.mem_of_getElem? (i := 0) rfl) rfl
theorem wy_7 : Cond.selects RJ0 yJ0_charAt_5068e yJ0_charAt_5068e ∈ Wg := t2_in (List.mem_of_getElem? (i := 1) rfl) rfl
theorem wy_8 : Cond.code yJ0_charAt_5068e cJ0_charAt_5068e 2 (some .char) ∈ Wg := t2_in (List.mem_of_getElem? (i := 2) rfl) rfl
theorem wy_9 : Cond.arrayClass .int ∈ Wg := t1_in (List.mem_of_getElem? (i := 57) rfl) rfl
theorem wy_10 : Cond.methodLink RL 18 yX11_appendInput ∈ Wg := t5_in (List.mem_of_getElem? (i := 202) rfl) rfl
theorem wy_11 : Cond.instanceMethod yX11_appendInput ∈ Wg := t5_in (List.mem_of_getElem? (i := 203) rfl) rfl
theorem wy_12 : Cond.selects RX11 yX11_appendInput yX11_appendInput ∈ Wg := t5_in (List.mem_of_getElem? (i := 204) rfl) rfl
theorem wy_13 : Cond.initialized RX11 ∈ Wg := t1_in (List.mem_of_getElem? (i := 1) rfl) rfl
theorem wy_14 : Cond.code yX11_appendInput cX11_appendInput 6 (some .int) ∈ Wg := t5_in (List.mem_of_getElem? (i := 205) rfl) rfl
theorem wy_15 : Cond.methodLink RL 24 yX11_truncateInput ∈ Wg := t5_in (List.mem_of_getElem? (i := 230) rfl) rfl
theorem wy_16 : Cond.instanceMethod yX11_truncateInput ∈ Wg := t5_in (List.mem_of_getElem? (i := 231) rfl) rfl
theorem wy_17 : Cond.selects RX11 yX11_truncateInput yX11_truncateInput ∈ Wg := t5_in (List.mem_of_getElem? (i := 232) rfl) rfl
theorem wy_18 : Cond.code yX11_truncateInput cX11_truncateInput 2 (some .int) ∈ Wg := t5_in (List.mem_of_getElem? (i := 233) rfl) rfl

theorem perm_in1 {a b : va_W} {x : Nat × va_E} : ([x] ++ (a ++ b)).Perm (a ++ (x :: b)) := by
  show (x :: (a ++ b)).Perm (a ++ (x :: b))
  exact List.perm_middle.symm
theorem perm_out1 {a b : va_W} {x : Nat × va_E} : (a ++ (x :: b)).Perm ([] ++ ((a ++ b) ++ [x])) := List.perm_middle.trans (List.perm_append_comm (l₁ := [x]))
/-- letter j of a text that is followed by spaces -/
def ltr (M : List Nat) (j : Nat) : Int32 := if j < M.length then nI (M.getD j 0) else 32
/-- the array of five behind k letters of the block that begins at b -/
def fvA (M : List Nat) (b : Nat) : Nat → (Nat → Int32)
  | 0 => fun _ => 0
  | k + 1 => upd (fvA M b k) (k / 4) ((fvA M b k (k / 4) <<< (8 &&& 31)) ||| ltr M (b + k))
/-- what the class's input is behind t blocks of the text -/
def saysR (M : List Nat) (x : FX) (IC : Nat → Int32) (IX : Nat → Nat → Int32) (n : Nat) (c1 : Int32) : Prop :=
  IC 0 = x.i_count ∧ IX 0 = x.i_cells ∧ 20 * n < M.length + 20 ∧ M.length ≤ 20 * n ∧ (∀ t, t < n → ∃ r, f_X11_appendInput (IC t) (IX t) (fvA M (20 * t) 20 0) (fvA M (20 * t) 20 1) (fvA M (20 * t) 20 2) (fvA M (20 * t) 20 3) (fvA M (20 * t) 20 4) = some (0, r, IC (t + 1), IX (t + 1))) ∧ ∃ r, f_X11_truncateInput (IC n) (nI M.length) = some (0, r, c1)
theorem wr_nI9 {f : Nat → Int32} {n k : Nat} {v : Int32} (hk : k < n) (hn : n < 2 ^ 31) : wr f n (nI k) v = some (upd f k v) := by
  unfold wr
  rw [if_neg (vp_in_nI hk hn), nI_clamp (by omega)]
theorem rd_nI9 {f : Nat → Int32} {n k : Nat} (hk : k < n) (hn : n < 2 ^ 31) : rd f n (nI k) = some (f k) := by
  unfold rd
  rw [if_neg (vp_in_nI hk hn), nI_clamp (by omega)]
theorem chv_lt {M : List Nat} (hM : ∀ x ∈ M, x < 128) {j : Nat} (hj : j < M.length) : chv (fun j => nI (M.getD j 0)) j = ltr M j := by
  unfold chv ltr
  rw [if_pos hj]
  have h1 : M.getD j 0 < 128 := by
    rw [List.getD_eq_getElem?_getD, List.getElem?_eq_getElem hj]
    exact hM _ (List.getElem_mem hj)
  show ((nI (M.getD j 0) &&& 255).toUInt32 % 65536).toInt32 = nI (M.getD j 0)
  generalize M.getD j 0 = c at h1
  have h : ∀ c, c < 128 → ((nI c &&& 255).toUInt32 % 65536).toInt32 = nI c := by decide +kernel
  exact h c h1
set_option maxRecDepth 100000 in
set_option maxHeartbeats 4000000 in
theorem s_letter {p : Program} {l : Launch} {e : Env} {s : State} {m : MethodId} {args : Array Value} {below : List Frame} {meth : Method} {c : Code} {A : Nat → Prop} {Q : State → Prop} {G : (Nat → Prop) → State → Heap → Prop} (hG : vG G) (D : va_G) (c9 : Nat → ClassId) {sk sv : Nat → Nat} (hGU : ∀ (A : Nat → Prop) (U : State) (H : Heap), G A U H → vU sk sv A U H) {q9 t9 : Nat} {M : List Nat} (hGT : ∀ (A : Nat → Prop) (U : State) (H : Heap), G A U H → vStr q9 t9 M.length (fun j => nI (M.getD j 0)) A U H) (hM : ∀ x ∈ M, x < 128) (hML : M.length ≤ 300) (X : vX p s m args meth c cL_says 5 none RL (wq yL_says cL_says 5 none) D (tyA c9) G A) {F : va_W} {a od b k cells slots : Nat} (hb : b < 400) (hk : k < 20) (hcc : cells ≤ 40) (hss : slots ≤ 200) (K : vW p l e { frames := 7, cells := 40, slots := 200, locals := 141 } s m args below meth c 5 D A F cells slots Q [(a, .inl (c9 0, 5, .inl (fvA M b (k + 1))))] 17 [(4, .int (nI (k + 1))), (3, .ref a), (2, .int (nI b)), (1, .ref q9), (0, .ref od)] []) : vW p l e { frames := 7, cells := 40, slots := 200, locals := 141 } s m args below meth c 5 D A F cells slots Q [(a, .inl (c9 0, 5, .inl (fvA M b k)))] 17 [(4, .int (nI k)), (3, .ref a), (2, .int (nI b)), (1, .ref q9), (0, .ref od)] [] := by
  have T := hGT A s s.heap X.2.2.2.2.2.2.2.2.2.2
  refine v_iload X dL_says_17 0 rfl 19 rfl ?_
  refine v_bipush X dL_says_19 bp_20 21 rfl ?_
  refine v_icmp_ge X (tgt := 70) dL_says_21 rfl 24 rfl (a := none) (b := some ()) (o := ()) (if_neg (show ¬ nI 20 ≤ nI k from nI_ge hk (by decide))) (fun h => nomatch h) (fun _ => ?_)
  refine v_aload_n X dL_says_24 1 rfl rfl 25 rfl ?_
  refine v_iload X dL_says_25 0 rfl 27 rfl ?_
  refine v_iconst X dL_says_27 ic_4 28 rfl ?_
  refine v_idiv X dL_says_28 (by decide) 29 rfl ?_
  rw [show nI k / 4 = nI (k / 4) from pk_div (by omega) (by decide) (by decide)]
  refine v_aload_n X dL_says_29 1 rfl rfl 30 rfl ?_
  refine v_iload X dL_says_30 0 rfl 32 rfl ?_
  refine v_iconst X dL_says_32 ic_4 33 rfl ?_
  refine v_idiv X dL_says_33 (by decide) 34 rfl ?_
  rw [show nI k / 4 = nI (k / 4) from pk_div (by omega) (by decide) (by decide)]
  refine v_iald X dL_says_34 0 0 rfl rfl (rd_nI9 (show k / 4 < 5 by omega) (by decide)) 35 rfl ?_
  refine v_bipush X dL_says_35 bp_8 37 rfl ?_
  refine v_ishl X dL_says_37 38 rfl ?_
  refine v_iload_n X dL_says_38 2 rfl rfl 39 rfl ?_
  refine v_iload X dL_says_39 0 rfl 41 rfl ?_
  refine v_iadd X dL_says_41 42 rfl ?_
  rw [nI_add b k]
  refine v_aload_n X dL_says_42 3 rfl rfl 43 rfl ?_
  refine v_callEi X (C := RJ0) (As := []) (rest := [.int (nI (b + k)), .int ((fvA M b k (k / 4)) <<< (8 &&& 31)), .int (nI (k / 4)), .ref a]) (cs_J0_length l hG D c9 hGU hGT (by omega)) 0 (gV wy_0 wy_1 wy_2 wy_3 wy_4) rfl rfl rfl ⟨rfl, by decide +kernel⟩ ⟨Nat.le_of_ble_eq_true rfl, Nat.le_of_ble_eq_true rfl⟩ (fun H locs hS => vs_recv T hS) rfl rfl (Nat.le_of_ble_eq_true rfl) ⟨(by first | exact Nat.le_of_ble_eq_true rfl | omega | (dsimp only; omega)), (by first | exact Nat.le_of_ble_eq_true rfl | omega | (dsimp only; omega))⟩ dL_says_43 46 rfl ?_
  rw [show Int32.ofNat M.length = nI M.length from rfl]
  by_cases hlt : b + k < M.length
  · refine v_icmp_ge X (tgt := 60) dL_says_46 rfl 49 rfl (a := none) (b := some ()) (o := ()) (if_neg (nI_ge hlt (by omega))) (fun h => nomatch h) (fun _ => ?_)
    refine v_aload_n X dL_says_49 3 rfl rfl 50 rfl ?_
    refine v_iload_n X dL_says_50 2 rfl rfl 51 rfl ?_
    refine v_iload X dL_says_51 0 rfl 53 rfl ?_
    refine v_iadd X dL_says_53 54 rfl ?_
    rw [nI_add b k]
    refine v_callEi X (C := RJ0) (As := [.int (nI (b + k))]) (rest := [.int ((fvA M b k (k / 4)) <<< (8 &&& 31)), .int (nI (k / 4)), .ref a]) (cs_J0_charAt l hG D c9 hGU hGT (by omega) (nI_pos (by omega)) (by rw [nI_clamp (by omega)]; exact hlt)) 1 (gV wy_5 wy_6 wy_7 wy_3 wy_8) rfl rfl rfl ⟨rfl, by decide +kernel⟩ ⟨Nat.le_of_ble_eq_true rfl, Nat.le_of_ble_eq_true rfl⟩ (fun H locs hS => vs_recv T hS) rfl rfl (Nat.le_of_ble_eq_true rfl) ⟨(by first | exact Nat.le_of_ble_eq_true rfl | omega | (dsimp only; omega)), (by first | exact Nat.le_of_ble_eq_true rfl | omega | (dsimp only; omega))⟩ dL_says_54 57 rfl ?_
    rw [nI_clamp (show b + k < 2 ^ 31 by omega), chv_lt hM hlt]
    refine v_goto X (tgt := 62) dL_says_57 rfl ?_
    refine v_ior X dL_says_62 63 rfl ?_
    refine v_iast X (g := fvA M b (k + 1)) (ws' := [(a, .inl (c9 0, 5, .inl (fvA M b (k + 1))))]) dL_says_63 0 0 rfl rfl (wr_nI9 (show k / 4 < 5 by omega) (by decide)) rfl 64 rfl ?_
    refine v_iinc X (lv' := [(4, .int ((nI k) + 1)), (3, .ref a), (2, .int (nI b)), (1, .ref q9), (0, .ref od)]) dL_says_64 0 rfl ic_1 (by decide) rfl 67 rfl ?_
    refine v_goto X (tgt := 17) dL_says_67 rfl ?_
    refine v_eq (lv2 := [(4, .int (nI (k + 1))), (3, .ref a), (2, .int (nI b)), (1, .ref q9), (0, .ref od)]) rfl rfl (by rw [show nI k + 1 = nI (k + 1) from nI_1 _]) rfl ?_
    exact K
  · refine v_icmp_ge X (tgt := 60) dL_says_46 rfl 49 rfl (a := some ()) (b := none) (o := ()) (if_pos (nI_le (by omega) (by omega))) (fun _ => ?_) (fun h => nomatch h)
    refine v_bipush X dL_says_60 bp_32 62 rfl ?_
    rw [show (32 : Int32) = ltr M (b + k) from (if_neg hlt).symm]
    refine v_ior X dL_says_62 63 rfl ?_
    refine v_iast X (g := fvA M b (k + 1)) (ws' := [(a, .inl (c9 0, 5, .inl (fvA M b (k + 1))))]) dL_says_63 0 0 rfl rfl (wr_nI9 (show k / 4 < 5 by omega) (by decide)) rfl 64 rfl ?_
    refine v_iinc X (lv' := [(4, .int ((nI k) + 1)), (3, .ref a), (2, .int (nI b)), (1, .ref q9), (0, .ref od)]) dL_says_64 0 rfl ic_1 (by decide) rfl 67 rfl ?_
    refine v_goto X (tgt := 17) dL_says_67 rfl ?_
    refine v_eq (lv2 := [(4, .int (nI (k + 1))), (3, .ref a), (2, .int (nI b)), (1, .ref q9), (0, .ref od)]) rfl rfl (by rw [show nI k + 1 = nI (k + 1) from nI_1 _]) rfl ?_
    exact K
theorem s_letters {p : Program} {l : Launch} {e : Env} {s : State} {m : MethodId} {args : Array Value} {below : List Frame} {meth : Method} {c : Code} {A : Nat → Prop} {Q : State → Prop} {G : (Nat → Prop) → State → Heap → Prop} (hG : vG G) (D : va_G) (c9 : Nat → ClassId) {sk sv : Nat → Nat} (hGU : ∀ (A : Nat → Prop) (U : State) (H : Heap), G A U H → vU sk sv A U H) {q9 t9 : Nat} {M : List Nat} (hGT : ∀ (A : Nat → Prop) (U : State) (H : Heap), G A U H → vStr q9 t9 M.length (fun j => nI (M.getD j 0)) A U H) (hM : ∀ x ∈ M, x < 128) (hML : M.length ≤ 300) (X : vX p s m args meth c cL_says 5 none RL (wq yL_says cL_says 5 none) D (tyA c9) G A) {F : va_W} {a od b cells slots : Nat} (hb : b < 400) (hcc : cells ≤ 40) (hss : slots ≤ 200) (K : vW p l e { frames := 7, cells := 40, slots := 200, locals := 141 } s m args below meth c 5 D A F cells slots Q [(a, .inl (c9 0, 5, .inl (fvA M b 20)))] 17 [(4, .int (nI 20)), (3, .ref a), (2, .int (nI b)), (1, .ref q9), (0, .ref od)] []) : ∀ n k, k + n = 20 → vW p l e { frames := 7, cells := 40, slots := 200, locals := 141 } s m args below meth c 5 D A F cells slots Q [(a, .inl (c9 0, 5, .inl (fvA M b k)))] 17 [(4, .int (nI k)), (3, .ref a), (2, .int (nI b)), (1, .ref q9), (0, .ref od)] [] := by
  intro n
  induction n with
  | zero => intro k hk; rw [show k = 20 by omega]; exact K
  | succ n ih => intro k hk; exact s_letter hG D c9 hGU hGT hM hML X hb (by omega) hcc hss (ih (k + 1) (by omega))
abbrev xin (x : FX) (ic : Int32) (ix : Nat → Int32) : FX := (FX.nextPast x, FX.pastCount x, ic, ix, FX.o_count x, FX.o_cells x, FX.p_start x, FX.p_end x, FX.p_kind x, FX.p_value x, FX.p_error x, FX.p_errorAt x, FX.p_d_time x, FX.p_d_tolerance x, FX.p_d_seed x, FX.p_d_madeTickets x, FX.p_d_cheesesOfText x, FX.p_d_R_rows x, FX.p_d_R_cells x, FX.p_d_U_rows x, FX.p_d_U_cells x, FX.p_d_S_rows x, FX.p_d_S_cells x, FX.p_d_T_rows x, FX.p_d_T_cells x, FX.p_d_E_rows x, FX.p_d_E_cells x, FX.s_time x, FX.s_tolerance x, FX.s_seed x, FX.s_madeTickets x, FX.s_cheesesOfText x, FX.s_R_rows x, FX.s_R_cells x, FX.s_U_rows x, FX.s_U_cells x, FX.s_S_rows x, FX.s_S_cells x, FX.s_T_rows x, FX.s_T_cells x, FX.s_E_rows x, FX.s_E_cells x, FX.sl x, FX.pa x)
set_option maxRecDepth 100000 in
set_option maxHeartbeats 4000000 in
theorem s_turn {p : Program} {l : Launch} {e : Env} {s : State} {m : MethodId} {args : Array Value} {below : List Frame} {meth : Method} {c : Code} {A : Nat → Prop} {Q : State → Prop} {G : (Nat → Prop) → State → Heap → Prop} (hG : vG G) (D : va_G) (c9 : Nat → ClassId) {sk sv : Nat → Nat} (hGU : ∀ (A : Nat → Prop) (U : State) (H : Heap), G A U H → vU sk sv A U H) (hl0 : l.stackTraces = false) {q9 t9 : Nat} {M : List Nat} (hGT : ∀ (A : Nat → Prop) (U : State) (H : Heap), G A U H → vStr q9 t9 M.length (fun j => nI (M.getD j 0)) A U H) (hM : ∀ x ∈ M, x < 128) (hML : M.length ≤ 300) (X : vX p s m args meth c cL_says 5 none RL (wq yL_says cL_says 5 none) D (tyA c9) G A) {ad : Nat → Nat} {x : FX} {asl apa : Nat → Nat → Nat} {F9 : va_W} {IC : Nat → Int32} {IX : Nat → Nat → Int32} {t cells slots : Nat} {r9 : Int32} (hlt : 20 * t < M.length) (hcc : cells ≤ 2 * t) (hss : slots ≤ 11 * t) (hr : f_X11_appendInput (IC t) (IX t) (fvA M (20 * t) 20 0) (fvA M (20 * t) 20 1) (fvA M (20 * t) 20 2) (fvA M (20 * t) 20 3) (fvA M (20 * t) 20 4) = some (0, r9, IC (t + 1), IX (t + 1))) (K : vW p l e { frames := 7, cells := 40, slots := 200, locals := 141 } s m args below meth c 5 D A (wC ad c9 (xin x (IC (t + 1)) (IX (t + 1))) asl apa ++ F9) (2 * (t + 1)) (11 * (t + 1)) Q [] 2 [(2, .int (nI (20 * (t + 1)))), (1, .ref q9), (0, .ref (ad 0))] []) : vW p l e { frames := 7, cells := 40, slots := 200, locals := 141 } s m args below meth c 5 D A (wC ad c9 (xin x (IC t) (IX t)) asl apa ++ F9) cells slots Q [] 2 [(2, .int (nI (20 * t))), (1, .ref q9), (0, .ref (ad 0))] [] := by
  have T := hGT A s s.heap X.2.2.2.2.2.2.2.2.2.2
  refine v_iload_n X dL_says_2 0 rfl rfl 3 rfl ?_
  refine v_aload_n X dL_says_3 1 rfl rfl 4 rfl ?_
  refine v_callEi X (C := RJ0) (As := []) (rest := [.int (nI (20 * t))]) (cs_J0_length l hG D c9 hGU hGT (by omega)) 0 (gV wy_0 wy_1 wy_2 wy_3 wy_4) rfl rfl rfl ⟨rfl, by decide +kernel⟩ ⟨Nat.le_of_ble_eq_true rfl, Nat.le_of_ble_eq_true rfl⟩ (fun H locs hS => vs_recv T hS) rfl rfl (Nat.le_of_ble_eq_true rfl) ⟨(by first | exact Nat.le_of_ble_eq_true rfl | omega | (dsimp only; omega)), (by first | exact Nat.le_of_ble_eq_true rfl | omega | (dsimp only; omega))⟩ dL_says_4 7 rfl ?_
  rw [show Int32.ofNat M.length = nI M.length from rfl]
  refine v_icmp_ge X (tgt := 96) dL_says_7 rfl 10 rfl (a := none) (b := some ()) (o := ()) (if_neg (nI_ge hlt (by omega))) (fun h => nomatch h) (fun _ => ?_)
  refine v_iconst X dL_says_10 ic_5 11 rfl ?_
  refine v_newa X (ty := .int) (N' := 5) (a0 := (5, .inl (fvA M (20 * t) 0))) dL_says_11 (mw wy_9) rfl 0 rfl (fun _ _ h1 h2 => Option.some.inj (h1.symm.trans h2)) (fun _ => rfl) (by decide) (by decide) (by decide) (by first | exact Nat.le_of_ble_eq_true rfl | omega | (dsimp only; omega)) (by first | exact Nat.le_of_ble_eq_true rfl | omega | (dsimp only; omega)) 13 rfl (fun a => ?_)
  refine v_astore_n X (lv' := [(3, .ref a), (2, .int (nI (20 * t))), (1, .ref q9), (0, .ref (ad 0))]) dL_says_13 rfl (by decide) rfl 14 rfl ?_
  refine v_iconst X dL_says_14 ic_0 15 rfl ?_
  refine v_istore X (lv' := [(4, .int 0), (3, .ref a), (2, .int (nI (20 * t))), (1, .ref q9), (0, .ref (ad 0))]) dL_says_15 (by decide) rfl 17 rfl ?_
  refine v_eq (ws2 := [(a, .inl (c9 0, 5, .inl (fvA M (20 * t) 0)))]) (lv2 := [(4, .int (nI 0)), (3, .ref a), (2, .int (nI (20 * t))), (1, .ref q9), (0, .ref (ad 0))]) rfl rfl rfl rfl ?_
  refine s_letters hG D c9 hGU hGT hM hML X (show 20 * t < 400 by omega) (show _ ≤ 40 by omega) (show _ ≤ 200 by omega) ?_ 20 0 rfl
  refine v_iload X dL_says_17 0 rfl 19 rfl ?_
  refine v_bipush X dL_says_19 bp_20 21 rfl ?_
  refine v_icmp_ge X (tgt := 70) dL_says_21 rfl 24 rfl (a := some ()) (b := none) (o := ()) (if_pos (show nI 20 ≤ nI 20 from nI_le (Nat.le_refl 20) (by decide))) (fun _ => ?_) (fun h => nomatch h)
  refine v_aload_n X dL_says_70 4 rfl rfl 71 rfl ?_
  refine v_aload_n X dL_says_71 1 rfl rfl 72 rfl ?_
  refine v_iconst X dL_says_72 ic_0 73 rfl ?_
  refine v_iald X dL_says_73 0 0 rfl rfl (rd_nI9 (f := fvA M (20 * t) 20) (k := 0) (show 0 < 5 by decide) (by decide)) 74 rfl ?_
  refine v_aload_n X dL_says_74 1 rfl rfl 75 rfl ?_
  refine v_iconst X dL_says_75 ic_1 76 rfl ?_
  refine v_iald X dL_says_76 0 0 rfl rfl (rd_nI9 (f := fvA M (20 * t) 20) (k := 1) (show 1 < 5 by decide) (by decide)) 77 rfl ?_
  refine v_aload_n X dL_says_77 1 rfl rfl 78 rfl ?_
  refine v_iconst X dL_says_78 ic_2 79 rfl ?_
  refine v_iald X dL_says_79 0 0 rfl rfl (rd_nI9 (f := fvA M (20 * t) 20) (k := 2) (show 2 < 5 by decide) (by decide)) 80 rfl ?_
  refine v_aload_n X dL_says_80 1 rfl rfl 81 rfl ?_
  refine v_iconst X dL_says_81 ic_3 82 rfl ?_
  refine v_iald X dL_says_82 0 0 rfl rfl (rd_nI9 (f := fvA M (20 * t) 20) (k := 3) (show 3 < 5 by decide) (by decide)) 83 rfl ?_
  refine v_aload_n X dL_says_83 1 rfl rfl 84 rfl ?_
  refine v_iconst X dL_says_84 ic_4 85 rfl ?_
  refine v_iald X dL_says_85 0 0 rfl rfl (rd_nI9 (f := fvA M (20 * t) 20) (k := 4) (show 4 < 5 by decide) (by decide)) 86 rfl ?_
  refine v_perm (ws' := wC ad c9 (xin x (IC t) (IX t)) asl apa) (F' := (a, .inl (c9 0, 5, .inl (fvA M (20 * t) 20))) :: F9) perm_in1 ?_
  refine v_tcallVi X (S := Unit) (C := RX11) (ci := 12) (T := TX11) (As := [.int (fvA M (20 * t) 20 0), .int (fvA M (20 * t) 20 1), .int (fvA M (20 * t) 20 2), .int (fvA M (20 * t) 20 3), .int (fvA M (20 * t) 20 4)]) (rest := []) (ws' := fun _ => wC ad c9 (xin x (IC (t + 1)) (IX (t + 1))) asl apa) (F' := fun _ => (a, .inl (c9 0, 5, .inl (fvA M (20 * t) 20))) :: F9) (c_X11_appendInput l hG hl0 D c9 sk sv hGU ad (FX.nextPast (xin x (IC t) (IX t))) (FX.pastCount (xin x (IC t) (IX t))) (FX.i_count (xin x (IC t) (IX t))) (FX.i_cells (xin x (IC t) (IX t))) (FX.o_count (xin x (IC t) (IX t))) (FX.o_cells (xin x (IC t) (IX t))) (FX.p_start (xin x (IC t) (IX t))) (FX.p_end (xin x (IC t) (IX t))) (FX.p_kind (xin x (IC t) (IX t))) (FX.p_value (xin x (IC t) (IX t))) (FX.p_error (xin x (IC t) (IX t))) (FX.p_errorAt (xin x (IC t) (IX t))) (FX.p_d_time (xin x (IC t) (IX t))) (FX.p_d_tolerance (xin x (IC t) (IX t))) (FX.p_d_seed (xin x (IC t) (IX t))) (FX.p_d_madeTickets (xin x (IC t) (IX t))) (FX.p_d_cheesesOfText (xin x (IC t) (IX t))) (FX.p_d_R_rows (xin x (IC t) (IX t))) (FX.p_d_R_cells (xin x (IC t) (IX t))) (FX.p_d_U_rows (xin x (IC t) (IX t))) (FX.p_d_U_cells (xin x (IC t) (IX t))) (FX.p_d_S_rows (xin x (IC t) (IX t))) (FX.p_d_S_cells (xin x (IC t) (IX t))) (FX.p_d_T_rows (xin x (IC t) (IX t))) (FX.p_d_T_cells (xin x (IC t) (IX t))) (FX.p_d_E_rows (xin x (IC t) (IX t))) (FX.p_d_E_cells (xin x (IC t) (IX t))) (FX.s_time (xin x (IC t) (IX t))) (FX.s_tolerance (xin x (IC t) (IX t))) (FX.s_seed (xin x (IC t) (IX t))) (FX.s_madeTickets (xin x (IC t) (IX t))) (FX.s_cheesesOfText (xin x (IC t) (IX t))) (FX.s_R_rows (xin x (IC t) (IX t))) (FX.s_R_cells (xin x (IC t) (IX t))) (FX.s_U_rows (xin x (IC t) (IX t))) (FX.s_U_cells (xin x (IC t) (IX t))) (FX.s_S_rows (xin x (IC t) (IX t))) (FX.s_S_cells (xin x (IC t) (IX t))) (FX.s_T_rows (xin x (IC t) (IX t))) (FX.s_T_cells (xin x (IC t) (IX t))) (FX.s_E_rows (xin x (IC t) (IX t))) (FX.s_E_cells (xin x (IC t) (IX t))) (FX.sl (xin x (IC t) (IX t))) asl (FX.pa (xin x (IC t) (IX t))) apa _ _ _ _ _ (F := (a, .inl (c9 0, 5, .inl (fvA M (20 * t) 20))) :: F9) hr) 5 (gV wy_10 wy_11 wy_12 wy_13 wy_14) rfl rfl rfl ⟨rfl, pd_X11_appendInput⟩ ⟨Nat.le_of_ble_eq_true rfl, Nat.le_of_ble_eq_true rfl⟩ 0 rfl rfl rfl rfl (Nat.le_of_ble_eq_true rfl) ⟨(by first | exact Nat.le_of_ble_eq_true rfl | omega | (dsimp only; omega)), (by first | exact Nat.le_of_ble_eq_true rfl | omega | (dsimp only; omega))⟩ (fun _ => rfl) dL_says_86 89 rfl (fun _ _ _ => ?_) (fun hx => absurd rfl hx)
  refine v_pop X dL_says_89 rfl 90 rfl ?_
  refine v_iinc X (lv' := [(2, .int ((nI (20 * t)) + 20)), (4, .int (nI 20)), (3, .ref a), (1, .ref q9), (0, .ref (ad 0))]) dL_says_90 2 rfl ic_20 (by decide) rfl 93 rfl ?_
  refine v_goto X (tgt := 2) dL_says_93 rfl ?_
  refine v_perm (ws' := []) (F' := (wC ad c9 (xin x (IC (t + 1)) (IX (t + 1))) asl apa ++ F9) ++ [(a, .inl (c9 0, 5, .inl (fvA M (20 * t) 20)))]) ?_ ?_
  · exact perm_out1
  refine v_dropF ?_
  refine v_sub (lv' := [(2, .int ((nI (20 * t)) + 20)), (1, .ref q9), (0, .ref (ad 0))]) [0, 3, 4] rfl ?_
  refine v_eq (lv2 := [(2, .int (nI (20 * (t + 1)))), (1, .ref q9), (0, .ref (ad 0))]) rfl rfl (by rw [show nI (20 * t) + 20 = nI (20 * (t + 1)) from (nI_add (20 * t) 20).trans (by rw [Nat.mul_succ])]) rfl ?_
  refine v_widen (by omega) (by omega) K
set_option maxRecDepth 100000 in
set_option maxHeartbeats 4000000 in
theorem c_says (l : Launch) {G : (Nat → Prop) → State → Heap → Prop} (hG : vG G) (D : va_G) (c9 : Nat → ClassId) {sk sv : Nat → Nat} (hGU : ∀ (A : Nat → Prop) (U : State) (H : Heap), G A U H → vU sk sv A U H) {q9 t9 : Nat} {M : List Nat} (hGT : ∀ (A : Nat → Prop) (U : State) (H : Heap), G A U H → vStr q9 t9 M.length (fun j => nI (M.getD j 0)) A U H) (hM : ∀ x ∈ M, x < 128) (hML : M.length ≤ 300) (hl0 : l.stackTraces = false) {ad : Nat → Nat} {x : FX} {asl apa : Nat → Nat → Nat} {F9 : va_W} {IC : Nat → Int32} {IX : Nat → Nat → Int32} {n : Nat} {c1 : Int32} (hS9 : saysR M x IC IX n c1) : mN (S := Unit) l yL_says (wq yL_says cL_says 5 none) { frames := 7, cells := 40, slots := 200, locals := 141 } G D (tyA c9) [.ref (ad 0), .ref q9] [] (wC ad c9 x asl apa ++ F9) 40 200 (fun _ => True) (fun _ => wC ad c9 (xin x c1 (IX n)) asl apa ++ F9) := by
  refine mN_of hG (cc := cL_says) (maxL := 5) (by decide) rfl (Nat.le_of_ble_eq_true rfl) ?_
  intro p e s m args below meth c A hnm X
  have X : vX p s m args meth c cL_says 5 none RL (wq yL_says cL_says 5 none) D (tyA c9) G A := X
  refine v_eq (lv2 := [(0, .ref (ad 0)), (1, .ref q9)]) rfl rfl rfl rfl ?_
  have T := hGT A s s.heap X.2.2.2.2.2.2.2.2.2.2
  obtain ⟨h1, h2, h3, h3b, h4, r9, hr⟩ := hS9
  refine v_sub (lv' := [(1, .ref q9), (0, .ref (ad 0))]) [1, 0] rfl ?_
  refine v_iconst X dL_says_0 ic_0 1 rfl ?_
  refine v_istore_n X (lv' := [(2, .int 0), (1, .ref q9), (0, .ref (ad 0))]) dL_says_1 rfl (by decide) rfl 2 rfl ?_
  rw [show wC ad c9 x asl apa = wC ad c9 (xin x (IC 0) (IX 0)) asl apa by rw [h1, h2]]
  have hloop : ∀ k9 t, t + k9 = n → vW p l e { frames := 7, cells := 40, slots := 200, locals := 141 } s m args below meth c 5 D A (wC ad c9 (xin x (IC t) (IX t)) asl apa ++ F9) (2 * t) (11 * t) (MQ below (eN D (tyA c9) A (fun (_ : Unit) => True) (fun _ => wC ad c9 (xin x c1 (IX n)) asl apa ++ F9)) args s 40 200 A) [] 2 [(2, .int (nI (20 * t))), (1, .ref q9), (0, .ref (ad 0))] [] := by
    intro k9
    induction k9 with
    | zero =>
      intro t ht
      obtain rfl : t = n := by omega
      have hge : M.length ≤ 20 * t := h3b
      refine v_iload_n X dL_says_2 0 rfl rfl 3 rfl ?_
      refine v_aload_n X dL_says_3 1 rfl rfl 4 rfl ?_
      refine v_callEi X (C := RJ0) (As := []) (rest := [.int (nI (20 * t))]) (cs_J0_length l hG D c9 hGU hGT (by omega)) 0 (gV wy_0 wy_1 wy_2 wy_3 wy_4) rfl rfl rfl ⟨rfl, by decide +kernel⟩ ⟨Nat.le_of_ble_eq_true rfl, Nat.le_of_ble_eq_true rfl⟩ (fun H locs hS => vs_recv T hS) rfl rfl (Nat.le_of_ble_eq_true rfl) ⟨(by first | exact Nat.le_of_ble_eq_true rfl | omega | (dsimp only; omega)), (by first | exact Nat.le_of_ble_eq_true rfl | omega | (dsimp only; omega))⟩ dL_says_4 7 rfl ?_
      rw [show Int32.ofNat M.length = nI M.length from rfl]
      refine v_icmp_ge X (tgt := 96) dL_says_7 rfl 10 rfl (a := some ()) (b := none) (o := ()) (if_pos (nI_le hge (by omega))) (fun _ => ?_) (fun h => nomatch h)
      refine v_aload_n X dL_says_96 2 rfl rfl 97 rfl ?_
      refine v_aload_n X dL_says_97 1 rfl rfl 98 rfl ?_
      refine v_callEi X (C := RJ0) (As := []) (rest := [.ref (ad 0)]) (cs_J0_length l hG D c9 hGU hGT (by omega)) 0 (gV wy_0 wy_1 wy_2 wy_3 wy_4) rfl rfl rfl ⟨rfl, by decide +kernel⟩ ⟨Nat.le_of_ble_eq_true rfl, Nat.le_of_ble_eq_true rfl⟩ (fun H locs hS => vs_recv T hS) rfl rfl (Nat.le_of_ble_eq_true rfl) ⟨(by first | exact Nat.le_of_ble_eq_true rfl | omega | (dsimp only; omega)), (by first | exact Nat.le_of_ble_eq_true rfl | omega | (dsimp only; omega))⟩ dL_says_98 101 rfl ?_
      rw [show Int32.ofNat M.length = nI M.length from rfl]
      refine v_perm (ws' := wC ad c9 (xin x (IC t) (IX t)) asl apa) (F' := F9) (List.Perm.refl _) ?_
      refine v_tcallVi X (S := Unit) (C := RX11) (ci := 12) (T := TX11) (As := [.int (nI M.length)]) (rest := []) (ws' := fun _ => wC ad c9 (xin x c1 (IX t)) asl apa) (F' := fun _ => F9) (c_X11_truncateInput l hG hl0 D c9 sk sv hGU ad (FX.nextPast (xin x (IC t) (IX t))) (FX.pastCount (xin x (IC t) (IX t))) (FX.i_count (xin x (IC t) (IX t))) (FX.i_cells (xin x (IC t) (IX t))) (FX.o_count (xin x (IC t) (IX t))) (FX.o_cells (xin x (IC t) (IX t))) (FX.p_start (xin x (IC t) (IX t))) (FX.p_end (xin x (IC t) (IX t))) (FX.p_kind (xin x (IC t) (IX t))) (FX.p_value (xin x (IC t) (IX t))) (FX.p_error (xin x (IC t) (IX t))) (FX.p_errorAt (xin x (IC t) (IX t))) (FX.p_d_time (xin x (IC t) (IX t))) (FX.p_d_tolerance (xin x (IC t) (IX t))) (FX.p_d_seed (xin x (IC t) (IX t))) (FX.p_d_madeTickets (xin x (IC t) (IX t))) (FX.p_d_cheesesOfText (xin x (IC t) (IX t))) (FX.p_d_R_rows (xin x (IC t) (IX t))) (FX.p_d_R_cells (xin x (IC t) (IX t))) (FX.p_d_U_rows (xin x (IC t) (IX t))) (FX.p_d_U_cells (xin x (IC t) (IX t))) (FX.p_d_S_rows (xin x (IC t) (IX t))) (FX.p_d_S_cells (xin x (IC t) (IX t))) (FX.p_d_T_rows (xin x (IC t) (IX t))) (FX.p_d_T_cells (xin x (IC t) (IX t))) (FX.p_d_E_rows (xin x (IC t) (IX t))) (FX.p_d_E_cells (xin x (IC t) (IX t))) (FX.s_time (xin x (IC t) (IX t))) (FX.s_tolerance (xin x (IC t) (IX t))) (FX.s_seed (xin x (IC t) (IX t))) (FX.s_madeTickets (xin x (IC t) (IX t))) (FX.s_cheesesOfText (xin x (IC t) (IX t))) (FX.s_R_rows (xin x (IC t) (IX t))) (FX.s_R_cells (xin x (IC t) (IX t))) (FX.s_U_rows (xin x (IC t) (IX t))) (FX.s_U_cells (xin x (IC t) (IX t))) (FX.s_S_rows (xin x (IC t) (IX t))) (FX.s_S_cells (xin x (IC t) (IX t))) (FX.s_T_rows (xin x (IC t) (IX t))) (FX.s_T_cells (xin x (IC t) (IX t))) (FX.s_E_rows (xin x (IC t) (IX t))) (FX.s_E_cells (xin x (IC t) (IX t))) (FX.sl (xin x (IC t) (IX t))) asl (FX.pa (xin x (IC t) (IX t))) apa _ (F := F9) hr) 1 (gV wy_15 wy_16 wy_17 wy_13 wy_18) rfl rfl rfl ⟨rfl, pd_X11_truncateInput⟩ ⟨Nat.le_of_ble_eq_true rfl, Nat.le_of_ble_eq_true rfl⟩ 0 rfl rfl rfl rfl (Nat.le_of_ble_eq_true rfl) ⟨(by first | exact Nat.le_of_ble_eq_true rfl | omega | (dsimp only; omega)), (by first | exact Nat.le_of_ble_eq_true rfl | omega | (dsimp only; omega))⟩ (fun _ => rfl) dL_says_101 104 rfl (fun _ _ _ => ?_) (fun hx => absurd rfl hx)
      refine v_pop X dL_says_104 rfl 105 rfl ?_
      exact v_nret () trivial (List.Perm.refl _) X (by first | exact Nat.le_of_ble_eq_true rfl | omega | (dsimp only; omega)) (by first | exact Nat.le_of_ble_eq_true rfl | omega | (dsimp only; omega)) dL_says_105
    | succ k9 ih =>
      intro t ht
      obtain ⟨r8, h8⟩ := h4 t (by omega)
      exact s_turn hG D c9 hGU hl0 hGT hM hML X (by omega) (Nat.le_refl _) (Nat.le_refl _) h8 (ih (t + 1) (by omega))
  exact v_eq (lv2 := [(2, .int (nI (20 * 0))), (1, .ref q9), (0, .ref (ad 0))]) rfl rfl rfl rfl (hloop n 0 (by omega))
