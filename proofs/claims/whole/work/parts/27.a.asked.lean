/-! The two records of the law: the face and the reference; what the pure part has to say of each call. -/
structure FX where
  nextPast : Int32
  pastCount : Int32
  i_count : Int32
  i_cells : Nat → Int32
  o_count : Int32
  o_cells : Nat → Int32
  p_start : Int32
  p_end : Int32
  p_kind : Int32
  p_value : Int32
  p_error : Int32
  p_errorAt : Int32
  p_d_time : Int32
  p_d_tolerance : Int32
  p_d_seed : Int32
  p_d_madeTickets : Int32
  p_d_cheesesOfText : Int32
  p_d_R_rows : Int32
  p_d_R_cells : Nat → Int32
  p_d_U_rows : Int32
  p_d_U_cells : Nat → Int32
  p_d_S_rows : Int32
  p_d_S_cells : Nat → Int32
  p_d_T_rows : Int32
  p_d_T_cells : Nat → Int32
  p_d_E_rows : Int32
  p_d_E_cells : Nat → Int32
  s_time : Int32
  s_tolerance : Int32
  s_seed : Int32
  s_madeTickets : Int32
  s_cheesesOfText : Int32
  s_R_rows : Int32
  s_R_cells : Nat → Int32
  s_U_rows : Int32
  s_U_cells : Nat → Int32
  s_S_rows : Int32
  s_S_cells : Nat → Int32
  s_T_rows : Int32
  s_T_cells : Nat → Int32
  s_E_rows : Int32
  s_E_cells : Nat → Int32
  sl : Nat → Option SV
  pa : Nat → Option SV
structure FM where
  m_undoable : Int32
  m_undoStart : Int32
  m_thrown : Int32
  m_inputLength : Int32
  m_position : Int32
  m_start : Int32
  m_token : Int32
  m_value : Int32
  m_letters : Int32
  m_code : Int32
  m_place : Int32
  m_outputLength : Int32
  m_s : Nat → Int32
  m_parsed : Nat → Int32
  m_tried : Nat → Int32
  m_remembered : Nat → Int32
  m_slots : Nat → Int32
  m_kept : Nat → Int32
  m_away : Nat → Int32
  m_input : Nat → Int32
  m_halfway : Nat → Int32
  m_output : Nat → Int32
abbrev wXf (ad : Nat → Nat) (c9 : Nat → ClassId) (x : FX) (asl apa : Nat → Nat → Nat) : va_W := wX11 ad c9 x.nextPast x.pastCount x.i_count x.i_cells x.o_count x.o_cells x.p_start x.p_end x.p_kind x.p_value x.p_error x.p_errorAt x.p_d_time x.p_d_tolerance x.p_d_seed x.p_d_madeTickets x.p_d_cheesesOfText x.p_d_R_rows x.p_d_R_cells x.p_d_U_rows x.p_d_U_cells x.p_d_S_rows x.p_d_S_cells x.p_d_T_rows x.p_d_T_cells x.p_d_E_rows x.p_d_E_cells x.s_time x.s_tolerance x.s_seed x.s_madeTickets x.s_cheesesOfText x.s_R_rows x.s_R_cells x.s_U_rows x.s_U_cells x.s_S_rows x.s_S_cells x.s_T_rows x.s_T_cells x.s_E_rows x.s_E_cells x.sl asl x.pa apa
abbrev wMf (am : Nat → Nat) (c9 : Nat → ClassId) (m : FM) : va_W := wX12 am c9 m.m_undoable m.m_undoStart m.m_thrown m.m_inputLength m.m_position m.m_start m.m_token m.m_value m.m_letters m.m_code m.m_place m.m_outputLength m.m_s m.m_parsed m.m_tried m.m_remembered m.m_slots m.m_kept m.m_away m.m_input m.m_halfway m.m_output
theorem lg_cmp_self (x : Int64) : lg_cmp x x = 0 := by simp [lg_cmp]
theorem hcd_zero {cs : List Nat} : hcd cs 0 = 0 := rfl
theorem hcd_ne {cs : List Nat} {ex : Nat} (h : ex ≠ 0) (hc : cs.length ≤ 3) : ¬ hcd cs ex = 0 := by
  unfold hcd
  rw [if_neg h]
  have h1 : cs.idxOf ex ≤ cs.length := List.idxOf_le_length
  have h2 : cs.idxOf ex ≤ 3 := Nat.le_trans h1 hc
  generalize cs.idxOf ex = n at h2
  match n, h2 with
  | 0, _ => decide
  | 1, _ => decide
  | 2, _ => decide
  | 3, _ => decide
theorem perm_toM {a b c d : va_W} {o : Nat × va_E} : (a ++ (b ++ (c ++ (o :: d)))).Perm (d ++ (a ++ (b ++ (c ++ [o])))) := by
  have h : a ++ (b ++ (c ++ (o :: d))) = (a ++ (b ++ (c ++ [o]))) ++ d := by simp [List.append_assoc]
  rw [h]
  exact List.perm_append_comm
section VB
variable {p : Program} {l : Launch} {e : Env} {R : Room} {s : State} {m : MethodId} {args : Array Value} {below : List Frame} {meth : Method} {c : Code} {cc : ByteArray} {nL : Nat} {ret : Option FieldType} {own : String} {Ts : List Cond} {D : va_G} {tys : List (ClassId × FieldType)} {G : (Nat → Prop) → State → Heap → Prop} {A : Nat → Prop} {F : va_W} {cells slots : Nat} {Q : State → Prop} {ws : va_W} {pc : Nat} {lv : List (Nat × Value)} {st : List Value}
theorem v_toM {a b c' M : va_W} {o : Nat × va_E} (K : vW p l e R s m args below meth c nL D A (a ++ (b ++ (c' ++ [o]))) cells slots Q M pc lv st) : vW p l e R s m args below meth c nL D A (b ++ (c' ++ (o :: M))) cells slots Q a pc lv st := v_perm perm_toM K
theorem v_toX {a b c' M : va_W} {o : Nat × va_E} (K : vW p l e R s m args below meth c nL D A (b ++ (c' ++ (o :: M))) cells slots Q a pc lv st) : vW p l e R s m args below meth c nL D A (a ++ (b ++ (c' ++ [o]))) cells slots Q M pc lv st := v_perm perm_toM.symm K
theorem v_sld (X : vX p s m args meth c cc nL ret own Ts D tys G A) {b L : Nat} {xs : Nat → Int32} (hX : va_X b L xs s s.heap) (hbl : b < s.heap.size) (hbA : ¬ A b) {i : Int32} (hin : vp_in i L) (d : decode cc pc = .ok (.iaload, 1)) (q : Nat) (hq : pc + 1 = q) (K : vW p l e R s m args below meth c nL D A F cells slots Q ws q lv (.int (xs i.toNatClampNeg) :: st)) : vW p l e R s m args below meth c nL D A F cells slots Q ws pc lv (.int i :: .ref b :: st) := by
  subst hq
  exact fun H locs ls hP hD hS hl => va_sld X.1 X.2.1 hX hbl hbA hS hin d (K H locs ls hP hD hS hl)
theorem v_scl (X : vX p s m args meth c cc nL ret own Ts D tys G A) {b L : Nat} {xs : Nat → Int32} (hX : va_X b L xs s s.heap) (hbl : b < s.heap.size) (hbA : ¬ A b) (d : decode cc pc = .ok (.arraylength, 1)) (q : Nat) (hq : pc + 1 = q) (K : vW p l e R s m args below meth c nL D A F cells slots Q ws q lv (.int (Int32.ofNat L) :: st)) : vW p l e R s m args below meth c nL D A F cells slots Q ws pc lv (.ref b :: st) := by
  subst hq
  exact fun H locs ls hP hD hS hl => va_slen X.1 X.2.1 hX hbl hbA hS d (K H locs ls hP hD hS hl)
theorem v_tsw (X : vX p s m args meth c cc nL ret own Ts D tys G A) {dflt lo hi : Int} {offs : Array Int} {len : Nat} {x : Int32} {off : Int} {tgt : Nat} (d : decode cc pc = .ok (.tableswitch dflt lo hi offs, len)) (h1 : ¬ x.toInt < lo) (h2 : ¬ hi < x.toInt) (ho : offs[(x.toInt - lo).toNat]? = some off) (ht : (pc : Int) + off = (tgt : Int)) (K : vW p l e R s m args below meth c nL D A F cells slots Q ws tgt lv st) : vW p l e R s m args below meth c nL D A F cells slots Q ws pc lv (.int x :: st) :=
  fun H locs ls hP hD hS hl => lv_tableIn X.1 X.2.1 d h1 h2 ho ht (K H locs ls hP hD hS hl)
theorem v_dst (X : vX p s m args meth c cc nL ret own Ts D tys G A) {i : Nat} {x : UInt64} {lv' : List (Nat × Value)} (d : decode cc pc = .ok (.dstore i, 2)) (hn : i + 1 < nL) (hl' : (i, Value.double x) :: lv.filter (fun q => !(q.1 == i) && (!(q.1 == i + 1) && !(q.1 + 1 == i && q.2.category == 2))) = lv') (q : Nat) (hq : pc + 2 = q) (K : vW p l e R s m args below meth c nL D A F cells slots Q ws q lv' st) : vW p l e R s m args below meth c nL D A F cells slots Q ws pc lv (.double x :: st) := by
  subst hq
  exact fun H locs ls hP hD hS hl => lv_dstore X.1 X.2.1 d hl hn hl' (fun ls hl => K H locs ls hP hD hS hl)
theorem v_dld (X : vX p s m args meth c cc nL ret own Ts D tys G A) {i : Nat} {x : UInt64} (d : decode cc pc = .ok (.dload i, 2)) (kk : Nat) (hk : lv[kk]? = some (i, .double x)) (q : Nat) (hq : pc + 2 = q) (K : vW p l e R s m args below meth c nL D A F cells slots Q ws q lv (.double x :: st)) : vW p l e R s m args below meth c nL D A F cells slots Q ws pc lv st := by
  subst hq
  exact fun H locs ls hP hD hS hl => lv_dload X.1 X.2.1 d (lv_at hl kk hk) (K H locs ls hP hD hS hl)
theorem v_dcmp (X : vX p s m args meth c cc nL ret own Ts D tys G A) {op : CmpOp} {x y : UInt64} (d : decode cc pc = .ok (.dcmp op, 1)) (q : Nat) (hq : pc + 1 = q) (K : vW p l e R s m args below meth c nL D A F cells slots Q ws q lv (.int (Op.cmpValue (FP.dcmp x y) op) :: st)) : vW p l e R s m args below meth c nL D A F cells slots Q ws pc lv (.double y :: .double x :: st) := by
  subst hq
  exact fun H locs ls hP hD hS hl => lv_dcmp X.1 X.2.1 d (K H locs ls hP hD hS hl)
theorem v_f2d (X : vX p s m args meth c cc nL ret own Ts D tys G A) {x : UInt32} (hne : vf_n64 (FP.f2d x)) (d : decode cc pc = .ok (.f2d, 1)) (q : Nat) (hq : pc + 1 = q) (K : vW p l e R s m args below meth c nL D A F cells slots Q ws q lv (.double (FP.f2d x) :: st)) : vW p l e R s m args below meth c nL D A F cells slots Q ws pc lv (.float x :: st) := by
  subst hq
  exact fun H locs ls hP hD hS hl => lv_f2d X.1 X.2.1 d hne (K H locs ls hP hD hS hl)
end VB
def nlaw (n : Nat) : Int32 := Int32.ofNat n
def H0 (REL : FX → FM → Prop) : Prop := ∀ (x : FX) (m : FM), REL x m → ∀ (v1 v2 v3 v4 v5 : Int32), ∃ (ox : Nat × Int32 × Int32 × (Nat → Int32)) (om : Int32 × Int32 × Int32 × (Nat → Int32)), f_X11_appendInput x.i_count x.i_cells v1 v2 v3 v4 v5 = some ox ∧ (ox.1 = 0 ∨ ox.1 = 3) ∧ f_X12_appendInput m.m_thrown m.m_inputLength m.m_input v1 v2 v3 v4 v5 = some om ∧ om.2.1 = hcd [3] ox.1 ∧ (ox.1 = 0 → ox.2.1.toInt64 = om.1.toInt64) ∧ REL { x with i_count := ox.2.2.1, i_cells := ox.2.2.2 } { m with m_thrown := om.2.1, m_inputLength := om.2.2.1, m_input := om.2.2.2 }
def H1 (REL : FX → FM → Prop) : Prop := ∀ (x : FX) (m : FM), REL x m → ∀ (v1 : Int32), ∃ (ox : Nat × Int32 × Int32) (om : Int32 × Int32 × Int32), f_X11_truncateInput x.i_count v1 = some ox ∧ (ox.1 = 0 ∨ ox.1 = 2) ∧ f_X12_truncateInput m.m_thrown m.m_inputLength v1 = some om ∧ om.2.1 = hcd [2] ox.1 ∧ (ox.1 = 0 → ox.2.1.toInt64 = om.1.toInt64) ∧ REL { x with i_count := ox.2.2 } { m with m_thrown := om.2.1, m_inputLength := om.2.2 }
def H2 (REL : FX → FM → Prop) : Prop := ∀ (x : FX) (m : FM), REL x m → ∃ (ox : Nat × Int32 × Int32 × Int32 × Int32 × Int32 × Int32 × Int32 × Int32 × Int32 × Int32 × Int32 × Int32 × Int32 × Int32 × Int32 × Int32 × (Nat → Int32) × Int32 × (Nat → Int32) × Int32 × (Nat → Int32) × Int32 × (Nat → Int32) × Int32 × (Nat → Int32) × Int32 × Int32 × Int32 × Int32 × Int32 × Int32 × (Nat → Int32) × Int32 × (Nat → Int32) × Int32 × (Nat → Int32) × Int32 × (Nat → Int32) × Int32 × (Nat → Int32) × (Nat → Option SV)) (om : Int32 × Int32 × Int32 × Int32 × Int32 × Int32 × Int32 × Int32 × Int32 × Int32 × Int32 × Int32 × (Nat → Int32) × (Nat → Int32) × (Nat → Int32)), f_X11_load x.nextPast x.pastCount x.i_count x.i_cells x.p_start x.p_end x.p_kind x.p_value x.p_error x.p_errorAt x.p_d_time x.p_d_tolerance x.p_d_seed x.p_d_madeTickets x.p_d_cheesesOfText x.p_d_R_rows x.p_d_R_cells x.p_d_U_rows x.p_d_U_cells x.p_d_S_rows x.p_d_S_cells x.p_d_T_rows x.p_d_T_cells x.p_d_E_rows x.p_d_E_cells x.s_time x.s_tolerance x.s_seed x.s_madeTickets x.s_cheesesOfText x.s_R_rows x.s_R_cells x.s_U_rows x.s_U_cells x.s_S_rows x.s_S_cells x.s_T_rows x.s_T_cells x.s_E_rows x.s_E_cells x.pa = some ox ∧ (ox.1 = 0 ∨ ox.1 = 2) ∧ f_X12_load m.m_undoable m.m_undoStart m.m_thrown m.m_inputLength m.m_position m.m_start m.m_token m.m_value m.m_letters m.m_code m.m_place m.m_s m.m_parsed m.m_remembered m.m_input = some om ∧ om.2.2.2.1 = hcd [2] ox.1 ∧ (ox.1 = 0 → ox.2.1.toInt64 = om.1.toInt64) ∧ REL { x with nextPast := ox.2.2.1, pastCount := ox.2.2.2.1, i_count := ox.2.2.2.2.1, p_start := ox.2.2.2.2.2.1, p_end := ox.2.2.2.2.2.2.1, p_kind := ox.2.2.2.2.2.2.2.1, p_value := ox.2.2.2.2.2.2.2.2.1, p_error := ox.2.2.2.2.2.2.2.2.2.1, p_errorAt := ox.2.2.2.2.2.2.2.2.2.2.1, p_d_time := ox.2.2.2.2.2.2.2.2.2.2.2.1, p_d_tolerance := ox.2.2.2.2.2.2.2.2.2.2.2.2.1, p_d_seed := ox.2.2.2.2.2.2.2.2.2.2.2.2.2.1, p_d_madeTickets := ox.2.2.2.2.2.2.2.2.2.2.2.2.2.2.1, p_d_cheesesOfText := ox.2.2.2.2.2.2.2.2.2.2.2.2.2.2.2.1, p_d_R_rows := ox.2.2.2.2.2.2.2.2.2.2.2.2.2.2.2.2.1, p_d_R_cells := ox.2.2.2.2.2.2.2.2.2.2.2.2.2.2.2.2.2.1, p_d_U_rows := ox.2.2.2.2.2.2.2.2.2.2.2.2.2.2.2.2.2.2.1, p_d_U_cells := ox.2.2.2.2.2.2.2.2.2.2.2.2.2.2.2.2.2.2.2.1, p_d_S_rows := ox.2.2.2.2.2.2.2.2.2.2.2.2.2.2.2.2.2.2.2.2.1, p_d_S_cells := ox.2.2.2.2.2.2.2.2.2.2.2.2.2.2.2.2.2.2.2.2.2.1, p_d_T_rows := ox.2.2.2.2.2.2.2.2.2.2.2.2.2.2.2.2.2.2.2.2.2.2.1, p_d_T_cells := ox.2.2.2.2.2.2.2.2.2.2.2.2.2.2.2.2.2.2.2.2.2.2.2.1, p_d_E_rows := ox.2.2.2.2.2.2.2.2.2.2.2.2.2.2.2.2.2.2.2.2.2.2.2.2.1, p_d_E_cells := ox.2.2.2.2.2.2.2.2.2.2.2.2.2.2.2.2.2.2.2.2.2.2.2.2.2.1, s_time := ox.2.2.2.2.2.2.2.2.2.2.2.2.2.2.2.2.2.2.2.2.2.2.2.2.2.2.1, s_tolerance := ox.2.2.2.2.2.2.2.2.2.2.2.2.2.2.2.2.2.2.2.2.2.2.2.2.2.2.2.1, s_seed := ox.2.2.2.2.2.2.2.2.2.2.2.2.2.2.2.2.2.2.2.2.2.2.2.2.2.2.2.2.1, s_madeTickets := ox.2.2.2.2.2.2.2.2.2.2.2.2.2.2.2.2.2.2.2.2.2.2.2.2.2.2.2.2.2.1, s_cheesesOfText := ox.2.2.2.2.2.2.2.2.2.2.2.2.2.2.2.2.2.2.2.2.2.2.2.2.2.2.2.2.2.2.1, s_R_rows := ox.2.2.2.2.2.2.2.2.2.2.2.2.2.2.2.2.2.2.2.2.2.2.2.2.2.2.2.2.2.2.2.1, s_R_cells := ox.2.2.2.2.2.2.2.2.2.2.2.2.2.2.2.2.2.2.2.2.2.2.2.2.2.2.2.2.2.2.2.2.1, s_U_rows := ox.2.2.2.2.2.2.2.2.2.2.2.2.2.2.2.2.2.2.2.2.2.2.2.2.2.2.2.2.2.2.2.2.2.1, s_U_cells := ox.2.2.2.2.2.2.2.2.2.2.2.2.2.2.2.2.2.2.2.2.2.2.2.2.2.2.2.2.2.2.2.2.2.2.1, s_S_rows := ox.2.2.2.2.2.2.2.2.2.2.2.2.2.2.2.2.2.2.2.2.2.2.2.2.2.2.2.2.2.2.2.2.2.2.2.1, s_S_cells := ox.2.2.2.2.2.2.2.2.2.2.2.2.2.2.2.2.2.2.2.2.2.2.2.2.2.2.2.2.2.2.2.2.2.2.2.2.1, s_T_rows := ox.2.2.2.2.2.2.2.2.2.2.2.2.2.2.2.2.2.2.2.2.2.2.2.2.2.2.2.2.2.2.2.2.2.2.2.2.2.1, s_T_cells := ox.2.2.2.2.2.2.2.2.2.2.2.2.2.2.2.2.2.2.2.2.2.2.2.2.2.2.2.2.2.2.2.2.2.2.2.2.2.2.1, s_E_rows := ox.2.2.2.2.2.2.2.2.2.2.2.2.2.2.2.2.2.2.2.2.2.2.2.2.2.2.2.2.2.2.2.2.2.2.2.2.2.2.2.1, s_E_cells := ox.2.2.2.2.2.2.2.2.2.2.2.2.2.2.2.2.2.2.2.2.2.2.2.2.2.2.2.2.2.2.2.2.2.2.2.2.2.2.2.2.1, pa := ox.2.2.2.2.2.2.2.2.2.2.2.2.2.2.2.2.2.2.2.2.2.2.2.2.2.2.2.2.2.2.2.2.2.2.2.2.2.2.2.2.2 } { m with m_undoable := om.2.1, m_undoStart := om.2.2.1, m_thrown := om.2.2.2.1, m_inputLength := om.2.2.2.2.1, m_position := om.2.2.2.2.2.1, m_start := om.2.2.2.2.2.2.1, m_token := om.2.2.2.2.2.2.2.1, m_value := om.2.2.2.2.2.2.2.2.1, m_letters := om.2.2.2.2.2.2.2.2.2.1, m_code := om.2.2.2.2.2.2.2.2.2.2.1, m_place := om.2.2.2.2.2.2.2.2.2.2.2.1, m_s := om.2.2.2.2.2.2.2.2.2.2.2.2.1, m_parsed := om.2.2.2.2.2.2.2.2.2.2.2.2.2.1, m_remembered := om.2.2.2.2.2.2.2.2.2.2.2.2.2.2 }
def H3 (REL : FX → FM → Prop) : Prop := ∀ (x : FX) (m : FM), REL x m → ∃ (ox : Int32) (om : Int32 × Int32), f_X11_errorCode x.p_error = some ox ∧ f_X12_errorCode m.m_thrown m.m_code = some om ∧ ox = om.1 ∧ REL x { m with m_thrown := om.2 }
def H4 (REL : FX → FM → Prop) : Prop := ∀ (x : FX) (m : FM), REL x m → ∃ (ox : Int32) (om : Int32 × Int32), f_X11_errorPosition x.p_errorAt = some ox ∧ f_X12_errorPosition m.m_thrown m.m_place = some om ∧ ox = om.1 ∧ REL x { m with m_thrown := om.2 }
def H5 (REL : FX → FM → Prop) : Prop := ∀ (x : FX) (m : FM), REL x m → ∃ (ox : Int32) (om : Int32 × Int32), f_X11_time x.s_time = some ox ∧ f_X12_time m.m_thrown m.m_s = some om ∧ ox = om.1 ∧ REL x { m with m_thrown := om.2 }
def H6 (REL : FX → FM → Prop) : Prop := ∀ (x : FX) (m : FM), REL x m → ∃ (ox : Int32) (om : Int32 × Int32), f_X11_seed x.s_seed = some ox ∧ f_X12_seed m.m_thrown m.m_s = some om ∧ ox = om.1 ∧ REL x { m with m_thrown := om.2 }
def H7 (REL : FX → FM → Prop) : Prop := ∀ (x : FX) (m : FM), REL x m → ∃ (ox : Int32) (om : Int32 × Int32), f_X11_realmCount x.s_R_rows = some ox ∧ f_X12_realmCount m.m_thrown m.m_s = some om ∧ ox = om.1 ∧ REL x { m with m_thrown := om.2 }
def H8 (REL : FX → FM → Prop) : Prop := ∀ (x : FX) (m : FM), REL x m → ∃ (ox : Int32) (om : Int32 × Int32), f_X11_userCount x.s_U_rows = some ox ∧ f_X12_userCount m.m_thrown m.m_s = some om ∧ ox = om.1 ∧ REL x { m with m_thrown := om.2 }
def H9 (REL : FX → FM → Prop) : Prop := ∀ (x : FX) (m : FM), REL x m → ∃ (ox : Int32) (om : Int32 × Int32), f_X11_serviceCount x.s_S_rows = some ox ∧ f_X12_serviceCount m.m_thrown m.m_s = some om ∧ ox = om.1 ∧ REL x { m with m_thrown := om.2 }
def H10 (REL : FX → FM → Prop) : Prop := ∀ (x : FX) (m : FM), REL x m → ∃ (ox : Int32) (om : Int32 × Int32), f_X11_findName x.i_count x.i_cells x.s_R_rows x.s_R_cells x.s_U_rows x.s_U_cells x.s_S_rows x.s_S_cells = some ox ∧ f_X12_findName m.m_thrown m.m_inputLength m.m_s m.m_input = some om ∧ ox = om.1 ∧ REL x { m with m_thrown := om.2 }
def H11 (REL : FX → FM → Prop) : Prop := ∀ (x : FX) (m : FM), REL x m → ∀ (v1 : Int32), ∃ (ox : Nat × Int32) (om : Int32 × Int32), f_X11_lifetimeOf x.s_R_rows x.s_R_cells v1 = some ox ∧ (ox.1 = 0 ∨ ox.1 = 1) ∧ f_X12_lifetimeOf m.m_thrown m.m_s v1 = some om ∧ om.2 = hcd [1] ox.1 ∧ (ox.1 = 0 → ox.2.toInt64 = om.1.toInt64) ∧ REL x { m with m_thrown := om.2 }
def H12 (REL : FX → FM → Prop) : Prop := ∀ (x : FX) (m : FM), REL x m → ∀ (v1 : Int32), ∃ (ox : Nat × Int32) (om : Int32 × Int32), f_X11_clockOf x.s_time x.s_R_rows x.s_R_cells v1 = some ox ∧ (ox.1 = 0 ∨ ox.1 = 1) ∧ f_X12_clockOf m.m_thrown m.m_s v1 = some om ∧ om.2 = hcd [1] ox.1 ∧ (ox.1 = 0 → ox.2.toInt64 = om.1.toInt64) ∧ REL x { m with m_thrown := om.2 }
def H13 (REL : FX → FM → Prop) : Prop := ∀ (x : FX) (m : FM), REL x m → ∀ (v1 v2 : Int32), ∃ (ox : Nat × Int32) (om : Int32 × Int32), f_X11_trusts x.s_R_rows x.s_R_cells v1 v2 = some ox ∧ (ox.1 = 0 ∨ ox.1 = 1) ∧ f_X12_trusts m.m_thrown m.m_s v1 v2 = some om ∧ om.2 = hcd [1] ox.1 ∧ (ox.1 = 0 → (lb ox.2) = (lb om.1)) ∧ REL x { m with m_thrown := om.2 }
def H14 (REL : FX → FM → Prop) : Prop := ∀ (x : FX) (m : FM), REL x m → ∀ (v1 v2 : Int32), ∃ (ox : Nat × Int32) (om : Int32 × Int32 × (Nat → Int32)), f_X11_distance x.s_R_rows x.s_R_cells v1 v2 = some ox ∧ (ox.1 = 0 ∨ ox.1 = 1) ∧ f_X12_distance m.m_thrown m.m_s m.m_away v1 v2 = some om ∧ om.2.1 = hcd [1] ox.1 ∧ (ox.1 = 0 → ox.2.toInt64 = om.1.toInt64) ∧ REL x { m with m_thrown := om.2.1, m_away := om.2.2 }
def H15 (REL : FX → FM → Prop) : Prop := ∀ (x : FX) (m : FM), REL x m → ∀ (v1 v2 : Int32), ∃ (ox : Nat × Int32) (om : Int32 × Int32 × (Nat → Int32)), f_X11_nextRealm x.s_R_rows x.s_R_cells v1 v2 = some ox ∧ (ox.1 = 0 ∨ ox.1 = 1) ∧ f_X12_nextRealm m.m_thrown m.m_s m.m_away v1 v2 = some om ∧ om.2.1 = hcd [1] ox.1 ∧ (ox.1 = 0 → ox.2.toInt64 = om.1.toInt64) ∧ REL x { m with m_thrown := om.2.1, m_away := om.2.2 }
def H16 (REL : FX → FM → Prop) : Prop := ∀ (x : FX) (m : FM), REL x m → ∀ (v1 : Int32), ∃ (ox : Nat × Int32) (om : Int32 × Int32), f_X11_homeOf x.s_U_rows x.s_U_cells v1 = some ox ∧ (ox.1 = 0 ∨ ox.1 = 1) ∧ f_X12_homeOf m.m_thrown m.m_s v1 = some om ∧ om.2 = hcd [1] ox.1 ∧ (ox.1 = 0 → ox.2.toInt64 = om.1.toInt64) ∧ REL x { m with m_thrown := om.2 }
def H17 (REL : FX → FM → Prop) : Prop := ∀ (x : FX) (m : FM), REL x m → ∀ (v1 : Int32), ∃ (ox : Nat × Int32) (om : Int32 × Int32), f_X11_cheesesOf x.s_U_rows x.s_U_cells v1 = some ox ∧ (ox.1 = 0 ∨ ox.1 = 1) ∧ f_X12_cheesesOf m.m_thrown m.m_s v1 = some om ∧ om.2 = hcd [1] ox.1 ∧ (ox.1 = 0 → ox.2.toInt64 = om.1.toInt64) ∧ REL x { m with m_thrown := om.2 }
def H18 (REL : FX → FM → Prop) : Prop := ∀ (x : FX) (m : FM), REL x m → ∀ (v1 v2 : Int32), ∃ (ox : Nat × Int32) (om : Int32 × Int32), f_X11_skew x.s_R_rows x.s_R_cells x.s_U_rows x.s_U_cells v1 v2 = some ox ∧ (ox.1 = 0 ∨ ox.1 = 1) ∧ f_X12_skew m.m_thrown m.m_s v1 v2 = some om ∧ om.2 = hcd [1] ox.1 ∧ (ox.1 = 0 → ox.2.toInt64 = om.1.toInt64) ∧ REL x { m with m_thrown := om.2 }
def H19 (REL : FX → FM → Prop) : Prop := ∀ (x : FX) (m : FM), REL x m → ∀ (v1 : Int32), ∃ (ox : Nat × Int32) (om : Int32 × Int32), f_X11_realmOfService x.s_S_rows x.s_S_cells v1 = some ox ∧ (ox.1 = 0 ∨ ox.1 = 1) ∧ f_X12_realmOfService m.m_thrown m.m_s v1 = some om ∧ om.2 = hcd [1] ox.1 ∧ (ox.1 = 0 → ox.2.toInt64 = om.1.toInt64) ∧ REL x { m with m_thrown := om.2 }
def H20 (REL : FX → FM → Prop) : Prop := ∀ (x : FX) (m : FM), REL x m → ∀ (v1 : Int32), ∃ (ox : Nat × Int32) (om : Int32 × Int32), f_X11_cheesesLeft x.s_S_rows x.s_S_cells v1 = some ox ∧ (ox.1 = 0 ∨ ox.1 = 1) ∧ f_X12_cheesesLeft m.m_thrown m.m_s v1 = some om ∧ om.2 = hcd [1] ox.1 ∧ (ox.1 = 0 → ox.2.toInt64 = om.1.toInt64) ∧ REL x { m with m_thrown := om.2 }
def H21 (REL : FX → FM → Prop) : Prop := ∀ (x : FX) (m : FM), REL x m → ∃ (ox : Int32) (om : Int32 × Int32), f_X11_ticketCount x.s_T_rows = some ox ∧ f_X12_ticketCount m.m_thrown m.m_s = some om ∧ ox = om.1 ∧ REL x { m with m_thrown := om.2 }
def H22 (REL : FX → FM → Prop) : Prop := ∀ (x : FX) (m : FM), REL x m → ∀ (v1 : Int32), ∃ (ox : Nat × Int32) (om : Int32 × Int32), f_X11_ticketAt x.s_T_rows x.s_T_cells v1 = some ox ∧ (ox.1 = 0 ∨ ox.1 = 1) ∧ f_X12_ticketAt m.m_thrown m.m_s v1 = some om ∧ om.2 = hcd [1] ox.1 ∧ (ox.1 = 0 → ox.2.toInt64 = om.1.toInt64) ∧ REL x { m with m_thrown := om.2 }
def H23 (REL : FX → FM → Prop) : Prop := ∀ (x : FX) (m : FM), REL x m → ∀ (v1 : Int32), ∃ (ox : Nat × Int32) (om : Int32 × Int32), f_X11_kindOf x.s_T_rows x.s_T_cells v1 = some ox ∧ (ox.1 = 0 ∨ ox.1 = 4) ∧ f_X12_kindOf m.m_thrown m.m_s v1 = some om ∧ om.2 = hcd [4] ox.1 ∧ (ox.1 = 0 → ox.2.toInt64 = om.1.toInt64) ∧ REL x { m with m_thrown := om.2 }
def H24 (REL : FX → FM → Prop) : Prop := ∀ (x : FX) (m : FM), REL x m → ∀ (v1 : Int32), ∃ (ox : Nat × Int32) (om : Int32 × Int32), f_X11_ownerOf x.s_T_rows x.s_T_cells v1 = some ox ∧ (ox.1 = 0 ∨ ox.1 = 4) ∧ f_X12_ownerOf m.m_thrown m.m_s v1 = some om ∧ om.2 = hcd [4] ox.1 ∧ (ox.1 = 0 → ox.2.toInt64 = om.1.toInt64) ∧ REL x { m with m_thrown := om.2 }
def H25 (REL : FX → FM → Prop) : Prop := ∀ (x : FX) (m : FM), REL x m → ∀ (v1 : Int32), ∃ (ox : Nat × Int32) (om : Int32 × Int32), f_X11_realmOf x.s_T_rows x.s_T_cells v1 = some ox ∧ (ox.1 = 0 ∨ ox.1 = 4) ∧ f_X12_realmOf m.m_thrown m.m_s v1 = some om ∧ om.2 = hcd [4] ox.1 ∧ (ox.1 = 0 → ox.2.toInt64 = om.1.toInt64) ∧ REL x { m with m_thrown := om.2 }
def H26 (REL : FX → FM → Prop) : Prop := ∀ (x : FX) (m : FM), REL x m → ∀ (v1 : Int32), ∃ (ox : Nat × Int32) (om : Int32 × Int32), f_X11_serviceOf x.s_T_rows x.s_T_cells v1 = some ox ∧ (ox.1 = 0 ∨ ox.1 = 4) ∧ f_X12_serviceOf m.m_thrown m.m_s v1 = some om ∧ om.2 = hcd [4] ox.1 ∧ (ox.1 = 0 → ox.2.toInt64 = om.1.toInt64) ∧ REL x { m with m_thrown := om.2 }
def H27 (REL : FX → FM → Prop) : Prop := ∀ (x : FX) (m : FM), REL x m → ∀ (v1 : Int32), ∃ (ox : Nat × Int32) (om : Int32 × Int32), f_X11_startOf x.s_T_rows x.s_T_cells v1 = some ox ∧ (ox.1 = 0 ∨ ox.1 = 4) ∧ f_X12_startOf m.m_thrown m.m_s v1 = some om ∧ om.2 = hcd [4] ox.1 ∧ (ox.1 = 0 → ox.2.toInt64 = om.1.toInt64) ∧ REL x { m with m_thrown := om.2 }
def H28 (REL : FX → FM → Prop) : Prop := ∀ (x : FX) (m : FM), REL x m → ∀ (v1 : Int32), ∃ (ox : Nat × Int32) (om : Int32 × Int32), f_X11_endOf x.s_T_rows x.s_T_cells v1 = some ox ∧ (ox.1 = 0 ∨ ox.1 = 4) ∧ f_X12_endOf m.m_thrown m.m_s v1 = some om ∧ om.2 = hcd [4] ox.1 ∧ (ox.1 = 0 → ox.2.toInt64 = om.1.toInt64) ∧ REL x { m with m_thrown := om.2 }
def H29 (REL : FX → FM → Prop) : Prop := ∀ (x : FX) (m : FM), REL x m → ∀ (v1 : Int32), ∃ (ox : Nat × Int32) (om : Int32 × Int32), f_X11_lastEndOf x.s_T_rows x.s_T_cells v1 = some ox ∧ (ox.1 = 0 ∨ ox.1 = 4) ∧ f_X12_lastEndOf m.m_thrown m.m_s v1 = some om ∧ om.2 = hcd [4] ox.1 ∧ (ox.1 = 0 → ox.2.toInt64 = om.1.toInt64) ∧ REL x { m with m_thrown := om.2 }
def H30 (REL : FX → FM → Prop) : Prop := ∀ (x : FX) (m : FM), REL x m → ∀ (v1 : Int32), ∃ (ox : Nat × Int32) (om : Int32 × Int32), f_X11_keyOf x.s_T_rows x.s_T_cells v1 = some ox ∧ (ox.1 = 0 ∨ ox.1 = 4) ∧ f_X12_keyOf m.m_thrown m.m_s v1 = some om ∧ om.2 = hcd [4] ox.1 ∧ (ox.1 = 0 → ox.2.toInt64 = om.1.toInt64) ∧ REL x { m with m_thrown := om.2 }
def H31 (REL : FX → FM → Prop) : Prop := ∀ (x : FX) (m : FM), REL x m → ∀ (v1 : Int32), ∃ (ox : Nat × Int32) (om : Int32 × Int32), f_X11_isRenewable x.s_T_rows x.s_T_cells v1 = some ox ∧ (ox.1 = 0 ∨ ox.1 = 4) ∧ f_X12_isRenewable m.m_thrown m.m_s v1 = some om ∧ om.2 = hcd [4] ox.1 ∧ (ox.1 = 0 → (lb ox.2) = (lb om.1)) ∧ REL x { m with m_thrown := om.2 }
def H32 (REL : FX → FM → Prop) : Prop := ∀ (x : FX) (m : FM), REL x m → ∀ (v1 : Int32), ∃ (ox : Nat × Int32) (om : Int32 × Int32), f_X11_isValid x.s_time x.s_T_rows x.s_T_cells v1 = some ox ∧ (ox.1 = 0 ∨ ox.1 = 4) ∧ f_X12_isValid m.m_thrown m.m_s v1 = some om ∧ om.2 = hcd [4] ox.1 ∧ (ox.1 = 0 → (lb ox.2) = (lb om.1)) ∧ REL x { m with m_thrown := om.2 }
def H33 (REL : FX → FM → Prop) : Prop := ∀ (x : FX) (m : FM), REL x m → ∀ (v1 : Int32), ∃ (ox : Nat × Int32) (om : Int32 × Int32), f_X11_minutesLeft x.s_time x.s_T_rows x.s_T_cells v1 = some ox ∧ (ox.1 = 0 ∨ ox.1 = 4) ∧ f_X12_minutesLeft m.m_thrown m.m_s v1 = some om ∧ om.2 = hcd [4] ox.1 ∧ (ox.1 = 0 → ox.2.toInt64 = om.1.toInt64) ∧ REL x { m with m_thrown := om.2 }
def H34 (REL : FX → FM → Prop) : Prop := ∀ (x : FX) (m : FM), REL x m → ∀ (v1 v2 : Int32), ∃ (ox : Nat × Int32) (om : Int32 × Int32), f_X11_loginRefusal x.s_tolerance x.s_R_rows x.s_R_cells x.s_U_rows x.s_U_cells x.s_T_rows v1 v2 = some ox ∧ (ox.1 = 0 ∨ ox.1 = 1 ∨ ox.1 = 2) ∧ f_X12_loginRefusal m.m_thrown m.m_s v1 v2 = some om ∧ om.2 = hcd [1, 2] ox.1 ∧ (ox.1 = 0 → ox.2.toInt64 = om.1.toInt64) ∧ REL x { m with m_thrown := om.2 }
def H35 (REL : FX → FM → Prop) : Prop := ∀ (x : FX) (m : FM), REL x m → ∀ (v1 v2 : Int32), ∃ (ox : Nat × Int32) (om : Int32 × Int32), f_X11_referRefusal x.s_time x.s_tolerance x.s_R_rows x.s_R_cells x.s_U_rows x.s_U_cells x.s_T_rows x.s_T_cells v1 v2 = some ox ∧ (ox.1 = 0 ∨ ox.1 = 4 ∨ ox.1 = 1) ∧ f_X12_referRefusal m.m_thrown m.m_s v1 v2 = some om ∧ om.2 = hcd [4, 1] ox.1 ∧ (ox.1 = 0 → ox.2.toInt64 = om.1.toInt64) ∧ REL x { m with m_thrown := om.2 }
def H36 (REL : FX → FM → Prop) : Prop := ∀ (x : FX) (m : FM), REL x m → ∀ (v1 v2 : Int32), ∃ (ox : Nat × Int32) (om : Int32 × Int32), f_X11_requestRefusal x.s_time x.s_tolerance x.s_R_rows x.s_R_cells x.s_U_rows x.s_U_cells x.s_S_rows x.s_S_cells x.s_T_rows x.s_T_cells v1 v2 = some ox ∧ (ox.1 = 0 ∨ ox.1 = 4 ∨ ox.1 = 1) ∧ f_X12_requestRefusal m.m_thrown m.m_s v1 v2 = some om ∧ om.2 = hcd [4, 1] ox.1 ∧ (ox.1 = 0 → ox.2.toInt64 = om.1.toInt64) ∧ REL x { m with m_thrown := om.2 }
def H37 (REL : FX → FM → Prop) : Prop := ∀ (x : FX) (m : FM), REL x m → ∀ (v1 : Int32), ∃ (ox : Nat × Int32) (om : Int32 × Int32), f_X11_renewRefusal x.s_time x.s_R_rows x.s_R_cells x.s_T_rows x.s_T_cells v1 = some ox ∧ (ox.1 = 0 ∨ ox.1 = 4) ∧ f_X12_renewRefusal m.m_thrown m.m_s v1 = some om ∧ om.2 = hcd [4] ox.1 ∧ (ox.1 = 0 → ox.2.toInt64 = om.1.toInt64) ∧ REL x { m with m_thrown := om.2 }
def H38 (REL : FX → FM → Prop) : Prop := ∀ (x : FX) (m : FM), REL x m → ∀ (v1 : Int32), ∃ (ox : Nat × Int32) (om : Int32 × Int32), f_X11_cheeseRefusal x.s_time x.s_tolerance x.s_R_rows x.s_R_cells x.s_U_rows x.s_U_cells x.s_S_rows x.s_S_cells x.s_T_rows x.s_T_cells x.s_E_rows x.s_E_cells v1 = some ox ∧ (ox.1 = 0 ∨ ox.1 = 4) ∧ f_X12_cheeseRefusal m.m_thrown m.m_s v1 = some om ∧ om.2 = hcd [4] ox.1 ∧ (ox.1 = 0 → ox.2.toInt64 = om.1.toInt64) ∧ REL x { m with m_thrown := om.2 }
def H39 (REL : FX → FM → Prop) : Prop := ∀ (x : FX) (m : FM), REL x m → ∃ (ox : Int32) (om : Int32 × Int32), f_X11_validTickets x.s_time x.s_T_rows x.s_T_cells = some ox ∧ f_X12_validTickets m.m_thrown m.m_s = some om ∧ ox = om.1 ∧ REL x { m with m_thrown := om.2 }
def H40 (REL : FX → FM → Prop) : Prop := ∀ (x : FX) (m : FM), REL x m → ∀ (v1 : Int32), ∃ (ox : Nat × Int32) (om : Int32 × Int32 × (Nat → Int32)), f_X11_validAfter x.s_time x.s_T_rows x.s_T_cells v1 = some ox ∧ (ox.1 = 0 ∨ ox.1 = 2) ∧ f_X12_validAfter m.m_thrown m.m_s m.m_tried v1 = some om ∧ om.2.1 = hcd [2] ox.1 ∧ (ox.1 = 0 → ox.2.toInt64 = om.1.toInt64) ∧ REL x { m with m_thrown := om.2.1, m_tried := om.2.2 }
def H41 (REL : FX → FM → Prop) : Prop := ∀ (x : FX) (m : FM), REL x m → ∀ (v1 : Int32), ∃ (ox : Nat × Int32) (om : Int32 × Int32 × (Nat → Int32)), f_X11_minutesUntilCheese x.s_time x.s_tolerance x.s_R_rows x.s_R_cells x.s_U_rows x.s_U_cells x.s_S_rows x.s_S_cells x.s_T_rows x.s_T_cells x.s_E_rows x.s_E_cells v1 = some ox ∧ (ox.1 = 0 ∨ ox.1 = 4) ∧ f_X12_minutesUntilCheese m.m_thrown m.m_s m.m_tried v1 = some om ∧ om.2.1 = hcd [4] ox.1 ∧ (ox.1 = 0 → ox.2.toInt64 = om.1.toInt64) ∧ REL x { m with m_thrown := om.2.1, m_tried := om.2.2 }
def H42 (REL : FX → FM → Prop) : Prop := ∀ (x : FX) (m : FM), REL x m → ∀ (v1 v2 : Int32), ∃ (ox : Nat × Int32) (om : Int32 × Int32), f_X11_bestTicket x.s_time x.s_U_rows x.s_S_rows x.s_T_rows x.s_T_cells v1 v2 = some ox ∧ (ox.1 = 0 ∨ ox.1 = 1) ∧ f_X12_bestTicket m.m_thrown m.m_s v1 v2 = some om ∧ om.2 = hcd [1] ox.1 ∧ (ox.1 = 0 → ox.2.toInt64 = om.1.toInt64) ∧ REL x { m with m_thrown := om.2 }
def H43 (REL : FX → FM → Prop) : Prop := ∀ (x : FX) (m : FM), REL x m → ∃ (ox : Int32) (om : Int32 × Int32), f_X11_useCount x.s_E_rows = some ox ∧ f_X12_useCount m.m_thrown m.m_s = some om ∧ ox = om.1 ∧ REL x { m with m_thrown := om.2 }
def H44 (REL : FX → FM → Prop) : Prop := ∀ (x : FX) (m : FM), REL x m → ∃ (ox : Int32) (om : Int32 × Int32), f_X11_cheeseDifference x.s_cheesesOfText x.s_U_rows x.s_U_cells x.s_S_rows x.s_S_cells = some ox ∧ f_X12_cheeseDifference m.m_thrown m.m_s = some om ∧ ox = om.1 ∧ REL x { m with m_thrown := om.2 }
def H45 (REL : FX → FM → Prop) : Prop := ∀ (x : FX) (m : FM), REL x m → ∃ (ox : Int32) (om : Int32 × Int32), f_X11_lifeErrors x.s_T_rows x.s_T_cells = some ox ∧ f_X12_lifeErrors m.m_thrown m.m_s = some om ∧ ox = om.1 ∧ REL x { m with m_thrown := om.2 }
def H46 (REL : FX → FM → Prop) : Prop := ∀ (x : FX) (m : FM), REL x m → ∃ (ox : Int32) (om : Int32 × Int32 × (Nat → Int32) × (Nat → Int32)), f_X11_distanceErrors x.s_R_rows x.s_R_cells = some ox ∧ f_X12_distanceErrors m.m_thrown m.m_s m.m_away m.m_halfway = some om ∧ ox = om.1 ∧ REL x { m with m_thrown := om.2.1, m_away := om.2.2.1, m_halfway := om.2.2.2 }
def H47 (REL : FX → FM → Prop) : Prop := ∀ (x : FX) (m : FM), REL x m → ∃ (ox : UInt32) (om : UInt32 × Int32), f_X11_validShare x.s_time x.s_T_rows x.s_T_cells = some ox ∧ f_X12_validShare m.m_thrown m.m_s = some om ∧ ox = om.1 ∧ vf_n64 (FP.f2d ox) ∧ Op.cmpValue (FP.dcmp (FP.f2d ox) (FP.f2d ox)) .l = 0 ∧ REL x { m with m_thrown := om.2 }
def H48 (REL : FX → FM → Prop) : Prop := ∀ (x : FX) (m : FM), REL x m → ∃ (ox : UInt64) (om : UInt64 × Int32), f_X11_averageLife x.s_T_rows x.s_T_cells = some ox ∧ f_X12_averageLife m.m_thrown m.m_s = some om ∧ ox = om.1 ∧ Op.cmpValue (FP.dcmp ox ox) .l = 0 ∧ REL x { m with m_thrown := om.2 }
def H49 (REL : FX → FM → Prop) : Prop := ∀ (x : FX) (m : FM), REL x m → ∀ (v1 v2 v3 : Int32), (v3 = 0 ∨ v3 = 1) → ∃ (ox : Nat × Int32 × Int32 × Int32 × Int32 × Int32 × Int32 × (Nat → Int32) × (Nat → Option SV)) (om : Int32 × Int32 × Int32 × Int32 × (Nat → Int32) × (Nat → Int32)), f_X11_login x.nextPast x.pastCount x.s_time x.s_tolerance x.s_seed x.s_madeTickets x.s_cheesesOfText x.s_R_rows x.s_R_cells x.s_U_rows x.s_U_cells x.s_S_rows x.s_S_cells x.s_T_rows x.s_T_cells x.s_E_rows x.s_E_cells x.pa v1 v2 v3 = some ox ∧ (ox.1 = 0 ∨ ox.1 = 1 ∨ ox.1 = 2 ∨ ox.1 = 3) ∧ f_X12_login m.m_undoable m.m_undoStart m.m_thrown m.m_s m.m_remembered v1 v2 v3 = some om ∧ om.2.2.2.1 = hcd [1, 2, 3] ox.1 ∧ (ox.1 = 0 → ox.2.1.toInt64 = om.1.toInt64) ∧ REL { x with nextPast := ox.2.2.1, pastCount := ox.2.2.2.1, s_seed := ox.2.2.2.2.1, s_madeTickets := ox.2.2.2.2.2.1, s_T_rows := ox.2.2.2.2.2.2.1, s_T_cells := ox.2.2.2.2.2.2.2.1, pa := ox.2.2.2.2.2.2.2.2 } { m with m_undoable := om.2.1, m_undoStart := om.2.2.1, m_thrown := om.2.2.2.1, m_s := om.2.2.2.2.1, m_remembered := om.2.2.2.2.2 }
def H50 (REL : FX → FM → Prop) : Prop := ∀ (x : FX) (m : FM), REL x m → ∀ (v1 v2 : Int32), ∃ (ox : Nat × Int32 × Int32 × Int32 × Int32 × Int32 × Int32 × (Nat → Int32) × (Nat → Option SV)) (om : Int32 × Int32 × Int32 × Int32 × (Nat → Int32) × (Nat → Int32)), f_X11_refer x.nextPast x.pastCount x.s_time x.s_tolerance x.s_seed x.s_madeTickets x.s_cheesesOfText x.s_R_rows x.s_R_cells x.s_U_rows x.s_U_cells x.s_S_rows x.s_S_cells x.s_T_rows x.s_T_cells x.s_E_rows x.s_E_cells x.pa v1 v2 = some ox ∧ (ox.1 = 0 ∨ ox.1 = 4 ∨ ox.1 = 1 ∨ ox.1 = 3) ∧ f_X12_refer m.m_undoable m.m_undoStart m.m_thrown m.m_s m.m_remembered v1 v2 = some om ∧ om.2.2.2.1 = hcd [4, 1, 3] ox.1 ∧ (ox.1 = 0 → ox.2.1.toInt64 = om.1.toInt64) ∧ REL { x with nextPast := ox.2.2.1, pastCount := ox.2.2.2.1, s_seed := ox.2.2.2.2.1, s_madeTickets := ox.2.2.2.2.2.1, s_T_rows := ox.2.2.2.2.2.2.1, s_T_cells := ox.2.2.2.2.2.2.2.1, pa := ox.2.2.2.2.2.2.2.2 } { m with m_undoable := om.2.1, m_undoStart := om.2.2.1, m_thrown := om.2.2.2.1, m_s := om.2.2.2.2.1, m_remembered := om.2.2.2.2.2 }
def H51 (REL : FX → FM → Prop) : Prop := ∀ (x : FX) (m : FM), REL x m → ∀ (v1 v2 : Int32), ∃ (ox : Nat × Int32 × Int32 × Int32 × Int32 × Int32 × Int32 × (Nat → Int32) × (Nat → Option SV)) (om : Int32 × Int32 × Int32 × Int32 × (Nat → Int32) × (Nat → Int32)), f_X11_request x.nextPast x.pastCount x.s_time x.s_tolerance x.s_seed x.s_madeTickets x.s_cheesesOfText x.s_R_rows x.s_R_cells x.s_U_rows x.s_U_cells x.s_S_rows x.s_S_cells x.s_T_rows x.s_T_cells x.s_E_rows x.s_E_cells x.pa v1 v2 = some ox ∧ (ox.1 = 0 ∨ ox.1 = 4 ∨ ox.1 = 1 ∨ ox.1 = 3) ∧ f_X12_request m.m_undoable m.m_undoStart m.m_thrown m.m_s m.m_remembered v1 v2 = some om ∧ om.2.2.2.1 = hcd [4, 1, 3] ox.1 ∧ (ox.1 = 0 → ox.2.1.toInt64 = om.1.toInt64) ∧ REL { x with nextPast := ox.2.2.1, pastCount := ox.2.2.2.1, s_seed := ox.2.2.2.2.1, s_madeTickets := ox.2.2.2.2.2.1, s_T_rows := ox.2.2.2.2.2.2.1, s_T_cells := ox.2.2.2.2.2.2.2.1, pa := ox.2.2.2.2.2.2.2.2 } { m with m_undoable := om.2.1, m_undoStart := om.2.2.1, m_thrown := om.2.2.2.1, m_s := om.2.2.2.2.1, m_remembered := om.2.2.2.2.2 }
def H52 (REL : FX → FM → Prop) : Prop := ∀ (x : FX) (m : FM), REL x m → ∀ (v1 : Int32), ∃ (ox : Nat × Int32 × Int32 × Int32 × Int32 × (Nat → Int32) × (Nat → Option SV)) (om : Int32 × Int32 × Int32 × Int32 × (Nat → Int32) × (Nat → Int32)), f_X11_renew x.nextPast x.pastCount x.s_time x.s_tolerance x.s_seed x.s_madeTickets x.s_cheesesOfText x.s_R_rows x.s_R_cells x.s_U_rows x.s_U_cells x.s_S_rows x.s_S_cells x.s_T_rows x.s_T_cells x.s_E_rows x.s_E_cells x.pa v1 = some ox ∧ (ox.1 = 0 ∨ ox.1 = 4 ∨ ox.1 = 3) ∧ f_X12_renew m.m_undoable m.m_undoStart m.m_thrown m.m_s m.m_remembered v1 = some om ∧ om.2.2.2.1 = hcd [4, 3] ox.1 ∧ (ox.1 = 0 → ox.2.1.toInt64 = om.1.toInt64) ∧ REL { x with nextPast := ox.2.2.1, pastCount := ox.2.2.2.1, s_seed := ox.2.2.2.2.1, s_T_cells := ox.2.2.2.2.2.1, pa := ox.2.2.2.2.2.2 } { m with m_undoable := om.2.1, m_undoStart := om.2.2.1, m_thrown := om.2.2.2.1, m_s := om.2.2.2.2.1, m_remembered := om.2.2.2.2.2 }
def H53 (REL : FX → FM → Prop) : Prop := ∀ (x : FX) (m : FM), REL x m → ∀ (v1 : Int32), ∃ (ox : Nat × Int32 × Int32 × Int32 × (Nat → Int32) × (Nat → Int32) × Int32 × (Nat → Int32) × (Nat → Option SV)) (om : Int32 × Int32 × Int32 × Int32 × (Nat → Int32) × (Nat → Int32)), f_X11_cheese x.nextPast x.pastCount x.s_time x.s_tolerance x.s_seed x.s_madeTickets x.s_cheesesOfText x.s_R_rows x.s_R_cells x.s_U_rows x.s_U_cells x.s_S_rows x.s_S_cells x.s_T_rows x.s_T_cells x.s_E_rows x.s_E_cells x.pa v1 = some ox ∧ (ox.1 = 0 ∨ ox.1 = 4 ∨ ox.1 = 3) ∧ f_X12_cheese m.m_undoable m.m_undoStart m.m_thrown m.m_s m.m_remembered v1 = some om ∧ om.2.2.2.1 = hcd [4, 3] ox.1 ∧ (ox.1 = 0 → ox.2.1.toInt64 = om.1.toInt64) ∧ REL { x with nextPast := ox.2.2.1, pastCount := ox.2.2.2.1, s_U_cells := ox.2.2.2.2.1, s_S_cells := ox.2.2.2.2.2.1, s_E_rows := ox.2.2.2.2.2.2.1, s_E_cells := ox.2.2.2.2.2.2.2.1, pa := ox.2.2.2.2.2.2.2.2 } { m with m_undoable := om.2.1, m_undoStart := om.2.2.1, m_thrown := om.2.2.2.1, m_s := om.2.2.2.2.1, m_remembered := om.2.2.2.2.2 }
def H54 (REL : FX → FM → Prop) : Prop := ∀ (x : FX) (m : FM), REL x m → ∀ (v1 : Int32), ∃ (ox : Nat × Int32 × Int32 × Int32 × Int32 × (Nat → Int32) × (Nat → Option SV)) (om : Int32 × Int32 × Int32 × Int32 × (Nat → Int32) × (Nat → Int32)), f_X11_drop x.nextPast x.pastCount x.s_time x.s_tolerance x.s_seed x.s_madeTickets x.s_cheesesOfText x.s_R_rows x.s_R_cells x.s_U_rows x.s_U_cells x.s_S_rows x.s_S_cells x.s_T_rows x.s_T_cells x.s_E_rows x.s_E_cells x.pa v1 = some ox ∧ (ox.1 = 0 ∨ ox.1 = 4) ∧ f_X12_drop m.m_undoable m.m_undoStart m.m_thrown m.m_s m.m_remembered v1 = some om ∧ om.2.2.2.1 = hcd [4] ox.1 ∧ (ox.1 = 0 → ox.2.1.toInt64 = om.1.toInt64) ∧ REL { x with nextPast := ox.2.2.1, pastCount := ox.2.2.2.1, s_T_rows := ox.2.2.2.2.1, s_T_cells := ox.2.2.2.2.2.1, pa := ox.2.2.2.2.2.2 } { m with m_undoable := om.2.1, m_undoStart := om.2.2.1, m_thrown := om.2.2.2.1, m_s := om.2.2.2.2.1, m_remembered := om.2.2.2.2.2 }
def H55 (REL : FX → FM → Prop) : Prop := ∀ (x : FX) (m : FM), REL x m → ∃ (ox : Nat × Int32 × Int32 × Int32 × Int32 × (Nat → Int32) × (Nat → Option SV)) (om : Int32 × Int32 × Int32 × Int32 × (Nat → Int32) × (Nat → Int32)), f_X11_sweep x.nextPast x.pastCount x.s_time x.s_tolerance x.s_seed x.s_madeTickets x.s_cheesesOfText x.s_R_rows x.s_R_cells x.s_U_rows x.s_U_cells x.s_S_rows x.s_S_cells x.s_T_rows x.s_T_cells x.s_E_rows x.s_E_cells x.pa = some ox ∧ ox.1 = 0 ∧ f_X12_sweep m.m_undoable m.m_undoStart m.m_thrown m.m_s m.m_remembered = some om ∧ ox.2.1 = om.1 ∧ REL { x with nextPast := ox.2.2.1, pastCount := ox.2.2.2.1, s_T_rows := ox.2.2.2.2.1, s_T_cells := ox.2.2.2.2.2.1, pa := ox.2.2.2.2.2.2 } { m with m_undoable := om.2.1, m_undoStart := om.2.2.1, m_thrown := om.2.2.2.1, m_s := om.2.2.2.2.1, m_remembered := om.2.2.2.2.2 }
def H56 (REL : FX → FM → Prop) : Prop := ∀ (x : FX) (m : FM), REL x m → ∀ (v1 v2 : Int32), ∃ (ox : Nat × Int32 × Int32 × Int32 × (Nat → Int32) × (Nat → Option SV)) (om : Int32 × Int32 × Int32 × Int32 × (Nat → Int32) × (Nat → Int32)), f_X11_setPassword x.nextPast x.pastCount x.s_time x.s_tolerance x.s_seed x.s_madeTickets x.s_cheesesOfText x.s_R_rows x.s_R_cells x.s_U_rows x.s_U_cells x.s_S_rows x.s_S_cells x.s_T_rows x.s_T_cells x.s_E_rows x.s_E_cells x.pa v1 v2 = some ox ∧ (ox.1 = 0 ∨ ox.1 = 1 ∨ ox.1 = 2) ∧ f_X12_setPassword m.m_undoable m.m_undoStart m.m_thrown m.m_s m.m_remembered v1 v2 = some om ∧ om.2.2.2.1 = hcd [1, 2] ox.1 ∧ (ox.1 = 0 → ox.2.1.toInt64 = om.1.toInt64) ∧ REL { x with nextPast := ox.2.2.1, pastCount := ox.2.2.2.1, s_U_cells := ox.2.2.2.2.1, pa := ox.2.2.2.2.2 } { m with m_undoable := om.2.1, m_undoStart := om.2.2.1, m_thrown := om.2.2.2.1, m_s := om.2.2.2.2.1, m_remembered := om.2.2.2.2.2 }
def H57 (REL : FX → FM → Prop) : Prop := ∀ (x : FX) (m : FM), REL x m → ∀ (v1 v2 : Int32), ∃ (ox : Nat × Int32 × Int32 × Int32 × (Nat → Int32) × (Nat → Option SV)) (om : Int32 × Int32 × Int32 × Int32 × (Nat → Int32) × (Nat → Int32)), f_X11_setClock x.nextPast x.pastCount x.s_time x.s_tolerance x.s_seed x.s_madeTickets x.s_cheesesOfText x.s_R_rows x.s_R_cells x.s_U_rows x.s_U_cells x.s_S_rows x.s_S_cells x.s_T_rows x.s_T_cells x.s_E_rows x.s_E_cells x.pa v1 v2 = some ox ∧ (ox.1 = 0 ∨ ox.1 = 1 ∨ ox.1 = 2) ∧ f_X12_setClock m.m_undoable m.m_undoStart m.m_thrown m.m_s m.m_remembered v1 v2 = some om ∧ om.2.2.2.1 = hcd [1, 2] ox.1 ∧ (ox.1 = 0 → ox.2.1.toInt64 = om.1.toInt64) ∧ REL { x with nextPast := ox.2.2.1, pastCount := ox.2.2.2.1, s_U_cells := ox.2.2.2.2.1, pa := ox.2.2.2.2.2 } { m with m_undoable := om.2.1, m_undoStart := om.2.2.1, m_thrown := om.2.2.2.1, m_s := om.2.2.2.2.1, m_remembered := om.2.2.2.2.2 }
def H58 (REL : FX → FM → Prop) : Prop := ∀ (x : FX) (m : FM), REL x m → ∀ (v1 : Int32), ∃ (ox : Nat × Int32 × Int32 × Int32 × Int32 × Int32 × (Nat → Int32) × (Nat → Option SV)) (om : Int32 × Int32 × Int32 × Int32 × (Nat → Int32) × (Nat → Int32)), f_X11_pass x.nextPast x.pastCount x.s_time x.s_tolerance x.s_seed x.s_madeTickets x.s_cheesesOfText x.s_R_rows x.s_R_cells x.s_U_rows x.s_U_cells x.s_S_rows x.s_S_cells x.s_T_rows x.s_T_cells x.s_E_rows x.s_E_cells x.pa v1 = some ox ∧ (ox.1 = 0 ∨ ox.1 = 2) ∧ f_X12_pass m.m_undoable m.m_undoStart m.m_thrown m.m_s m.m_remembered v1 = some om ∧ om.2.2.2.1 = hcd [2] ox.1 ∧ (ox.1 = 0 → ox.2.1.toInt64 = om.1.toInt64) ∧ REL { x with nextPast := ox.2.2.1, pastCount := ox.2.2.2.1, s_time := ox.2.2.2.2.1, s_E_rows := ox.2.2.2.2.2.1, s_E_cells := ox.2.2.2.2.2.2.1, pa := ox.2.2.2.2.2.2.2 } { m with m_undoable := om.2.1, m_undoStart := om.2.2.1, m_thrown := om.2.2.2.1, m_s := om.2.2.2.2.1, m_remembered := om.2.2.2.2.2 }
def H59 (REL : FX → FM → Prop) : Prop := ∀ (x : FX) (m : FM), REL x m → ∀ (v1 : Int32), ∃ (ox : Nat × Int32 × Int32 × (Nat → Int32)) (om : Int32 × Int32 × Int32 × (Nat → Int32)), f_X11_writeTicket x.o_count x.o_cells x.s_R_rows x.s_R_cells x.s_U_rows x.s_U_cells x.s_S_rows x.s_S_cells x.s_T_rows x.s_T_cells v1 = some ox ∧ (ox.1 = 0 ∨ ox.1 = 4) ∧ f_X12_writeTicket m.m_thrown m.m_outputLength m.m_s m.m_output v1 = some om ∧ om.2.1 = hcd [4] ox.1 ∧ (ox.1 = 0 → ox.2.1.toInt64 = om.1.toInt64) ∧ REL { x with o_count := ox.2.2.1, o_cells := ox.2.2.2 } { m with m_thrown := om.2.1, m_outputLength := om.2.2.1, m_output := om.2.2.2 }
def H60 (REL : FX → FM → Prop) : Prop := ∀ (x : FX) (m : FM), REL x m → ∀ (v1 : Int32), ∃ (ox : Nat × Int32) (om : Int32 × Int32), f_X11_outputByte x.o_count x.o_cells v1 = some ox ∧ (ox.1 = 0 ∨ ox.1 = 4) ∧ f_X12_outputByte m.m_thrown m.m_outputLength m.m_output v1 = some om ∧ om.2 = hcd [4] ox.1 ∧ (ox.1 = 0 → ox.2.toInt64 = om.1.toInt64) ∧ REL x { m with m_thrown := om.2 }
def H61 (REL : FX → FM → Prop) : Prop := ∀ (x : FX) (m : FM), REL x m → ∀ (v1 : Int32), ∃ (ox : Nat × Int32 × (Nat → Option SV)) (om : Int32 × Int32 × (Nat → Int32) × (Nat → Int32)), f_X11_save x.s_time x.s_tolerance x.s_seed x.s_madeTickets x.s_cheesesOfText x.s_R_rows x.s_R_cells x.s_U_rows x.s_U_cells x.s_S_rows x.s_S_cells x.s_T_rows x.s_T_cells x.s_E_rows x.s_E_cells x.sl v1 = some ox ∧ (ox.1 = 0 ∨ ox.1 = 1) ∧ f_X12_save m.m_thrown m.m_s m.m_slots m.m_kept v1 = some om ∧ om.2.1 = hcd [1] ox.1 ∧ (ox.1 = 0 → ox.2.1.toInt64 = om.1.toInt64) ∧ REL { x with sl := ox.2.2 } { m with m_thrown := om.2.1, m_slots := om.2.2.1, m_kept := om.2.2.2 }
def H62 (REL : FX → FM → Prop) : Prop := ∀ (x : FX) (m : FM), REL x m → ∀ (v1 : Int32), ∃ (ox : Nat × Int32 × Int32 × Int32 × Int32 × Int32 × Int32 × Int32 × Int32 × Int32 × (Nat → Int32) × Int32 × (Nat → Int32) × Int32 × (Nat → Int32) × Int32 × (Nat → Int32) × Int32 × (Nat → Int32) × (Nat → Option SV)) (om : Int32 × Int32 × Int32 × Int32 × (Nat → Int32) × (Nat → Int32)), f_X11_restore x.nextPast x.pastCount x.s_time x.s_tolerance x.s_seed x.s_madeTickets x.s_cheesesOfText x.s_R_rows x.s_R_cells x.s_U_rows x.s_U_cells x.s_S_rows x.s_S_cells x.s_T_rows x.s_T_cells x.s_E_rows x.s_E_cells x.sl x.pa v1 = some ox ∧ (ox.1 = 0 ∨ ox.1 = 1 ∨ ox.1 = 3) ∧ f_X12_restore m.m_undoable m.m_undoStart m.m_thrown m.m_s m.m_remembered m.m_slots m.m_kept v1 = some om ∧ om.2.2.2.1 = hcd [1, 3] ox.1 ∧ (ox.1 = 0 → ox.2.1.toInt64 = om.1.toInt64) ∧ REL { x with nextPast := ox.2.2.1, pastCount := ox.2.2.2.1, s_time := ox.2.2.2.2.1, s_tolerance := ox.2.2.2.2.2.1, s_seed := ox.2.2.2.2.2.2.1, s_madeTickets := ox.2.2.2.2.2.2.2.1, s_cheesesOfText := ox.2.2.2.2.2.2.2.2.1, s_R_rows := ox.2.2.2.2.2.2.2.2.2.1, s_R_cells := ox.2.2.2.2.2.2.2.2.2.2.1, s_U_rows := ox.2.2.2.2.2.2.2.2.2.2.2.1, s_U_cells := ox.2.2.2.2.2.2.2.2.2.2.2.2.1, s_S_rows := ox.2.2.2.2.2.2.2.2.2.2.2.2.2.1, s_S_cells := ox.2.2.2.2.2.2.2.2.2.2.2.2.2.2.1, s_T_rows := ox.2.2.2.2.2.2.2.2.2.2.2.2.2.2.2.1, s_T_cells := ox.2.2.2.2.2.2.2.2.2.2.2.2.2.2.2.2.1, s_E_rows := ox.2.2.2.2.2.2.2.2.2.2.2.2.2.2.2.2.2.1, s_E_cells := ox.2.2.2.2.2.2.2.2.2.2.2.2.2.2.2.2.2.2.1, pa := ox.2.2.2.2.2.2.2.2.2.2.2.2.2.2.2.2.2.2.2 } { m with m_undoable := om.2.1, m_undoStart := om.2.2.1, m_thrown := om.2.2.2.1, m_s := om.2.2.2.2.1, m_remembered := om.2.2.2.2.2 }
def H63 (REL : FX → FM → Prop) : Prop := ∀ (x : FX) (m : FM), REL x m → ∃ (ox : Nat × Int32 × Int32 × Int32 × Int32 × Int32 × Int32 × Int32 × Int32 × Int32 × (Nat → Int32) × Int32 × (Nat → Int32) × Int32 × (Nat → Int32) × Int32 × (Nat → Int32) × Int32 × (Nat → Int32)) (om : Int32 × Int32 × Int32 × (Nat → Int32)), f_X11_undo x.nextPast x.pastCount x.s_time x.s_tolerance x.s_seed x.s_madeTickets x.s_cheesesOfText x.s_R_rows x.s_R_cells x.s_U_rows x.s_U_cells x.s_S_rows x.s_S_cells x.s_T_rows x.s_T_cells x.s_E_rows x.s_E_cells x.pa = some ox ∧ (ox.1 = 0 ∨ ox.1 = 3) ∧ f_X12_undo m.m_undoable m.m_undoStart m.m_thrown m.m_s m.m_remembered = some om ∧ om.2.2.1 = hcd [3] ox.1 ∧ (ox.1 = 0 → ox.2.1.toInt64 = om.1.toInt64) ∧ REL { x with nextPast := ox.2.2.1, pastCount := ox.2.2.2.1, s_time := ox.2.2.2.2.1, s_tolerance := ox.2.2.2.2.2.1, s_seed := ox.2.2.2.2.2.2.1, s_madeTickets := ox.2.2.2.2.2.2.2.1, s_cheesesOfText := ox.2.2.2.2.2.2.2.2.1, s_R_rows := ox.2.2.2.2.2.2.2.2.2.1, s_R_cells := ox.2.2.2.2.2.2.2.2.2.2.1, s_U_rows := ox.2.2.2.2.2.2.2.2.2.2.2.1, s_U_cells := ox.2.2.2.2.2.2.2.2.2.2.2.2.1, s_S_rows := ox.2.2.2.2.2.2.2.2.2.2.2.2.2.1, s_S_cells := ox.2.2.2.2.2.2.2.2.2.2.2.2.2.2.1, s_T_rows := ox.2.2.2.2.2.2.2.2.2.2.2.2.2.2.2.1, s_T_cells := ox.2.2.2.2.2.2.2.2.2.2.2.2.2.2.2.2.1, s_E_rows := ox.2.2.2.2.2.2.2.2.2.2.2.2.2.2.2.2.2.1, s_E_cells := ox.2.2.2.2.2.2.2.2.2.2.2.2.2.2.2.2.2.2 } { m with m_undoable := om.2.1, m_thrown := om.2.2.1, m_s := om.2.2.2 }
structure HALL (REL : FX → FM → Prop) : Prop where
  h0 : H0 REL
  h1 : H1 REL
  h2 : H2 REL
  h3 : H3 REL
  h4 : H4 REL
  h5 : H5 REL
  h6 : H6 REL
  h7 : H7 REL
  h8 : H8 REL
  h9 : H9 REL
  h10 : H10 REL
  h11 : H11 REL
  h12 : H12 REL
  h13 : H13 REL
  h14 : H14 REL
  h15 : H15 REL
  h16 : H16 REL
  h17 : H17 REL
  h18 : H18 REL
  h19 : H19 REL
  h20 : H20 REL
  h21 : H21 REL
  h22 : H22 REL
  h23 : H23 REL
  h24 : H24 REL
  h25 : H25 REL
  h26 : H26 REL
  h27 : H27 REL
  h28 : H28 REL
  h29 : H29 REL
  h30 : H30 REL
  h31 : H31 REL
  h32 : H32 REL
  h33 : H33 REL
  h34 : H34 REL
  h35 : H35 REL
  h36 : H36 REL
  h37 : H37 REL
  h38 : H38 REL
  h39 : H39 REL
  h40 : H40 REL
  h41 : H41 REL
  h42 : H42 REL
  h43 : H43 REL
  h44 : H44 REL
  h45 : H45 REL
  h46 : H46 REL
  h47 : H47 REL
  h48 : H48 REL
  h49 : H49 REL
  h50 : H50 REL
  h51 : H51 REL
  h52 : H52 REL
  h53 : H53 REL
  h54 : H54 REL
  h55 : H55 REL
  h56 : H56 REL
  h57 : H57 REL
  h58 : H58 REL
  h59 : H59 REL
  h60 : H60 REL
  h61 : H61 REL
  h62 : H62 REL
  h63 : H63 REL
theorem sc_in {n L : Nat} (hn : n + 6 ≤ L) (hL : L ≤ 3072) (k : Nat) (hk : k ≤ 5) : vp_in (nlaw n + Int32.ofNat k) L := by
  have h : nlaw n + Int32.ofNat k = Int32.ofNat (n + k) := (Int32.ofNat_add n k).symm
  rw [h]
  have h1 : (Int32.ofNat (n + k)).toInt = ((n + k : Nat) : Int) := Int32.toInt_ofNat_of_lt (by omega)
  show ¬ (Int32.ofNat (n + k) < 0 ∨ L ≤ (Int32.ofNat (n + k)).toNatClampNeg)
  have h2 : (Int32.ofNat (n + k)).toNatClampNeg = n + k := by
    show (Int32.ofNat (n + k)).toInt.toNat = n + k
    rw [h1]; omega
  rw [h2]
  rintro (h3 | h3)
  · have := Int32.lt_iff_toInt_lt.mp h3
    rw [h1] at this
    have h0 : (0 : Int32).toInt = 0 := by decide
    omega
  · omega
