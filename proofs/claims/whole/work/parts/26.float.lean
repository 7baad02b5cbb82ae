/-! Answers that are no whole numbers. -/
def fdq (x y : UInt32) : Option UInt32 := if FP.fdiv x y &&& 0x7fffffff ≤ 0x7f800000 then some (FP.fdiv x y) else none
def ddq (x y : UInt64) : Option UInt64 := if FP.ddiv x y &&& 0x7fffffffffffffff ≤ 0x7ff0000000000000 then some (FP.ddiv x y) else none
def eF (D : va_G) (tys : List (ClassId × FieldType)) (A : Nat → Prop) (r : UInt32) (WS : va_W) : Array Value → State → Outcome → State → Prop := va_Qf (fun (r' : UInt32) (_ : Unit) => r' = r) (fun _ t => va_P D vwCl WS t.heap ∧ va_K D vwCl tys t ∧ va_D A WS) A
def mF (l : Launch) (y : MethodName) (ws : List Cond) (rm : Room) (G : (Nat → Prop) → State → Heap → Prop) (D : va_G) (tys : List (ClassId × FieldType)) (av : List Value) (WS F : va_W) (mc ms : Nat) (r : UInt32) (WS' : va_W) : Prop := ∀ sz : Nat, Met l y ws rm (va_Pc av (pW G D tys sz (WS ++ F))) (eF D tys (va_A (WS ++ F) sz) r (WS' ++ F)) mc ms (va_A (WS ++ F) sz)
def eD (D : va_G) (tys : List (ClassId × FieldType)) (A : Nat → Prop) (r : UInt64) (WS : va_W) : Array Value → State → Outcome → State → Prop := va_Qd (fun (r' : UInt64) (_ : Unit) => r' = r) (fun _ t => va_P D vwCl WS t.heap ∧ va_K D vwCl tys t ∧ va_D A WS) A
def mD (l : Launch) (y : MethodName) (ws : List Cond) (rm : Room) (G : (Nat → Prop) → State → Heap → Prop) (D : va_G) (tys : List (ClassId × FieldType)) (av : List Value) (WS F : va_W) (mc ms : Nat) (r : UInt64) (WS' : va_W) : Prop := ∀ sz : Nat, Met l y ws rm (va_Pc av (pW G D tys sz (WS ++ F))) (eD D tys (va_A (WS ++ F) sz) r (WS' ++ F)) mc ms (va_A (WS ++ F) sz)
section VFL
variable {p : Program} {l : Launch} {e : Env} {R : Room} {s : State} {m : MethodId} {args : Array Value} {below : List Frame} {meth : Method} {c : Code} {cc : ByteArray} {nL : Nat} {ret : Option FieldType} {own : String} {Ts : List Cond} {D : va_G} {tys : List (ClassId × FieldType)} {G : (Nat → Prop) → State → Heap → Prop} {A : Nat → Prop} {F : va_W} {cells slots : Nat} {Q : State → Prop} {ws : va_W} {pc : Nat} {lv : List (Nat × Value)} {st : List Value}
theorem mF_of (hG : vG G) {y : MethodName} {wsy ws' : List Cond} {maxL : Nat} {ty : FieldType} {av : List Value} {WS WS' : va_W} {mc ms : Nat} {r : UInt32} (hy : plainName y.cls = true) (hw : wsy = Cond.code y cc maxL (some ty) :: ws') (hlen : (lg_sl av).length ≤ maxL)
    (h : ∀ (p : Program) (e : Env) (s : State) (m : MethodId) (args : Array Value) (below : List Frame) (meth : Method) (c : Code) (A : Nat → Prop), vX p s m args meth c cc maxL (some ty) y.cls wsy D tys G A → vW p l e R s m args below meth c maxL D A F 0 0 (MQ below (eF D tys A r (WS' ++ F)) args s mc ms A) WS 0 (lv_args 0 av) []) : mF l y wsy R G D tys av WS F mc ms r WS' := by
  intro sz
  refine Met.ofW (cc := cc) (maxL := maxL) (ret := some ty) hy hw ?_
  intro p e s m args below meth c s₁ B hml hv
  obtain ⟨rfl, hsz, hP, hK, hD0, hGv⟩ := hv
  have hts := atoms_spec (ws := wsy) B.pre
  have hown : s.vm.findClass y.cls = some m.cls := findClass_of_methodNamed B.named
  subst hsz
  have hD := hD0.self (sz := s.heap.size)
  rw [lg_entry_eq]
  exact h p e s m _ below meth c _ ⟨B.exec, B.bytes, B.returns, hml, hown, hts, B.notSynchronized, hK, fun q h => Or.inr h, hG, hGv⟩ s.heap [] _ hP hD va_S.rf (lv_entry av hlen)
theorem v_fret {mc ms : Nat} {r : UInt32} (X : vX p s m args meth c cc nL (some .float) own Ts D tys G A) (hc : cells ≤ mc) (hs : slots ≤ ms) (d : decode cc pc = .ok (.freturn, 1)) : vW p l e R s m args below meth c nL D A F cells slots (MQ below (eF D tys A r (ws ++ F)) args s mc ms A) ws pc lv [.float r] :=
  fun H locs ls hP hD hS hl => W.widen hc hs (W.fret (v := r) X.1 X.2.1 X.2.2.1 (fun t ht hW => ⟨⟨r, (), rfl, rfl, by rw [ht]; exact hP, va_K.moved hW.alike X.2.2.2.2.2.2.2.1, hD⟩, hS.F ht⟩) hS.2.2 d X.2.2.2.2.2.2.1)
theorem v_callVf (X : vX p s m args meth c cc nL ret own Ts D tys G A) {y : MethodName} {wsy wsy' : List Cond} {rmy : Room} {bytes : ByteArray} {maxL index : Nat} {mc ms : Nat} {WC WC' ws' : va_W} {As rest : List Value} {C : String} {ci : Nat} {T : u_T} {N b : Nat} {fs : List Value} {r : UInt32} {ty : FieldType} (hM : mF l y wsy rmy G D tys (.ref b :: As) WC [] mc ms r WC') (n : Nat) (hT : GoodIn Ts (wsV own index C y wsy)) (hw : wsy = Cond.code y bytes maxL (some ty) :: wsy') (hrc : rmy.cells = mc) (hrs : rmy.slots = ms) (hd : y.cls = C ∧ y.cls ≠ "java/lang/invoke/MethodHandle" ∧ y.cls ≠ "java/lang/invoke/VarHandle" ∧ (parseMethodDescriptor y.desc).map (fun d => d.parameters.length) = some n) (hR : rmy.frames + 1 ≤ R.frames ∧ 8 + (maxL + 11) + rmy.locals ≤ R.locals)
    (q0 : Nat) (he : ws[q0]? = some (b, .inr (ci, fs))) (hci : vwCl[ci]? = some (C, T, N)) (hn : As.length = n) (hst : st = As.reverse ++ .ref b :: rest) (hW : (rest.map fun v => v.category).sum ≤ 8) (hf : cells + mc ≤ R.cells ∧ slots + ms ≤ R.slots) (isC isR is2 : List Nat) (hC : isC.map (fun i => ws[i]?) = WC.map some) (hR2 : isR.map (fun i => ws[i]?) = (wpick ws isR).map some) (h2 : is2.map (fun i => (wpick ws isR ++ WC')[i]?) = ws'.map some) (hnd : (va_nd isC && va_nd isR && va_nd is2 && isR.all (fun i => !isC.contains i)) = true)
    (d : decode cc pc = .ok (.invokevirtual index, 3)) (q : Nat) (hq : pc + 3 = q) (K : vW p l e R s m args below meth c nL D A F (cells + mc) (slots + ms) Q ws' q lv (.float r :: rest)) : vW p l e R s m args below meth c nL D A F cells slots Q ws pc lv st := by
  subst hq
  subst hst
  intro H locs ls hP hD hS hl
  simp only [Bool.and_eq_true] at hnd
  obtain ⟨⟨⟨hnC, hnR⟩, hn2⟩, hdis0⟩ := hnd
  have hdis : ∀ i ∈ isR, i ∉ isC := fun i hi hc => by
    have := List.all_eq_true.mp hdis0 i hi
    simp [hc] at this
  have hFc : ∀ q, va_A WC H.size q → A q := va_free (va_D_left hD) hS X.2.2.2.2.2.2.2.2.1 isC hC
  have hA9 : WC ++ [] = WC := List.append_nil WC
  refine va_callf (va_runV ⟨X.1, X.2.1, X.2.2.2.1, X.2.2.2.2.1, X.2.2.2.2.2.1⟩ (hM H.size) (cwV n X.2.2.2.2.2.1 hT hw hrc hrs hd hR) ⟨pW_blind X.2.2.2.2.2.2.2.2.2.1, va_recv X.2.2.2.2.2.2.2.1 (va_P_left hP) hci he, v_pc X.2.2.2.2.2.2.2.2 hP hD hS X.2.2.2.2.2.2.2.1 isC hC hnC⟩ rfl hn hl.1 rfl (lv_room hW) d hf) hS (fun q _ h => hFc q (by rw [hA9] at h; exact h)) (fun q h => hFc q (by rw [hA9] at h; exact h)) (fun r' u t H1 locs1 ht hvm hpost hB hz1 hk1 hS => ?_)
  subst hpost
  obtain ⟨hP1, hK1, hD1⟩ := hB
  rw [ht] at hP1
  simp only [List.append_nil] at hP1 hD1 hk1
  obtain ⟨hP, hD⟩ := vj hP hD isC isR is2 hC hR2 hnR hdis hn2 h2 hk1 hFc hP1 hD1
  exact K H1 locs1 ls hP hD hS hl
theorem mD_of (hG : vG G) {y : MethodName} {wsy ws' : List Cond} {maxL : Nat} {ty : FieldType} {av : List Value} {WS WS' : va_W} {mc ms : Nat} {r : UInt64} (hy : plainName y.cls = true) (hw : wsy = Cond.code y cc maxL (some ty) :: ws') (hlen : (lg_sl av).length ≤ maxL)
    (h : ∀ (p : Program) (e : Env) (s : State) (m : MethodId) (args : Array Value) (below : List Frame) (meth : Method) (c : Code) (A : Nat → Prop), vX p s m args meth c cc maxL (some ty) y.cls wsy D tys G A → vW p l e R s m args below meth c maxL D A F 0 0 (MQ below (eD D tys A r (WS' ++ F)) args s mc ms A) WS 0 (lv_args 0 av) []) : mD l y wsy R G D tys av WS F mc ms r WS' := by
  intro sz
  refine Met.ofW (cc := cc) (maxL := maxL) (ret := some ty) hy hw ?_
  intro p e s m args below meth c s₁ B hml hv
  obtain ⟨rfl, hsz, hP, hK, hD0, hGv⟩ := hv
  have hts := atoms_spec (ws := wsy) B.pre
  have hown : s.vm.findClass y.cls = some m.cls := findClass_of_methodNamed B.named
  subst hsz
  have hD := hD0.self (sz := s.heap.size)
  rw [lg_entry_eq]
  exact h p e s m _ below meth c _ ⟨B.exec, B.bytes, B.returns, hml, hown, hts, B.notSynchronized, hK, fun q h => Or.inr h, hG, hGv⟩ s.heap [] _ hP hD va_S.rf (lv_entry av hlen)
theorem v_dret {mc ms : Nat} {r : UInt64} (X : vX p s m args meth c cc nL (some .double) own Ts D tys G A) (hc : cells ≤ mc) (hs : slots ≤ ms) (d : decode cc pc = .ok (.dreturn, 1)) : vW p l e R s m args below meth c nL D A F cells slots (MQ below (eD D tys A r (ws ++ F)) args s mc ms A) ws pc lv [.double r] :=
  fun H locs ls hP hD hS hl => W.widen hc hs (W.dret (v := r) X.1 X.2.1 X.2.2.1 (fun t ht hW => ⟨⟨r, (), rfl, rfl, by rw [ht]; exact hP, va_K.moved hW.alike X.2.2.2.2.2.2.2.1, hD⟩, hS.F ht⟩) hS.2.2 d X.2.2.2.2.2.2.1)
theorem v_callVd (X : vX p s m args meth c cc nL ret own Ts D tys G A) {y : MethodName} {wsy wsy' : List Cond} {rmy : Room} {bytes : ByteArray} {maxL index : Nat} {mc ms : Nat} {WC WC' ws' : va_W} {As rest : List Value} {C : String} {ci : Nat} {T : u_T} {N b : Nat} {fs : List Value} {r : UInt64} {ty : FieldType} (hM : mD l y wsy rmy G D tys (.ref b :: As) WC [] mc ms r WC') (n : Nat) (hT : GoodIn Ts (wsV own index C y wsy)) (hw : wsy = Cond.code y bytes maxL (some ty) :: wsy') (hrc : rmy.cells = mc) (hrs : rmy.slots = ms) (hd : y.cls = C ∧ y.cls ≠ "java/lang/invoke/MethodHandle" ∧ y.cls ≠ "java/lang/invoke/VarHandle" ∧ (parseMethodDescriptor y.desc).map (fun d => d.parameters.length) = some n) (hR : rmy.frames + 1 ≤ R.frames ∧ 8 + (maxL + 11) + rmy.locals ≤ R.locals)
    (q0 : Nat) (he : ws[q0]? = some (b, .inr (ci, fs))) (hci : vwCl[ci]? = some (C, T, N)) (hn : As.length = n) (hst : st = As.reverse ++ .ref b :: rest) (hW : (rest.map fun v => v.category).sum ≤ 8) (hf : cells + mc ≤ R.cells ∧ slots + ms ≤ R.slots) (isC isR is2 : List Nat) (hC : isC.map (fun i => ws[i]?) = WC.map some) (hR2 : isR.map (fun i => ws[i]?) = (wpick ws isR).map some) (h2 : is2.map (fun i => (wpick ws isR ++ WC')[i]?) = ws'.map some) (hnd : (va_nd isC && va_nd isR && va_nd is2 && isR.all (fun i => !isC.contains i)) = true)
    (d : decode cc pc = .ok (.invokevirtual index, 3)) (q : Nat) (hq : pc + 3 = q) (K : vW p l e R s m args below meth c nL D A F (cells + mc) (slots + ms) Q ws' q lv (.double r :: rest)) : vW p l e R s m args below meth c nL D A F cells slots Q ws pc lv st := by
  subst hq
  subst hst
  intro H locs ls hP hD hS hl
  simp only [Bool.and_eq_true] at hnd
  obtain ⟨⟨⟨hnC, hnR⟩, hn2⟩, hdis0⟩ := hnd
  have hdis : ∀ i ∈ isR, i ∉ isC := fun i hi hc => by
    have := List.all_eq_true.mp hdis0 i hi
    simp [hc] at this
  have hFc : ∀ q, va_A WC H.size q → A q := va_free (va_D_left hD) hS X.2.2.2.2.2.2.2.2.1 isC hC
  have hA9 : WC ++ [] = WC := List.append_nil WC
  refine va_calld (va_runV ⟨X.1, X.2.1, X.2.2.2.1, X.2.2.2.2.1, X.2.2.2.2.2.1⟩ (hM H.size) (cwV n X.2.2.2.2.2.1 hT hw hrc hrs hd hR) ⟨pW_blind X.2.2.2.2.2.2.2.2.2.1, va_recv X.2.2.2.2.2.2.2.1 (va_P_left hP) hci he, v_pc X.2.2.2.2.2.2.2.2 hP hD hS X.2.2.2.2.2.2.2.1 isC hC hnC⟩ rfl hn hl.1 rfl (lv_room hW) d hf) hS (fun q _ h => hFc q (by rw [hA9] at h; exact h)) (fun q h => hFc q (by rw [hA9] at h; exact h)) (fun r' u t H1 locs1 ht hvm hpost hB hz1 hk1 hS => ?_)
  subst hpost
  obtain ⟨hP1, hK1, hD1⟩ := hB
  rw [ht] at hP1
  simp only [List.append_nil] at hP1 hD1 hk1
  obtain ⟨hP, hD⟩ := vj hP hD isC isR is2 hC hR2 hnR hdis hn2 h2 hk1 hFc hP1 hD1
  exact K H1 locs1 ls hP hD hS hl
theorem v_fconst0 (X : vX p s m args meth c cc nL ret own Ts D tys G A)  (d : decode cc pc = .ok (.fconst 0, 1)) (q : Nat) (hq : pc + 1 = q) (K : vW p l e R s m args below meth c nL D A F cells slots Q ws q lv (.float FP.fconst0 :: st)) : vW p l e R s m args below meth c nL D A F cells slots Q ws pc lv st := by
  subst hq
  exact fun H locs ls hP hD hS hl => lv_fconst0 X.1 X.2.1 d (K H locs ls hP hD hS hl)
theorem v_dconst0 (X : vX p s m args meth c cc nL ret own Ts D tys G A)  (d : decode cc pc = .ok (.dconst 0, 1)) (q : Nat) (hq : pc + 1 = q) (K : vW p l e R s m args below meth c nL D A F cells slots Q ws q lv (.double FP.dconst0 :: st)) : vW p l e R s m args below meth c nL D A F cells slots Q ws pc lv st := by
  subst hq
  exact fun H locs ls hP hD hS hl => lv_dconst0 X.1 X.2.1 d (K H locs ls hP hD hS hl)
theorem v_i2f (X : vX p s m args meth c cc nL ret own Ts D tys G A) {x : Int32} (d : decode cc pc = .ok (.i2f, 1)) (q : Nat) (hq : pc + 1 = q) (K : vW p l e R s m args below meth c nL D A F cells slots Q ws q lv (.float (FP.i2f x) :: st)) : vW p l e R s m args below meth c nL D A F cells slots Q ws pc lv (.int x :: st) := by
  subst hq
  exact fun H locs ls hP hD hS hl => lv_i2f X.1 X.2.1 d (K H locs ls hP hD hS hl)
theorem v_i2d (X : vX p s m args meth c cc nL ret own Ts D tys G A) {x : Int32} (d : decode cc pc = .ok (.i2d, 1)) (q : Nat) (hq : pc + 1 = q) (K : vW p l e R s m args below meth c nL D A F cells slots Q ws q lv (.double (FP.i2d x) :: st)) : vW p l e R s m args below meth c nL D A F cells slots Q ws pc lv (.int x :: st) := by
  subst hq
  exact fun H locs ls hP hD hS hl => lv_i2d X.1 X.2.1 d (K H locs ls hP hD hS hl)
theorem v_fdivq (X : vX p s m args meth c cc nL ret own Ts D tys G A) {x y z : UInt32} (h : fdq x y = some z) (d : decode cc pc = .ok (.fdiv, 1)) (q : Nat) (hq : pc + 1 = q) (K : vW p l e R s m args below meth c nL D A F cells slots Q ws q lv (.float z :: st)) : vW p l e R s m args below meth c nL D A F cells slots Q ws pc lv (.float y :: .float x :: st) := by
  subst hq
  unfold fdq at h
  split at h
  · rename_i hne
    cases h
    exact fun H locs ls hP hD hS hl => lv_fdiv X.1 X.2.1 d hne (K H locs ls hP hD hS hl)
  · cases h
theorem v_ddivq (X : vX p s m args meth c cc nL ret own Ts D tys G A) {x y z : UInt64} (h : ddq x y = some z) (d : decode cc pc = .ok (.ddiv, 1)) (q : Nat) (hq : pc + 1 = q) (K : vW p l e R s m args below meth c nL D A F cells slots Q ws q lv (.double z :: st)) : vW p l e R s m args below meth c nL D A F cells slots Q ws pc lv (.double y :: .double x :: st) := by
  subst hq
  unfold ddq at h
  split at h
  · rename_i hne
    cases h
    exact fun H locs ls hP hD hS hl => lv_ddiv X.1 X.2.1 d hne (K H locs ls hP hD hS hl)
  · cases h
end VFL
theorem wflt_0 : Cond.laysFinal RX11 "TicketGate" "input" "LTicketGate$Bytes;" ∈ Wg := t4_in (List.mem_of_getElem? (i := 10) rfl) rfl
theorem wflt_1 : Cond.laysFinal RX11 "TicketGate" "output" "LTicketGate$Bytes;" ∈ Wg := t4_in (List.mem_of_getElem? (i := 12) rfl) rfl
theorem wflt_2 : Cond.laysFinal RX11 "TicketGate" "parser" "LTicketGate$Parser;" ∈ Wg := t4_in (List.mem_of_getElem? (i := 14) rfl) rfl
theorem wflt_3 : Cond.laysFinal RX11 "TicketGate" "state" "LTicketGate$State;" ∈ Wg := t4_in (List.mem_of_getElem? (i := 16) rfl) rfl
theorem wflt_4 : Cond.laysFinal RX11 "TicketGate" "slots" "LTicketGate$Shelf;" ∈ Wg := t4_in (List.mem_of_getElem? (i := 18) rfl) rfl
theorem wflt_5 : Cond.laysFinal RX11 "TicketGate" "past" "LTicketGate$Shelf;" ∈ Wg := t4_in (List.mem_of_getElem? (i := 20) rfl) rfl
theorem wflt_6 : Cond.lays RX11 "TicketGate" "nextPast" "I" ∈ Wg := t4_in (List.mem_of_getElem? (i := 22) rfl) rfl
theorem wflt_7 : Cond.lays RX11 "TicketGate" "pastCount" "I" ∈ Wg := t4_in (List.mem_of_getElem? (i := 24) rfl) rfl
theorem wflt_8 : Cond.fieldLink RX11 33 "TicketGate" "state" "LTicketGate$State;" ∈ Wg := t4_in (List.mem_of_getElem? (i := 5) rfl) rfl
theorem wflt_9 : Cond.laysFinal RX5 "TicketGate$State" "realms" "LTicketGate$Realms;" ∈ Wg := t1_in (List.mem_of_getElem? (i := 155) rfl) rfl
theorem wflt_10 : Cond.laysFinal RX5 "TicketGate$State" "users" "LTicketGate$Users;" ∈ Wg := t1_in (List.mem_of_getElem? (i := 157) rfl) rfl
theorem wflt_11 : Cond.laysFinal RX5 "TicketGate$State" "services" "LTicketGate$Services;" ∈ Wg := t1_in (List.mem_of_getElem? (i := 159) rfl) rfl
theorem wflt_12 : Cond.laysFinal RX5 "TicketGate$State" "tickets" "LTicketGate$Tickets;" ∈ Wg := t1_in (List.mem_of_getElem? (i := 161) rfl) rfl
theorem wflt_13 : Cond.laysFinal RX5 "TicketGate$State" "uses" "LTicketGate$Uses;" ∈ Wg := t1_in (List.mem_of_getElem? (i := 163) rfl) rfl
theorem wflt_14 : Cond.lays RX5 "TicketGate$State" "time" "I" ∈ Wg := t1_in (List.mem_of_getElem? (i := 165) rfl) rfl
theorem wflt_15 : Cond.lays RX5 "TicketGate$State" "tolerance" "I" ∈ Wg := t1_in (List.mem_of_getElem? (i := 167) rfl) rfl
theorem wflt_16 : Cond.lays RX5 "TicketGate$State" "seed" "I" ∈ Wg := t1_in (List.mem_of_getElem? (i := 169) rfl) rfl
theorem wflt_17 : Cond.lays RX5 "TicketGate$State" "madeTickets" "I" ∈ Wg := t1_in (List.mem_of_getElem? (i := 171) rfl) rfl
theorem wflt_18 : Cond.lays RX5 "TicketGate$State" "cheesesOfText" "I" ∈ Wg := t1_in (List.mem_of_getElem? (i := 173) rfl) rfl
theorem wflt_19 : Cond.laysFinal RX7 "TicketGate$Table" "limit" "I" ∈ Wg := t1_in (List.mem_of_getElem? (i := 115) rfl) rfl
theorem wflt_20 : Cond.laysFinal RX7 "TicketGate$Table" "width" "I" ∈ Wg := t1_in (List.mem_of_getElem? (i := 116) rfl) rfl
theorem wflt_21 : Cond.laysFinal RX7 "TicketGate$Table" "cells" "[I" ∈ Wg := t1_in (List.mem_of_getElem? (i := 117) rfl) rfl
theorem wflt_22 : Cond.lays RX7 "TicketGate$Table" "rows" "I" ∈ Wg := t1_in (List.mem_of_getElem? (i := 118) rfl) rfl
theorem wflt_23 : Cond.methodLink RX11 102 ⟨"TicketGate$Tickets", "size", "()I"⟩ ∈ Wg := t4_in (List.mem_of_getElem? (i := 79) rfl) rfl
theorem wflt_24 : Cond.sameMethod "TicketGate$Tickets" "TicketGate$Table" "size" "()I" ∈ Wg := t3_in (List.mem_of_getElem? (i := 195) rfl) rfl
theorem wflt_25 : Cond.selects RX7 ⟨"TicketGate$Tickets", "size", "()I"⟩ yX6_size ∈ Wg := t3_in (List.mem_of_getElem? (i := 196) rfl) rfl
theorem wflt_26 : Cond.instanceMethod yX6_size ∈ Wg := t3_in (List.mem_of_getElem? (i := 147) rfl) rfl
theorem wflt_27 : Cond.initialized RX6 ∈ Wg := t1_in (List.mem_of_getElem? (i := 6) rfl) rfl
theorem wflt_28 : Cond.code yX6_size cX6_size 1 (some .int) ∈ Wg := t3_in (List.mem_of_getElem? (i := 148) rfl) rfl
theorem wflt_29 : Cond.methodLink RX11 245 yX11_validTickets ∈ Wg := t4_in (List.mem_of_getElem? (i := 173) rfl) rfl
theorem wflt_30 : Cond.instanceMethod yX11_validTickets ∈ Wg := t4_in (List.mem_of_getElem? (i := 81) rfl) rfl
theorem wflt_31 : Cond.selects RX11 yX11_validTickets yX11_validTickets ∈ Wg := t4_in (List.mem_of_getElem? (i := 82) rfl) rfl
theorem wflt_32 : Cond.initialized RX11 ∈ Wg := t1_in (List.mem_of_getElem? (i := 1) rfl) rfl
theorem wflt_33 : Cond.code yX11_validTickets cX11_validTickets 1 (some .int) ∈ Wg := t4_in (List.mem_of_getElem? (i := 83) rfl) rfl
theorem wflt_34 : Cond.selects RX7 ⟨"TicketGate$Table", "get", "(II)I"⟩ yX6_get ∈ Wg := t2_in (List.mem_of_getElem? (i := 154) rfl) rfl
theorem wflt_35 : Cond.methodLink RX11 248 ⟨"TicketGate$Tickets", "sumOf", "(I)I"⟩ ∈ Wg := t4_in (List.mem_of_getElem? (i := 178) rfl) rfl
theorem wflt_36 : Cond.sameMethod "TicketGate$Tickets" "TicketGate$Table" "sumOf" "(I)I" ∈ Wg := t4_in (List.mem_of_getElem? (i := 179) rfl) rfl
theorem wflt_37 : Cond.selects RX7 ⟨"TicketGate$Tickets", "sumOf", "(I)I"⟩ yX6_sumOf ∈ Wg := t4_in (List.mem_of_getElem? (i := 180) rfl) rfl
theorem wflt_38 : Cond.instanceMethod yX6_sumOf ∈ Wg := t4_in (List.mem_of_getElem? (i := 101) rfl) rfl
theorem wflt_39 : Cond.code yX6_sumOf cX6_sumOf 4 (some .int) ∈ Wg := t4_in (List.mem_of_getElem? (i := 102) rfl) rfl
theorem wflt_40 : Cond.laysFinal RX12 "TicketGateModel" "s" "[I" ∈ Wg := t8_in (List.mem_of_getElem? (i := 98) rfl) rfl
theorem wflt_41 : Cond.laysFinal RX12 "TicketGateModel" "parsed" "[I" ∈ Wg := t8_in (List.mem_of_getElem? (i := 100) rfl) rfl
theorem wflt_42 : Cond.laysFinal RX12 "TicketGateModel" "tried" "[I" ∈ Wg := t8_in (List.mem_of_getElem? (i := 102) rfl) rfl
theorem wflt_43 : Cond.laysFinal RX12 "TicketGateModel" "remembered" "[I" ∈ Wg := t8_in (List.mem_of_getElem? (i := 104) rfl) rfl
theorem wflt_44 : Cond.laysFinal RX12 "TicketGateModel" "slots" "[I" ∈ Wg := t8_in (List.mem_of_getElem? (i := 106) rfl) rfl
theorem wflt_45 : Cond.laysFinal RX12 "TicketGateModel" "kept" "[Z" ∈ Wg := t8_in (List.mem_of_getElem? (i := 108) rfl) rfl
theorem wflt_46 : Cond.lays RX12 "TicketGateModel" "undoable" "I" ∈ Wg := t8_in (List.mem_of_getElem? (i := 110) rfl) rfl
theorem wflt_47 : Cond.lays RX12 "TicketGateModel" "undoStart" "I" ∈ Wg := t8_in (List.mem_of_getElem? (i := 112) rfl) rfl
theorem wflt_48 : Cond.lays RX12 "TicketGateModel" "thrown" "I" ∈ Wg := t8_in (List.mem_of_getElem? (i := 114) rfl) rfl
theorem wflt_49 : Cond.laysFinal RX12 "TicketGateModel" "away" "[I" ∈ Wg := t8_in (List.mem_of_getElem? (i := 116) rfl) rfl
theorem wflt_50 : Cond.laysFinal RX12 "TicketGateModel" "input" "[I" ∈ Wg := t8_in (List.mem_of_getElem? (i := 118) rfl) rfl
theorem wflt_51 : Cond.lays RX12 "TicketGateModel" "inputLength" "I" ∈ Wg := t8_in (List.mem_of_getElem? (i := 120) rfl) rfl
theorem wflt_52 : Cond.lays RX12 "TicketGateModel" "position" "I" ∈ Wg := t8_in (List.mem_of_getElem? (i := 122) rfl) rfl
theorem wflt_53 : Cond.lays RX12 "TicketGateModel" "start" "I" ∈ Wg := t8_in (List.mem_of_getElem? (i := 124) rfl) rfl
theorem wflt_54 : Cond.lays RX12 "TicketGateModel" "token" "I" ∈ Wg := t8_in (List.mem_of_getElem? (i := 126) rfl) rfl
theorem wflt_55 : Cond.lays RX12 "TicketGateModel" "value" "I" ∈ Wg := t8_in (List.mem_of_getElem? (i := 128) rfl) rfl
theorem wflt_56 : Cond.lays RX12 "TicketGateModel" "letters" "I" ∈ Wg := t8_in (List.mem_of_getElem? (i := 130) rfl) rfl
theorem wflt_57 : Cond.lays RX12 "TicketGateModel" "code" "I" ∈ Wg := t8_in (List.mem_of_getElem? (i := 132) rfl) rfl
theorem wflt_58 : Cond.lays RX12 "TicketGateModel" "place" "I" ∈ Wg := t8_in (List.mem_of_getElem? (i := 134) rfl) rfl
theorem wflt_59 : Cond.laysFinal RX12 "TicketGateModel" "halfway" "[I" ∈ Wg := t8_in (List.mem_of_getElem? (i := 136) rfl) rfl
theorem wflt_60 : Cond.laysFinal RX12 "TicketGateModel" "output" "[B" ∈ Wg := t8_in (List.mem_of_getElem? (i := 138) rfl) rfl
theorem wflt_61 : Cond.lays RX12 "TicketGateModel" "outputLength" "I" ∈ Wg := t8_in (List.mem_of_getElem? (i := 140) rfl) rfl
theorem wflt_62 : Cond.fieldLink RX12 72 "TicketGateModel" "thrown" "I" ∈ Wg := t8_in (List.mem_of_getElem? (i := 84) rfl) rfl
theorem wflt_63 : Cond.fieldLink RX12 7 "TicketGateModel" "s" "[I" ∈ Wg := t8_in (List.mem_of_getElem? (i := 76) rfl) rfl
theorem wflt_64 : Cond.methodLink RX12 145 yX12_living ∈ Wg := t8_in (List.mem_of_getElem? (i := 67) rfl) rfl
theorem wflt_65 : Cond.static yX12_living ∈ Wg := t8_in (List.mem_of_getElem? (i := 68) rfl) rfl
theorem wflt_66 : Cond.initialized RX12 ∈ Wg := t1_in (List.mem_of_getElem? (i := 18) rfl) rfl
theorem wflt_67 : Cond.code yX12_living cX12_living 3 (some .int) ∈ Wg := t8_in (List.mem_of_getElem? (i := 69) rfl) rfl
theorem wflt_68 : Cond.methodLink RX12 98 yX12_ofTicket ∈ Wg := t7_in (List.mem_of_getElem? (i := 198) rfl) rfl
theorem wflt_69 : Cond.static yX12_ofTicket ∈ Wg := t7_in (List.mem_of_getElem? (i := 199) rfl) rfl
theorem wflt_70 : Cond.code yX12_ofTicket cX12_ofTicket 1 (some .int) ∈ Wg := t7_in (List.mem_of_getElem? (i := 200) rfl) rfl
theorem layflt_X11 : ∀ k, k < 8 → u_lay RX11 TX11 k ∈ Wg := fun k hk => match k, hk with
  | 0, _ => wflt_0
  | 1, _ => wflt_1
  | 2, _ => wflt_2
  | 3, _ => wflt_3
  | 4, _ => wflt_4
  | 5, _ => wflt_5
  | 6, _ => wflt_6
  | 7, _ => wflt_7
  | k + 8, h => absurd h (by omega)
theorem layflt_X5 : ∀ k, k < 10 → u_lay RX5 TX5 k ∈ Wg := fun k hk => match k, hk with
  | 0, _ => wflt_9
  | 1, _ => wflt_10
  | 2, _ => wflt_11
  | 3, _ => wflt_12
  | 4, _ => wflt_13
  | 5, _ => wflt_14
  | 6, _ => wflt_15
  | 7, _ => wflt_16
  | 8, _ => wflt_17
  | 9, _ => wflt_18
  | k + 10, h => absurd h (by omega)
theorem layflt_X7 : ∀ k, k < 4 → u_lay RX7 TX7 k ∈ Wg := fun k hk => match k, hk with
  | 0, _ => wflt_19
  | 1, _ => wflt_20
  | 2, _ => wflt_21
  | 3, _ => wflt_22
  | k + 4, h => absurd h (by omega)
theorem layflt_X12 : ∀ k, k < 22 → u_lay RX12 TX12 k ∈ Wg := fun k hk => match k, hk with
  | 0, _ => wflt_40
  | 1, _ => wflt_41
  | 2, _ => wflt_42
  | 3, _ => wflt_43
  | 4, _ => wflt_44
  | 5, _ => wflt_45
  | 6, _ => wflt_46
  | 7, _ => wflt_47
  | 8, _ => wflt_48
  | 9, _ => wflt_49
  | 10, _ => wflt_50
  | 11, _ => wflt_51
  | 12, _ => wflt_52
  | 13, _ => wflt_53
  | 14, _ => wflt_54
  | 15, _ => wflt_55
  | 16, _ => wflt_56
  | 17, _ => wflt_57
  | 18, _ => wflt_58
  | 19, _ => wflt_59
  | 20, _ => wflt_60
  | 21, _ => wflt_61
  | k + 22, h => absurd h (by omega)
theorem pd_X6_size_UX11_validShare_102 : "TicketGate$Table" ≠ "java/lang/invoke/MethodHandle" ∧ "TicketGate$Table" ≠ "java/lang/invoke/VarHandle" ∧ (parseMethodDescriptor "()I").map (fun d => d.parameters.length) = some 0 := by decide +kernel
def f_X11_validShare (s_time : Int32) (s_T_rows : Int32) (s_T_cells : Nat → Int32) : Option (UInt32) :=
  (f_X6_size 240 s_T_rows).bind fun o1 =>
  if o1 = 0 then (
    some (FP.fconst0))
  else (
    (f_X11_validTickets s_time s_T_rows s_T_cells).bind fun o2 =>
    (fdq (FP.i2f o2) (FP.i2f o1)).bind fun z3 =>
    some (z3))
set_option maxRecDepth 100000 in
set_option maxHeartbeats 4000000 in
theorem c_X11_validShare (l : Launch) {G : (Nat → Prop) → State → Heap → Prop} (hG : vG G) (D : va_G) (c9 : Nat → ClassId) (ad : Nat → Nat) (nextPast : Int32) (pastCount : Int32) (i_count : Int32) (i_cells : Nat → Int32) (o_count : Int32) (o_cells : Nat → Int32) (p_start : Int32) (p_end : Int32) (p_kind : Int32) (p_value : Int32) (p_error : Int32) (p_errorAt : Int32) (p_d_time : Int32) (p_d_tolerance : Int32) (p_d_seed : Int32) (p_d_madeTickets : Int32) (p_d_cheesesOfText : Int32) (p_d_R_rows : Int32) (p_d_R_cells : Nat → Int32) (p_d_U_rows : Int32) (p_d_U_cells : Nat → Int32) (p_d_S_rows : Int32) (p_d_S_cells : Nat → Int32) (p_d_T_rows : Int32) (p_d_T_cells : Nat → Int32) (p_d_E_rows : Int32) (p_d_E_cells : Nat → Int32) (s_time : Int32) (s_tolerance : Int32) (s_seed : Int32) (s_madeTickets : Int32) (s_cheesesOfText : Int32) (s_R_rows : Int32) (s_R_cells : Nat → Int32) (s_U_rows : Int32) (s_U_cells : Nat → Int32) (s_S_rows : Int32) (s_S_cells : Nat → Int32) (s_T_rows : Int32) (s_T_cells : Nat → Int32) (s_E_rows : Int32) (s_E_cells : Nat → Int32) (sl : Nat → Option SV) (asl : Nat → Nat → Nat) (pa : Nat → Option SV) (apa : Nat → Nat → Nat)  {o : UInt32} (hf : f_X11_validShare s_time s_T_rows s_T_cells = some o) : mF l yX11_validShare (wq yX11_validShare cX11_validShare 2 (some .float)) { frames := 4, cells := 0, slots := 0, locals := 89 } G D (tyA c9) [.ref (ad 0)] (wX11 ad c9 nextPast pastCount i_count i_cells o_count o_cells p_start p_end p_kind p_value p_error p_errorAt p_d_time p_d_tolerance p_d_seed p_d_madeTickets p_d_cheesesOfText p_d_R_rows p_d_R_cells p_d_U_rows p_d_U_cells p_d_S_rows p_d_S_cells p_d_T_rows p_d_T_cells p_d_E_rows p_d_E_cells s_time s_tolerance s_seed s_madeTickets s_cheesesOfText s_R_rows s_R_cells s_U_rows s_U_cells s_S_rows s_S_cells s_T_rows s_T_cells s_E_rows s_E_cells sl asl pa apa) [] 0 0 o (wX11 ad c9 nextPast pastCount i_count i_cells o_count o_cells p_start p_end p_kind p_value p_error p_errorAt p_d_time p_d_tolerance p_d_seed p_d_madeTickets p_d_cheesesOfText p_d_R_rows p_d_R_cells p_d_U_rows p_d_U_cells p_d_S_rows p_d_S_cells p_d_T_rows p_d_T_cells p_d_E_rows p_d_E_cells s_time s_tolerance s_seed s_madeTickets s_cheesesOfText s_R_rows s_R_cells s_U_rows s_U_cells s_S_rows s_S_cells s_T_rows s_T_cells s_E_rows s_E_cells sl asl pa apa) := by
  refine mF_of hG (cc := cX11_validShare) (maxL := 2) (ty := .float) (by decide) rfl (Nat.le_of_ble_eq_true rfl) ?_
  intro p e s m args below meth c A X
  have X : vX p s m args meth c cX11_validShare 2 (some .float) RX11 (wq yX11_validShare cX11_validShare 2 (some .float)) D (tyA c9) G A := X
  refine v_eq (lv2 := [(0, .ref (ad 0))]) rfl rfl rfl rfl ?_
  rw [f_X11_validShare] at hf
  refine v_aload_n X dX11_validShare_0 0 rfl rfl 1 rfl ?_
  refine v_get X (C := RX11) (T := TX11) (N := 8) (ci := 10) (v := _) dX11_validShare_1 (lay_of layflt_X11) 0 rfl rfl 3 (by decide) (mw wflt_8) rfl rfl 4 rfl ?_
  refine v_getN X (C := RX5) (T := TX5) (N := 10) (ci := 5) (v := _) dX11_validShare_4 (lay_of layflt_X5) 17 rfl rfl 3 (by decide) nest_RX11_98 rfl rfl 7 rfl ?_
  obtain ⟨o1, ho1, hf⟩ := bnd hf
  refine v_callUi X (ci := 6) (T := TX7) (C := RX7) (owner := "TicketGate$Table") (As := []) (rest := []) (ws' := (wX11 ad c9 nextPast pastCount i_count i_cells o_count o_cells p_start p_end p_kind p_value p_error p_errorAt p_d_time p_d_tolerance p_d_seed p_d_madeTickets p_d_cheesesOfText p_d_R_rows p_d_R_cells p_d_U_rows p_d_U_cells p_d_S_rows p_d_S_cells p_d_T_rows p_d_T_cells p_d_E_rows p_d_E_cells s_time s_tolerance s_seed s_madeTickets s_cheesesOfText s_R_rows s_R_cells s_U_rows s_U_cells s_S_rows s_S_cells s_T_rows s_T_cells s_E_rows s_E_cells sl asl pa apa)) (c_X6_size l hG D c9 (fun k => ad ([24, 25].getD k 0)) 240 6 RX7 rfl layflt_X7 24 10 s_T_rows s_T_cells ho1) 0 (gU wflt_23 wflt_24 wflt_25 wflt_26 wflt_27 wflt_28) rfl rfl rfl rfl pd_X6_size_UX11_validShare_102 ⟨Nat.le_of_ble_eq_true rfl, Nat.le_of_ble_eq_true rfl⟩ 24 rfl rfl rfl rfl (Nat.le_of_ble_eq_true rfl) ⟨Nat.zero_le _, Nat.zero_le _⟩ [24, 25] [0, 1, 2, 3, 4, 5, 6, 7, 8, 9, 10, 11, 12, 13, 14, 15, 16, 17, 18, 19, 20, 21, 22, 23, 26, 27, 28, 29, 30, 31] [0, 1, 2, 3, 4, 5, 6, 7, 8, 9, 10, 11, 12, 13, 14, 15, 16, 17, 18, 19, 20, 21, 22, 23, 30, 31, 24, 25, 26, 27, 28, 29] rfl rfl rfl rfl dX11_validShare_7 10 rfl ?_
  refine v_istore_n X (lv' := [(1, .int o1), (0, .ref (ad 0))]) dX11_validShare_10 rfl (by decide) rfl 11 rfl ?_
  refine v_iload_n X dX11_validShare_11 0 rfl rfl 12 rfl ?_
  refine v_if_ne X (tgt := 19) dX11_validShare_12 rfl 15 rfl hf (fun hf => ?_) (fun hf => ?_)
  · refine v_aload_n X dX11_validShare_19 1 rfl rfl 20 rfl ?_
    obtain ⟨o2, ho2, hf⟩ := bnd hf
    refine v_callVi X (ci := 10) (T := TX11) (C := RX11) (As := []) (rest := []) (ws' := (wX11 ad c9 nextPast pastCount i_count i_cells o_count o_cells p_start p_end p_kind p_value p_error p_errorAt p_d_time p_d_tolerance p_d_seed p_d_madeTickets p_d_cheesesOfText p_d_R_rows p_d_R_cells p_d_U_rows p_d_U_cells p_d_S_rows p_d_S_cells p_d_T_rows p_d_T_cells p_d_E_rows p_d_E_cells s_time s_tolerance s_seed s_madeTickets s_cheesesOfText s_R_rows s_R_cells s_U_rows s_U_cells s_S_rows s_S_cells s_T_rows s_T_cells s_E_rows s_E_cells sl asl pa apa)) (c_X11_validTickets l hG D c9 ad nextPast pastCount i_count i_cells o_count o_cells p_start p_end p_kind p_value p_error p_errorAt p_d_time p_d_tolerance p_d_seed p_d_madeTickets p_d_cheesesOfText p_d_R_rows p_d_R_cells p_d_U_rows p_d_U_cells p_d_S_rows p_d_S_cells p_d_T_rows p_d_T_cells p_d_E_rows p_d_E_cells s_time s_tolerance s_seed s_madeTickets s_cheesesOfText s_R_rows s_R_cells s_U_rows s_U_cells s_S_rows s_S_cells s_T_rows s_T_cells s_E_rows s_E_cells sl asl pa apa ho2) 0 (gV wflt_29 wflt_30 wflt_31 wflt_32 wflt_33) rfl rfl rfl ⟨rfl, pd_X11_validTickets⟩ ⟨Nat.le_of_ble_eq_true rfl, Nat.le_of_ble_eq_true rfl⟩ 0 rfl rfl rfl rfl (Nat.le_of_ble_eq_true rfl) ⟨Nat.zero_le _, Nat.zero_le _⟩ [0, 1, 2, 3, 4, 5, 6, 7, 8, 9, 10, 11, 12, 13, 14, 15, 16, 17, 18, 19, 20, 21, 22, 23, 24, 25, 26, 27, 28, 29, 30, 31] [] [0, 1, 2, 3, 4, 5, 6, 7, 8, 9, 10, 11, 12, 13, 14, 15, 16, 17, 18, 19, 20, 21, 22, 23, 24, 25, 26, 27, 28, 29, 30, 31] rfl rfl rfl rfl dX11_validShare_20 23 rfl ?_
    refine v_i2f X dX11_validShare_23 24 rfl ?_
    refine v_iload_n X dX11_validShare_24 0 rfl rfl 25 rfl ?_
    refine v_i2f X dX11_validShare_25 26 rfl ?_
    obtain ⟨z3, hz3, hf⟩ := bnd hf
    refine v_fdivq X hz3 dX11_validShare_26 27 rfl ?_
    obtain rfl := Option.some.inj hf
    exact v_fret X (Nat.zero_le _) (Nat.zero_le _) dX11_validShare_27
  · refine v_fconst0 X dX11_validShare_15 16 rfl ?_
    refine v_goto X (tgt := 27) dX11_validShare_16 rfl ?_
    obtain rfl := Option.some.inj hf
    exact v_fret X (Nat.zero_le _) (Nat.zero_le _) dX11_validShare_27
theorem pd_X11_validShare : yX11_validShare.cls ≠ "java/lang/invoke/MethodHandle" ∧ yX11_validShare.cls ≠ "java/lang/invoke/VarHandle" ∧ (parseMethodDescriptor yX11_validShare.desc).map (fun d => d.parameters.length) = some 0 := by decide +kernel
theorem pd_X6_size_UX11_averageLife_102 : "TicketGate$Table" ≠ "java/lang/invoke/MethodHandle" ∧ "TicketGate$Table" ≠ "java/lang/invoke/VarHandle" ∧ (parseMethodDescriptor "()I").map (fun d => d.parameters.length) = some 0 := by decide +kernel
theorem pd_X6_sumOf_UX11_averageLife_248 : "TicketGate$Table" ≠ "java/lang/invoke/MethodHandle" ∧ "TicketGate$Table" ≠ "java/lang/invoke/VarHandle" ∧ (parseMethodDescriptor "(I)I").map (fun d => d.parameters.length) = some 1 := by decide +kernel
def f_X11_averageLife (s_T_rows : Int32) (s_T_cells : Nat → Int32) : Option (UInt64) :=
  (f_X6_size 240 s_T_rows).bind fun o1 =>
  (f_X6_sumOf 240 10 s_T_rows s_T_cells 6).bind fun o2 =>
  (f_X6_sumOf 240 10 s_T_rows s_T_cells 5).bind fun o3 =>
  if o1 = 0 then (
    some (FP.dconst0))
  else (
    (ddq (FP.i2d (o2 - o3)) (FP.i2d o1)).bind fun z4 =>
    some (z4))
set_option maxRecDepth 100000 in
set_option maxHeartbeats 4000000 in
theorem c_X11_averageLife (l : Launch) {G : (Nat → Prop) → State → Heap → Prop} (hG : vG G) (D : va_G) (c9 : Nat → ClassId) (ad : Nat → Nat) (nextPast : Int32) (pastCount : Int32) (i_count : Int32) (i_cells : Nat → Int32) (o_count : Int32) (o_cells : Nat → Int32) (p_start : Int32) (p_end : Int32) (p_kind : Int32) (p_value : Int32) (p_error : Int32) (p_errorAt : Int32) (p_d_time : Int32) (p_d_tolerance : Int32) (p_d_seed : Int32) (p_d_madeTickets : Int32) (p_d_cheesesOfText : Int32) (p_d_R_rows : Int32) (p_d_R_cells : Nat → Int32) (p_d_U_rows : Int32) (p_d_U_cells : Nat → Int32) (p_d_S_rows : Int32) (p_d_S_cells : Nat → Int32) (p_d_T_rows : Int32) (p_d_T_cells : Nat → Int32) (p_d_E_rows : Int32) (p_d_E_cells : Nat → Int32) (s_time : Int32) (s_tolerance : Int32) (s_seed : Int32) (s_madeTickets : Int32) (s_cheesesOfText : Int32) (s_R_rows : Int32) (s_R_cells : Nat → Int32) (s_U_rows : Int32) (s_U_cells : Nat → Int32) (s_S_rows : Int32) (s_S_cells : Nat → Int32) (s_T_rows : Int32) (s_T_cells : Nat → Int32) (s_E_rows : Int32) (s_E_cells : Nat → Int32) (sl : Nat → Option SV) (asl : Nat → Nat → Nat) (pa : Nat → Option SV) (apa : Nat → Nat → Nat)  {o : UInt64} (hf : f_X11_averageLife s_T_rows s_T_cells = some o) : mD l yX11_averageLife (wq yX11_averageLife cX11_averageLife 3 (some .double)) { frames := 2, cells := 0, slots := 0, locals := 47 } G D (tyA c9) [.ref (ad 0)] (wX11 ad c9 nextPast pastCount i_count i_cells o_count o_cells p_start p_end p_kind p_value p_error p_errorAt p_d_time p_d_tolerance p_d_seed p_d_madeTickets p_d_cheesesOfText p_d_R_rows p_d_R_cells p_d_U_rows p_d_U_cells p_d_S_rows p_d_S_cells p_d_T_rows p_d_T_cells p_d_E_rows p_d_E_cells s_time s_tolerance s_seed s_madeTickets s_cheesesOfText s_R_rows s_R_cells s_U_rows s_U_cells s_S_rows s_S_cells s_T_rows s_T_cells s_E_rows s_E_cells sl asl pa apa) [] 0 0 o (wX11 ad c9 nextPast pastCount i_count i_cells o_count o_cells p_start p_end p_kind p_value p_error p_errorAt p_d_time p_d_tolerance p_d_seed p_d_madeTickets p_d_cheesesOfText p_d_R_rows p_d_R_cells p_d_U_rows p_d_U_cells p_d_S_rows p_d_S_cells p_d_T_rows p_d_T_cells p_d_E_rows p_d_E_cells s_time s_tolerance s_seed s_madeTickets s_cheesesOfText s_R_rows s_R_cells s_U_rows s_U_cells s_S_rows s_S_cells s_T_rows s_T_cells s_E_rows s_E_cells sl asl pa apa) := by
  refine mD_of hG (cc := cX11_averageLife) (maxL := 3) (ty := .double) (by decide) rfl (Nat.le_of_ble_eq_true rfl) ?_
  intro p e s m args below meth c A X
  have X : vX p s m args meth c cX11_averageLife 3 (some .double) RX11 (wq yX11_averageLife cX11_averageLife 3 (some .double)) D (tyA c9) G A := X
  refine v_eq (lv2 := [(0, .ref (ad 0))]) rfl rfl rfl rfl ?_
  rw [f_X11_averageLife] at hf
  refine v_aload_n X dX11_averageLife_0 0 rfl rfl 1 rfl ?_
  refine v_get X (C := RX11) (T := TX11) (N := 8) (ci := 10) (v := _) dX11_averageLife_1 (lay_of layflt_X11) 0 rfl rfl 3 (by decide) (mw wflt_8) rfl rfl 4 rfl ?_
  refine v_getN X (C := RX5) (T := TX5) (N := 10) (ci := 5) (v := _) dX11_averageLife_4 (lay_of layflt_X5) 17 rfl rfl 3 (by decide) nest_RX11_98 rfl rfl 7 rfl ?_
  obtain ⟨o1, ho1, hf⟩ := bnd hf
  refine v_callUi X (ci := 6) (T := TX7) (C := RX7) (owner := "TicketGate$Table") (As := []) (rest := []) (ws' := (wX11 ad c9 nextPast pastCount i_count i_cells o_count o_cells p_start p_end p_kind p_value p_error p_errorAt p_d_time p_d_tolerance p_d_seed p_d_madeTickets p_d_cheesesOfText p_d_R_rows p_d_R_cells p_d_U_rows p_d_U_cells p_d_S_rows p_d_S_cells p_d_T_rows p_d_T_cells p_d_E_rows p_d_E_cells s_time s_tolerance s_seed s_madeTickets s_cheesesOfText s_R_rows s_R_cells s_U_rows s_U_cells s_S_rows s_S_cells s_T_rows s_T_cells s_E_rows s_E_cells sl asl pa apa)) (c_X6_size l hG D c9 (fun k => ad ([24, 25].getD k 0)) 240 6 RX7 rfl layflt_X7 24 10 s_T_rows s_T_cells ho1) 0 (gU wflt_23 wflt_24 wflt_25 wflt_26 wflt_27 wflt_28) rfl rfl rfl rfl pd_X6_size_UX11_averageLife_102 ⟨Nat.le_of_ble_eq_true rfl, Nat.le_of_ble_eq_true rfl⟩ 24 rfl rfl rfl rfl (Nat.le_of_ble_eq_true rfl) ⟨Nat.zero_le _, Nat.zero_le _⟩ [24, 25] [0, 1, 2, 3, 4, 5, 6, 7, 8, 9, 10, 11, 12, 13, 14, 15, 16, 17, 18, 19, 20, 21, 22, 23, 26, 27, 28, 29, 30, 31] [0, 1, 2, 3, 4, 5, 6, 7, 8, 9, 10, 11, 12, 13, 14, 15, 16, 17, 18, 19, 20, 21, 22, 23, 30, 31, 24, 25, 26, 27, 28, 29] rfl rfl rfl rfl dX11_averageLife_7 10 rfl ?_
  refine v_istore_n X (lv' := [(1, .int o1), (0, .ref (ad 0))]) dX11_averageLife_10 rfl (by decide) rfl 11 rfl ?_
  refine v_aload_n X dX11_averageLife_11 1 rfl rfl 12 rfl ?_
  refine v_get X (C := RX11) (T := TX11) (N := 8) (ci := 10) (v := _) dX11_averageLife_12 (lay_of layflt_X11) 0 rfl rfl 3 (by decide) (mw wflt_8) rfl rfl 15 rfl ?_
  refine v_getN X (C := RX5) (T := TX5) (N := 10) (ci := 5) (v := _) dX11_averageLife_15 (lay_of layflt_X5) 17 rfl rfl 3 (by decide) nest_RX11_98 rfl rfl 18 rfl ?_
  refine v_bipush X dX11_averageLife_18 bp_6 20 rfl ?_
  obtain ⟨o2, ho2, hf⟩ := bnd hf
  refine v_callUi X (ci := 6) (T := TX7) (C := RX7) (owner := "TicketGate$Table") (As := [.int 6]) (rest := []) (ws' := (wX11 ad c9 nextPast pastCount i_count i_cells o_count o_cells p_start p_end p_kind p_value p_error p_errorAt p_d_time p_d_tolerance p_d_seed p_d_madeTickets p_d_cheesesOfText p_d_R_rows p_d_R_cells p_d_U_rows p_d_U_cells p_d_S_rows p_d_S_cells p_d_T_rows p_d_T_cells p_d_E_rows p_d_E_cells s_time s_tolerance s_seed s_madeTickets s_cheesesOfText s_R_rows s_R_cells s_U_rows s_U_cells s_S_rows s_S_cells s_T_rows s_T_cells s_E_rows s_E_cells sl asl pa apa)) (c_X6_sumOf l hG D c9 (fun k => ad ([24, 25].getD k 0)) 240 6 RX7 rfl layflt_X7 wflt_34 24 10 s_T_rows s_T_cells 6 ho2) 1 (gU wflt_35 wflt_36 wflt_37 wflt_38 wflt_27 wflt_39) rfl rfl rfl rfl pd_X6_sumOf_UX11_averageLife_248 ⟨Nat.le_of_ble_eq_true rfl, Nat.le_of_ble_eq_true rfl⟩ 24 rfl rfl rfl rfl (Nat.le_of_ble_eq_true rfl) ⟨Nat.zero_le _, Nat.zero_le _⟩ [24, 25] [0, 1, 2, 3, 4, 5, 6, 7, 8, 9, 10, 11, 12, 13, 14, 15, 16, 17, 18, 19, 20, 21, 22, 23, 26, 27, 28, 29, 30, 31] [0, 1, 2, 3, 4, 5, 6, 7, 8, 9, 10, 11, 12, 13, 14, 15, 16, 17, 18, 19, 20, 21, 22, 23, 30, 31, 24, 25, 26, 27, 28, 29] rfl rfl rfl rfl dX11_averageLife_20 23 rfl ?_
  refine v_aload_n X dX11_averageLife_23 1 rfl rfl 24 rfl ?_
  refine v_get X (C := RX11) (T := TX11) (N := 8) (ci := 10) (v := _) dX11_averageLife_24 (lay_of layflt_X11) 0 rfl rfl 3 (by decide) (mw wflt_8) rfl rfl 27 rfl ?_
  refine v_getN X (C := RX5) (T := TX5) (N := 10) (ci := 5) (v := _) dX11_averageLife_27 (lay_of layflt_X5) 17 rfl rfl 3 (by decide) nest_RX11_98 rfl rfl 30 rfl ?_
  refine v_iconst X dX11_averageLife_30 ic_5 31 rfl ?_
  obtain ⟨o3, ho3, hf⟩ := bnd hf
  refine v_callUi X (ci := 6) (T := TX7) (C := RX7) (owner := "TicketGate$Table") (As := [.int 5]) (rest := [.int o2]) (ws' := (wX11 ad c9 nextPast pastCount i_count i_cells o_count o_cells p_start p_end p_kind p_value p_error p_errorAt p_d_time p_d_tolerance p_d_seed p_d_madeTickets p_d_cheesesOfText p_d_R_rows p_d_R_cells p_d_U_rows p_d_U_cells p_d_S_rows p_d_S_cells p_d_T_rows p_d_T_cells p_d_E_rows p_d_E_cells s_time s_tolerance s_seed s_madeTickets s_cheesesOfText s_R_rows s_R_cells s_U_rows s_U_cells s_S_rows s_S_cells s_T_rows s_T_cells s_E_rows s_E_cells sl asl pa apa)) (c_X6_sumOf l hG D c9 (fun k => ad ([24, 25].getD k 0)) 240 6 RX7 rfl layflt_X7 wflt_34 24 10 s_T_rows s_T_cells 5 ho3) 1 (gU wflt_35 wflt_36 wflt_37 wflt_38 wflt_27 wflt_39) rfl rfl rfl rfl pd_X6_sumOf_UX11_averageLife_248 ⟨Nat.le_of_ble_eq_true rfl, Nat.le_of_ble_eq_true rfl⟩ 24 rfl rfl rfl rfl (Nat.le_of_ble_eq_true rfl) ⟨Nat.zero_le _, Nat.zero_le _⟩ [24, 25] [0, 1, 2, 3, 4, 5, 6, 7, 8, 9, 10, 11, 12, 13, 14, 15, 16, 17, 18, 19, 20, 21, 22, 23, 26, 27, 28, 29, 30, 31] [0, 1, 2, 3, 4, 5, 6, 7, 8, 9, 10, 11, 12, 13, 14, 15, 16, 17, 18, 19, 20, 21, 22, 23, 30, 31, 24, 25, 26, 27, 28, 29] rfl rfl rfl rfl dX11_averageLife_31 34 rfl ?_
  refine v_isub X dX11_averageLife_34 35 rfl ?_
  refine v_istore_n X (lv' := [(2, .int (o2 - o3)), (1, .int o1), (0, .ref (ad 0))]) dX11_averageLife_35 rfl (by decide) rfl 36 rfl ?_
  refine v_iload_n X dX11_averageLife_36 1 rfl rfl 37 rfl ?_
  refine v_if_ne X (tgt := 44) dX11_averageLife_37 rfl 40 rfl hf (fun hf => ?_) (fun hf => ?_)
  · refine v_iload_n X dX11_averageLife_44 0 rfl rfl 45 rfl ?_
    refine v_i2d X dX11_averageLife_45 46 rfl ?_
    refine v_iload_n X dX11_averageLife_46 1 rfl rfl 47 rfl ?_
    refine v_i2d X dX11_averageLife_47 48 rfl ?_
    obtain ⟨z4, hz4, hf⟩ := bnd hf
    refine v_ddivq X hz4 dX11_averageLife_48 49 rfl ?_
    obtain rfl := Option.some.inj hf
    exact v_dret X (Nat.zero_le _) (Nat.zero_le _) dX11_averageLife_49
  · refine v_dconst0 X dX11_averageLife_40 41 rfl ?_
    refine v_goto X (tgt := 49) dX11_averageLife_41 rfl ?_
    obtain rfl := Option.some.inj hf
    exact v_dret X (Nat.zero_le _) (Nat.zero_le _) dX11_averageLife_49
theorem pd_X11_averageLife : yX11_averageLife.cls ≠ "java/lang/invoke/MethodHandle" ∧ yX11_averageLife.cls ≠ "java/lang/invoke/VarHandle" ∧ (parseMethodDescriptor yX11_averageLife.desc).map (fun d => d.parameters.length) = some 0 := by decide +kernel
def f_X12_validShare (m_thrown : Int32) (m_s : Nat → Int32) : Option (UInt32 × Int32) :=
  (rd m_s 463 6).bind fun x1 =>
  if x1 = 0 then (
    some (FP.fconst0, 0))
  else (
    (f_X12_living m_s).bind fun o2 =>
    (rd m_s 463 6).bind fun x3 =>
    (fdq (FP.i2f o2) (FP.i2f x3)).bind fun z4 =>
    some (z4, 0))
set_option maxRecDepth 100000 in
set_option maxHeartbeats 4000000 in
theorem c_X12_validShare (l : Launch) {G : (Nat → Prop) → State → Heap → Prop} (hG : vG G) (D : va_G) (c9 : Nat → ClassId) (ad : Nat → Nat) (m_undoable : Int32) (m_undoStart : Int32) (m_thrown : Int32) (m_inputLength : Int32) (m_position : Int32) (m_start : Int32) (m_token : Int32) (m_value : Int32) (m_letters : Int32) (m_code : Int32) (m_place : Int32) (m_outputLength : Int32) (m_s : Nat → Int32) (m_parsed : Nat → Int32) (m_tried : Nat → Int32) (m_remembered : Nat → Int32) (m_slots : Nat → Int32) (m_kept : Nat → Int32) (m_away : Nat → Int32) (m_input : Nat → Int32) (m_halfway : Nat → Int32) (m_output : Nat → Int32)  {o : UInt32 × Int32} (hf : f_X12_validShare m_thrown m_s = some o) : mF l yX12_validShare (wq yX12_validShare cX12_validShare 1 (some .float)) { frames := 3, cells := 0, slots := 0, locals := 63 } G D (tyA c9) [.ref (ad 0)] (wX12 ad c9 m_undoable m_undoStart m_thrown m_inputLength m_position m_start m_token m_value m_letters m_code m_place m_outputLength m_s m_parsed m_tried m_remembered m_slots m_kept m_away m_input m_halfway m_output) [] 0 0 o.1 (wX12 ad c9 m_undoable m_undoStart o.2 m_inputLength m_position m_start m_token m_value m_letters m_code m_place m_outputLength m_s m_parsed m_tried m_remembered m_slots m_kept m_away m_input m_halfway m_output) := by
  refine mF_of hG (cc := cX12_validShare) (maxL := 1) (ty := .float) (by decide) rfl (Nat.le_of_ble_eq_true rfl) ?_
  intro p e s m args below meth c A X
  have X : vX p s m args meth c cX12_validShare 1 (some .float) RX12 (wq yX12_validShare cX12_validShare 1 (some .float)) D (tyA c9) G A := X
  refine v_eq (lv2 := [(0, .ref (ad 0))]) rfl rfl rfl rfl ?_
  rw [f_X12_validShare] at hf
  refine v_aload_n X dX12_validShare_0 0 rfl rfl 1 rfl ?_
  refine v_iconst X dX12_validShare_1 ic_0 2 rfl ?_
  refine v_put X (C := RX12) (T := TX12) (N := 22) (ci := 11) (ty := tyX12 8) (ws' := (wX12 ad c9 m_undoable m_undoStart 0 m_inputLength m_position m_start m_token m_value m_letters m_code m_place m_outputLength m_s m_parsed m_tried m_remembered m_slots m_kept m_away m_input m_halfway m_output)) dX12_validShare_2 (lay_of layflt_X12) 0 rfl rfl 8 (by decide) tyX12 tyX12_ok nmX12 (mw wflt_62) rfl rfl (tyX12_ok 8 (by decide)) rfl rfl (Nat.le_of_ble_eq_true rfl) rfl 5 rfl ?_
  refine v_aload_n X dX12_validShare_5 0 rfl rfl 6 rfl ?_
  refine v_get X (C := RX12) (T := TX12) (N := 22) (ci := 11) (v := _) dX12_validShare_6 (lay_of layflt_X12) 0 rfl rfl 0 (by decide) (mw wflt_63) rfl rfl 9 rfl ?_
  refine v_bipush X dX12_validShare_9 bp_6 11 rfl ?_
  obtain ⟨x1, hx1, hf⟩ := bnd hf
  refine v_iald X dX12_validShare_11 1 0 rfl rfl hx1 12 rfl ?_
  refine v_if_ne X (tgt := 19) dX12_validShare_12 rfl 15 rfl hf (fun hf => ?_) (fun hf => ?_)
  · refine v_aload_n X dX12_validShare_19 0 rfl rfl 20 rfl ?_
    refine v_get X (C := RX12) (T := TX12) (N := 22) (ci := 11) (v := _) dX12_validShare_20 (lay_of layflt_X12) 0 rfl rfl 0 (by decide) (mw wflt_63) rfl rfl 23 rfl ?_
    obtain ⟨o2, ho2, hf⟩ := bnd hf
    refine v_callSi X (As := [.ref (ad 1)]) (rest := []) (ws' := (wX12 ad c9 m_undoable m_undoStart 0 m_inputLength m_position m_start m_token m_value m_letters m_code m_place m_outputLength m_s m_parsed m_tried m_remembered m_slots m_kept m_away m_input m_halfway m_output)) (c_X12_living l hG D c9 (ad 1) m_s ho2) 1 (gS wflt_64 wflt_65 wflt_66 wflt_67) rfl rfl rfl pd_X12_living ⟨Nat.le_of_ble_eq_true rfl, Nat.le_of_ble_eq_true rfl⟩ rfl rfl (Nat.le_of_ble_eq_true rfl) ⟨Nat.zero_le _, Nat.zero_le _⟩ [1] [0, 2, 3, 4, 5, 6, 7, 8, 9, 10] [0, 10, 1, 2, 3, 4, 5, 6, 7, 8, 9] rfl rfl rfl rfl dX12_validShare_23 26 rfl ?_
    refine v_i2f X dX12_validShare_26 27 rfl ?_
    refine v_aload_n X dX12_validShare_27 0 rfl rfl 28 rfl ?_
    refine v_get X (C := RX12) (T := TX12) (N := 22) (ci := 11) (v := _) dX12_validShare_28 (lay_of layflt_X12) 0 rfl rfl 0 (by decide) (mw wflt_63) rfl rfl 31 rfl ?_
    refine v_bipush X dX12_validShare_31 bp_6 33 rfl ?_
    obtain ⟨x3, hx3, hf⟩ := bnd hf
    refine v_iald X dX12_validShare_33 1 0 rfl rfl hx3 34 rfl ?_
    refine v_i2f X dX12_validShare_34 35 rfl ?_
    obtain ⟨z4, hz4, hf⟩ := bnd hf
    refine v_fdivq X hz4 dX12_validShare_35 36 rfl ?_
    obtain rfl := Option.some.inj hf
    exact v_fret X (Nat.zero_le _) (Nat.zero_le _) dX12_validShare_36
  · refine v_fconst0 X dX12_validShare_15 16 rfl ?_
    refine v_goto X (tgt := 36) dX12_validShare_16 rfl ?_
    obtain rfl := Option.some.inj hf
    exact v_fret X (Nat.zero_le _) (Nat.zero_le _) dX12_validShare_36
theorem pd_X12_validShare : yX12_validShare.cls ≠ "java/lang/invoke/MethodHandle" ∧ yX12_validShare.cls ≠ "java/lang/invoke/VarHandle" ∧ (parseMethodDescriptor yX12_validShare.desc).map (fun d => d.parameters.length) = some 0 := by decide +kernel
def f_X12_averageLife_L9 (m_s : Nat → Int32) : Nat → Int32 → Int32 → Option (Int32)
  | 0, _, _ => none
  | n + 1, v1, v2 =>
    (rd m_s 463 6).bind fun x1 =>
    if x1 ≤ v2 then (
      some (v1))
    else (
      (f_X12_ofTicket v2).bind fun o2 =>
      (rd m_s 463 (o2 + 6)).bind fun x3 =>
      (f_X12_ofTicket v2).bind fun o4 =>
      (rd m_s 463 (o4 + 5)).bind fun x5 =>
      f_X12_averageLife_L9 m_s n  (v1 + (x3 - x5)) (v2 + 1))
def f_X12_averageLife (m_thrown : Int32) (m_s : Nat → Int32) : Option (UInt64 × Int32) :=
  (f_X12_averageLife_L9 m_s 5000 0 0).bind fun o6 =>
  (rd m_s 463 6).bind fun x7 =>
  if x7 = 0 then (
    some (FP.dconst0, 0))
  else (
    (rd m_s 463 6).bind fun x8 =>
    (ddq (FP.i2d o6) (FP.i2d x8)).bind fun z9 =>
    some (z9, 0))
set_option maxRecDepth 100000 in
set_option maxHeartbeats 4000000 in
theorem l_X12_averageLife_L9 (l : Launch) {G : (Nat → Prop) → State → Heap → Prop} (hG : vG G) (D : va_G) (c9 : Nat → ClassId) (ad : Nat → Nat) (m_undoable : Int32) (m_undoStart : Int32) (m_thrown : Int32) (m_inputLength : Int32) (m_position : Int32) (m_start : Int32) (m_token : Int32) (m_value : Int32) (m_letters : Int32) (m_code : Int32) (m_place : Int32) (m_outputLength : Int32) (m_s : Nat → Int32) (m_parsed : Nat → Int32) (m_tried : Nat → Int32) (m_remembered : Nat → Int32) (m_slots : Nat → Int32) (m_kept : Nat → Int32) (m_away : Nat → Int32) (m_input : Nat → Int32) (m_halfway : Nat → Int32) (m_output : Nat → Int32) {p : Program} {e : Env} {s : State} {m : MethodId} {args : Array Value} {below : List Frame} {meth : Method} {c : Code} {A : Nat → Prop} {F : va_W} (X : vX p s m args meth c cX12_averageLife 3 (some .double) RX12 (wq yX12_averageLife cX12_averageLife 3 (some .double)) D (tyA c9) G A) {Q : State → Prop} (o : Int32) (K : vW p l e { frames := 1, cells := 0, slots := 0, locals := 20 } s m args below meth c 3 D A F 0 0 Q (wX12 ad c9 m_undoable m_undoStart m_thrown m_inputLength m_position m_start m_token m_value m_letters m_code m_place m_outputLength m_s m_parsed m_tried m_remembered m_slots m_kept m_away m_input m_halfway m_output) 53 [(0, .ref (ad 0)), (1, .int o)] []) :
    ∀ (n : Nat) (v1 : Int32) (v2 : Int32), f_X12_averageLife_L9 m_s n v1 v2 = some o → vW p l e { frames := 1, cells := 0, slots := 0, locals := 20 } s m args below meth c 3 D A F 0 0 Q (wX12 ad c9 m_undoable m_undoStart m_thrown m_inputLength m_position m_start m_token m_value m_letters m_code m_place m_outputLength m_s m_parsed m_tried m_remembered m_slots m_kept m_away m_input m_halfway m_output) 9 [(0, .ref (ad 0)), (1, .int v1), (2, .int v2)] [] := by
  intro n
  induction n with
  | zero =>
    intro v1 v2 hf
    rw [f_X12_averageLife_L9] at hf
    cases hf
  | succ n ih =>
    intro v1 v2 hf
    rw [f_X12_averageLife_L9] at hf
    refine v_iload_n X dX12_averageLife_9 2 rfl rfl 10 rfl ?_
    refine v_aload_n X dX12_averageLife_10 0 rfl rfl 11 rfl ?_
    refine v_get X (C := RX12) (T := TX12) (N := 22) (ci := 11) (v := _) dX12_averageLife_11 (lay_of layflt_X12) 0 rfl rfl 0 (by decide) (mw wflt_63) rfl rfl 14 rfl ?_
    refine v_bipush X dX12_averageLife_14 bp_6 16 rfl ?_
    obtain ⟨x1, hx1, hf⟩ := bnd hf
    refine v_iald X dX12_averageLife_16 1 0 rfl rfl hx1 17 rfl ?_
    refine v_icmp_ge X (tgt := 53) dX12_averageLife_17 rfl 20 rfl hf (fun hf => ?_) (fun hf => ?_)
    · obtain rfl := Option.some.inj hf
      refine v_sub (lv' := [(0, .ref (ad 0)), (1, .int v1)]) [0, 1] rfl ?_
      exact K
    · refine v_iload_n X dX12_averageLife_20 1 rfl rfl 21 rfl ?_
      refine v_aload_n X dX12_averageLife_21 0 rfl rfl 22 rfl ?_
      refine v_get X (C := RX12) (T := TX12) (N := 22) (ci := 11) (v := _) dX12_averageLife_22 (lay_of layflt_X12) 0 rfl rfl 0 (by decide) (mw wflt_63) rfl rfl 25 rfl ?_
      refine v_iload_n X dX12_averageLife_25 2 rfl rfl 26 rfl ?_
      obtain ⟨o2, ho2, hf⟩ := bnd hf
      refine v_callSi X (As := [.int v2]) (rest := [.ref (ad 1), .int v1]) (ws' := (wX12 ad c9 m_undoable m_undoStart m_thrown m_inputLength m_position m_start m_token m_value m_letters m_code m_place m_outputLength m_s m_parsed m_tried m_remembered m_slots m_kept m_away m_input m_halfway m_output)) (c_X12_ofTicket l hG D c9 v2 ho2) 1 (gS wflt_68 wflt_69 wflt_66 wflt_70) rfl rfl rfl pd_X12_ofTicket ⟨Nat.le_of_ble_eq_true rfl, Nat.le_of_ble_eq_true rfl⟩ rfl rfl (Nat.le_of_ble_eq_true rfl) ⟨Nat.zero_le _, Nat.zero_le _⟩ [] [0, 1, 2, 3, 4, 5, 6, 7, 8, 9, 10] [0, 1, 2, 3, 4, 5, 6, 7, 8, 9, 10] rfl rfl rfl rfl dX12_averageLife_26 29 rfl ?_
      refine v_bipush X dX12_averageLife_29 bp_6 31 rfl ?_
      refine v_iadd X dX12_averageLife_31 32 rfl ?_
      obtain ⟨x3, hx3, hf⟩ := bnd hf
      refine v_iald X dX12_averageLife_32 1 0 rfl rfl hx3 33 rfl ?_
      refine v_aload_n X dX12_averageLife_33 0 rfl rfl 34 rfl ?_
      refine v_get X (C := RX12) (T := TX12) (N := 22) (ci := 11) (v := _) dX12_averageLife_34 (lay_of layflt_X12) 0 rfl rfl 0 (by decide) (mw wflt_63) rfl rfl 37 rfl ?_
      refine v_iload_n X dX12_averageLife_37 2 rfl rfl 38 rfl ?_
      obtain ⟨o4, ho4, hf⟩ := bnd hf
      refine v_callSi X (As := [.int v2]) (rest := [.ref (ad 1), .int x3, .int v1]) (ws' := (wX12 ad c9 m_undoable m_undoStart m_thrown m_inputLength m_position m_start m_token m_value m_letters m_code m_place m_outputLength m_s m_parsed m_tried m_remembered m_slots m_kept m_away m_input m_halfway m_output)) (c_X12_ofTicket l hG D c9 v2 ho4) 1 (gS wflt_68 wflt_69 wflt_66 wflt_70) rfl rfl rfl pd_X12_ofTicket ⟨Nat.le_of_ble_eq_true rfl, Nat.le_of_ble_eq_true rfl⟩ rfl rfl (Nat.le_of_ble_eq_true rfl) ⟨Nat.zero_le _, Nat.zero_le _⟩ [] [0, 1, 2, 3, 4, 5, 6, 7, 8, 9, 10] [0, 1, 2, 3, 4, 5, 6, 7, 8, 9, 10] rfl rfl rfl rfl dX12_averageLife_38 41 rfl ?_
      refine v_iconst X dX12_averageLife_41 ic_5 42 rfl ?_
      refine v_iadd X dX12_averageLife_42 43 rfl ?_
      obtain ⟨x5, hx5, hf⟩ := bnd hf
      refine v_iald X dX12_averageLife_43 1 0 rfl rfl hx5 44 rfl ?_
      refine v_isub X dX12_averageLife_44 45 rfl ?_
      refine v_iadd X dX12_averageLife_45 46 rfl ?_
      refine v_istore_n X (lv' := [(1, .int (v1 + (x3 - x5))), (0, .ref (ad 0)), (2, .int v2)]) dX12_averageLife_46 rfl (by decide) rfl 47 rfl ?_
      refine v_iinc X (lv' := [(2, .int (v2 + 1)), (1, .int (v1 + (x3 - x5))), (0, .ref (ad 0))]) dX12_averageLife_47 2 rfl ic_1 (by decide) rfl 50 rfl ?_
      refine v_goto X (tgt := 9) dX12_averageLife_50 rfl ?_
      refine v_sub (lv' := [(0, .ref (ad 0)), (1, .int (v1 + (x3 - x5))), (2, .int (v2 + 1))]) [2, 1, 0] rfl ?_
      exact ih (v1 + (x3 - x5)) (v2 + 1) hf
set_option maxRecDepth 100000 in
set_option maxHeartbeats 4000000 in
theorem c_X12_averageLife (l : Launch) {G : (Nat → Prop) → State → Heap → Prop} (hG : vG G) (D : va_G) (c9 : Nat → ClassId) (ad : Nat → Nat) (m_undoable : Int32) (m_undoStart : Int32) (m_thrown : Int32) (m_inputLength : Int32) (m_position : Int32) (m_start : Int32) (m_token : Int32) (m_value : Int32) (m_letters : Int32) (m_code : Int32) (m_place : Int32) (m_outputLength : Int32) (m_s : Nat → Int32) (m_parsed : Nat → Int32) (m_tried : Nat → Int32) (m_remembered : Nat → Int32) (m_slots : Nat → Int32) (m_kept : Nat → Int32) (m_away : Nat → Int32) (m_input : Nat → Int32) (m_halfway : Nat → Int32) (m_output : Nat → Int32)  {o : UInt64 × Int32} (hf : f_X12_averageLife m_thrown m_s = some o) : mD l yX12_averageLife (wq yX12_averageLife cX12_averageLife 3 (some .double)) { frames := 1, cells := 0, slots := 0, locals := 20 } G D (tyA c9) [.ref (ad 0)] (wX12 ad c9 m_undoable m_undoStart m_thrown m_inputLength m_position m_start m_token m_value m_letters m_code m_place m_outputLength m_s m_parsed m_tried m_remembered m_slots m_kept m_away m_input m_halfway m_output) [] 0 0 o.1 (wX12 ad c9 m_undoable m_undoStart o.2 m_inputLength m_position m_start m_token m_value m_letters m_code m_place m_outputLength m_s m_parsed m_tried m_remembered m_slots m_kept m_away m_input m_halfway m_output) := by
  refine mD_of hG (cc := cX12_averageLife) (maxL := 3) (ty := .double) (by decide) rfl (Nat.le_of_ble_eq_true rfl) ?_
  intro p e s m args below meth c A X
  have X : vX p s m args meth c cX12_averageLife 3 (some .double) RX12 (wq yX12_averageLife cX12_averageLife 3 (some .double)) D (tyA c9) G A := X
  refine v_eq (lv2 := [(0, .ref (ad 0))]) rfl rfl rfl rfl ?_
  rw [f_X12_averageLife] at hf
  refine v_aload_n X dX12_averageLife_0 0 rfl rfl 1 rfl ?_
  refine v_iconst X dX12_averageLife_1 ic_0 2 rfl ?_
  refine v_put X (C := RX12) (T := TX12) (N := 22) (ci := 11) (ty := tyX12 8) (ws' := (wX12 ad c9 m_undoable m_undoStart 0 m_inputLength m_position m_start m_token m_value m_letters m_code m_place m_outputLength m_s m_parsed m_tried m_remembered m_slots m_kept m_away m_input m_halfway m_output)) dX12_averageLife_2 (lay_of layflt_X12) 0 rfl rfl 8 (by decide) tyX12 tyX12_ok nmX12 (mw wflt_62) rfl rfl (tyX12_ok 8 (by decide)) rfl rfl (Nat.le_of_ble_eq_true rfl) rfl 5 rfl ?_
  refine v_iconst X dX12_averageLife_5 ic_0 6 rfl ?_
  refine v_istore_n X (lv' := [(1, .int 0), (0, .ref (ad 0))]) dX12_averageLife_6 rfl (by decide) rfl 7 rfl ?_
  refine v_iconst X dX12_averageLife_7 ic_0 8 rfl ?_
  refine v_istore_n X (lv' := [(2, .int 0), (1, .int 0), (0, .ref (ad 0))]) dX12_averageLife_8 rfl (by decide) rfl 9 rfl ?_
  obtain ⟨o6, ho6, hf⟩ := bnd hf
  refine v_sub (lv' := [(0, .ref (ad 0)), (1, .int 0), (2, .int 0)]) [2, 1, 0] rfl ?_
  refine l_X12_averageLife_L9 l hG D c9 ad m_undoable m_undoStart 0 m_inputLength m_position m_start m_token m_value m_letters m_code m_place m_outputLength m_s m_parsed m_tried m_remembered m_slots m_kept m_away m_input m_halfway m_output X o6 ?_ 5000 0 0 ho6
  refine v_aload_n X dX12_averageLife_53 0 rfl rfl 54 rfl ?_
  refine v_get X (C := RX12) (T := TX12) (N := 22) (ci := 11) (v := _) dX12_averageLife_54 (lay_of layflt_X12) 0 rfl rfl 0 (by decide) (mw wflt_63) rfl rfl 57 rfl ?_
  refine v_bipush X dX12_averageLife_57 bp_6 59 rfl ?_
  obtain ⟨x7, hx7, hf⟩ := bnd hf
  refine v_iald X dX12_averageLife_59 1 0 rfl rfl hx7 60 rfl ?_
  refine v_if_ne X (tgt := 67) dX12_averageLife_60 rfl 63 rfl hf (fun hf => ?_) (fun hf => ?_)
  · refine v_iload_n X dX12_averageLife_67 1 rfl rfl 68 rfl ?_
    refine v_i2d X dX12_averageLife_68 69 rfl ?_
    refine v_aload_n X dX12_averageLife_69 0 rfl rfl 70 rfl ?_
    refine v_get X (C := RX12) (T := TX12) (N := 22) (ci := 11) (v := _) dX12_averageLife_70 (lay_of layflt_X12) 0 rfl rfl 0 (by decide) (mw wflt_63) rfl rfl 73 rfl ?_
    refine v_bipush X dX12_averageLife_73 bp_6 75 rfl ?_
    obtain ⟨x8, hx8, hf⟩ := bnd hf
    refine v_iald X dX12_averageLife_75 1 0 rfl rfl hx8 76 rfl ?_
    refine v_i2d X dX12_averageLife_76 77 rfl ?_
    obtain ⟨z9, hz9, hf⟩ := bnd hf
    refine v_ddivq X hz9 dX12_averageLife_77 78 rfl ?_
    obtain rfl := Option.some.inj hf
    exact v_dret X (Nat.zero_le _) (Nat.zero_le _) dX12_averageLife_78
  · refine v_dconst0 X dX12_averageLife_63 64 rfl ?_
    refine v_goto X (tgt := 78) dX12_averageLife_64 rfl ?_
    obtain rfl := Option.some.inj hf
    exact v_dret X (Nat.zero_le _) (Nat.zero_le _) dX12_averageLife_78
theorem pd_X12_averageLife : yX12_averageLife.cls ≠ "java/lang/invoke/MethodHandle" ∧ yX12_averageLife.cls ≠ "java/lang/invoke/VarHandle" ∧ (parseMethodDescriptor yX12_averageLife.desc).map (fun d => d.parameters.length) = some 0 := by decide +kernel
