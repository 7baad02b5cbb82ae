/-! A world said by a list, and the rows over it: vX is what is fixed in a method's body, vW is the walk from a place, for every heap that holds the list. -/
def nestW : List Cond := [Cond.fieldLinkNest RX11 105 "TicketGate$Parser" "error" "I" "TicketGate", Cond.fieldLinkNest RX11 112 "TicketGate$State" "time" "I" "TicketGate", Cond.fieldLinkNest RX11 115 "TicketGate$State" "seed" "I" "TicketGate", Cond.fieldLinkNest RX11 118 "TicketGate$State" "realms" "LTicketGate$Realms;" "TicketGate", Cond.fieldLinkNest RX11 125 "TicketGate$State" "users" "LTicketGate$Users;" "TicketGate", Cond.fieldLinkNest RX11 132 "TicketGate$State" "services" "LTicketGate$Services;" "TicketGate", Cond.fieldLinkNest RX11 225 "TicketGate$State" "uses" "LTicketGate$Uses;" "TicketGate", Cond.fieldLinkNest RX11 232 "TicketGate$State" "cheesesOfText" "I" "TicketGate", Cond.fieldLinkNest RX11 65 "TicketGate$Parser" "draft" "LTicketGate$State;" "TicketGate", Cond.fieldLinkNest RX11 98 "TicketGate$State" "tickets" "LTicketGate$Tickets;" "TicketGate", Cond.fieldLinkNest RX1 127 "TicketGate$State" "realms" "LTicketGate$Realms;" "TicketGate", Cond.fieldLinkNest RX1 164 "TicketGate$State" "users" "LTicketGate$Users;" "TicketGate", Cond.fieldLinkNest RX1 174 "TicketGate$State" "services" "LTicketGate$Services;" "TicketGate", Cond.fieldLinkNest RX1 185 "TicketGate$State" "cheesesOfText" "I" "TicketGate", Cond.fieldLinkNest RX1 225 "TicketGate$State" "tickets" "LTicketGate$Tickets;" "TicketGate", Cond.fieldLinkNest RX1 235 "TicketGate$State" "time" "I" "TicketGate", Cond.methodLinkNest RX11 32 yX5_init "TicketGate", Cond.methodLinkNest RX1 11 yX5_init "TicketGate", Cond.methodLinkNest RX4 21 yX5_init "TicketGate", Cond.methodLinkNest RX12 42 yL_cell "TicketGateLaw", Cond.methodLinkNest RX12 55 yL_offset "TicketGateLaw", Cond.methodLinkNest RX12 97 yL_isTrusted "TicketGateLaw", Cond.castable "java/lang/IllegalStateException" "java/lang/IllegalStateException", Cond.castable "java/lang/IllegalArgumentException" "java/lang/IllegalArgumentException", Cond.castable "java/lang/IndexOutOfBoundsException" "java/lang/IndexOutOfBoundsException", Cond.castable "java/util/NoSuchElementException" "java/util/NoSuchElementException", Cond.castable "[B" "java/lang/Cloneable", Cond.declares ⟨"java/lang/RuntimeException", "<init>", "(Ljava/lang/String;)V"⟩, Cond.declares ⟨"java/lang/Exception", "<init>", "(Ljava/lang/String;)V"⟩, Cond.declares ⟨"java/lang/Throwable", "<init>", "(Ljava/lang/String;)V"⟩]
theorem nest_RX11_105 : Cond.fieldLinkNest RX11 105 "TicketGate$Parser" "error" "I" "TicketGate" ∈ nestW := List.mem_of_getElem? (i := 0) rfl
theorem nest_RX11_112 : Cond.fieldLinkNest RX11 112 "TicketGate$State" "time" "I" "TicketGate" ∈ nestW := List.mem_of_getElem? (i := 1) rfl
theorem nest_RX11_115 : Cond.fieldLinkNest RX11 115 "TicketGate$State" "seed" "I" "TicketGate" ∈ nestW := List.mem_of_getElem? (i := 2) rfl
theorem nest_RX11_118 : Cond.fieldLinkNest RX11 118 "TicketGate$State" "realms" "LTicketGate$Realms;" "TicketGate" ∈ nestW := List.mem_of_getElem? (i := 3) rfl
theorem nest_RX11_125 : Cond.fieldLinkNest RX11 125 "TicketGate$State" "users" "LTicketGate$Users;" "TicketGate" ∈ nestW := List.mem_of_getElem? (i := 4) rfl
theorem nest_RX11_132 : Cond.fieldLinkNest RX11 132 "TicketGate$State" "services" "LTicketGate$Services;" "TicketGate" ∈ nestW := List.mem_of_getElem? (i := 5) rfl
theorem nest_RX11_225 : Cond.fieldLinkNest RX11 225 "TicketGate$State" "uses" "LTicketGate$Uses;" "TicketGate" ∈ nestW := List.mem_of_getElem? (i := 6) rfl
theorem nest_RX11_232 : Cond.fieldLinkNest RX11 232 "TicketGate$State" "cheesesOfText" "I" "TicketGate" ∈ nestW := List.mem_of_getElem? (i := 7) rfl
theorem nest_RX11_65 : Cond.fieldLinkNest RX11 65 "TicketGate$Parser" "draft" "LTicketGate$State;" "TicketGate" ∈ nestW := List.mem_of_getElem? (i := 8) rfl
theorem nest_RX11_98 : Cond.fieldLinkNest RX11 98 "TicketGate$State" "tickets" "LTicketGate$Tickets;" "TicketGate" ∈ nestW := List.mem_of_getElem? (i := 9) rfl
theorem nest_RX1_127 : Cond.fieldLinkNest RX1 127 "TicketGate$State" "realms" "LTicketGate$Realms;" "TicketGate" ∈ nestW := List.mem_of_getElem? (i := 10) rfl
theorem nest_RX1_164 : Cond.fieldLinkNest RX1 164 "TicketGate$State" "users" "LTicketGate$Users;" "TicketGate" ∈ nestW := List.mem_of_getElem? (i := 11) rfl
theorem nest_RX1_174 : Cond.fieldLinkNest RX1 174 "TicketGate$State" "services" "LTicketGate$Services;" "TicketGate" ∈ nestW := List.mem_of_getElem? (i := 12) rfl
theorem nest_RX1_185 : Cond.fieldLinkNest RX1 185 "TicketGate$State" "cheesesOfText" "I" "TicketGate" ∈ nestW := List.mem_of_getElem? (i := 13) rfl
theorem nest_RX1_225 : Cond.fieldLinkNest RX1 225 "TicketGate$State" "tickets" "LTicketGate$Tickets;" "TicketGate" ∈ nestW := List.mem_of_getElem? (i := 14) rfl
theorem nest_RX1_235 : Cond.fieldLinkNest RX1 235 "TicketGate$State" "time" "I" "TicketGate" ∈ nestW := List.mem_of_getElem? (i := 15) rfl
theorem nest_RX11_32 : Cond.methodLinkNest RX11 32 yX5_init "TicketGate" ∈ nestW := List.mem_of_getElem? (i := 16) rfl
theorem nest_RX1_11 : Cond.methodLinkNest RX1 11 yX5_init "TicketGate" ∈ nestW := List.mem_of_getElem? (i := 17) rfl
theorem nest_RX4_21 : Cond.methodLinkNest RX4 21 yX5_init "TicketGate" ∈ nestW := List.mem_of_getElem? (i := 18) rfl
theorem nest_RX12_42 : Cond.methodLinkNest RX12 42 yL_cell "TicketGateLaw" ∈ nestW := List.mem_of_getElem? (i := 19) rfl
theorem nest_RX12_55 : Cond.methodLinkNest RX12 55 yL_offset "TicketGateLaw" ∈ nestW := List.mem_of_getElem? (i := 20) rfl
theorem nest_RX12_97 : Cond.methodLinkNest RX12 97 yL_isTrusted "TicketGateLaw" ∈ nestW := List.mem_of_getElem? (i := 21) rfl
theorem nest_clone : Cond.castable "[B" "java/lang/Cloneable" ∈ nestW := List.mem_of_getElem? (i := 26) rfl
theorem nest_ok : ∀ w ∈ nestW, w.onTables = true := by decide
/-- what a surrounding (texts, statics) keeps: fewer cells of one's own, a heap with the others as they were, tables grown warmer -/
def vG (G : (Nat → Prop) → State → Heap → Prop) : Prop := (∀ (A B : Nat → Prop) (U : State) (H : Heap), G A U H → (∀ q, B q → A q) → G B U H) ∧ (∀ (A : Nat → Prop) (U : State) (H H1 : Heap), G A U H → (∀ a : Nat, a < H.size → ¬ A a → H1[a]? = H[a]?) → G A U H1) ∧ (∀ (A : Nat → Prop) (s U : State) (H : Heap), s.WarmedH U.vm → G A s H → G A U H) ∧ ∀ (A : Nat → Prop) (U : State) (H : Heap), G A U H → ∀ w ∈ nestW, va_Nw w U
def vX (p : Program) (s : State) (m : MethodId) (args : Array Value) (meth : Method) (c : Code) (cc : ByteArray) (nL : Nat) (ret : Option FieldType) (own : String) (Ts : List Cond) (D : va_G) (tys : List (ClassId × FieldType)) (G : (Nat → Prop) → State → Heap → Prop) (A : Nat → Prop) : Prop :=
  p.tables.exec = Jvm.exec ∧ c.code = cc ∧ meth.sig.returnType = ret ∧ c.maxLocals = nL ∧ s.vm.findClass own = some m.cls ∧ (∀ w ∈ Ts, w.before args s = true) ∧ meth.locks = false ∧ va_K D vwCl tys s ∧ (∀ q : Nat, s.heap.size ≤ q → A q) ∧ vG G ∧ G A s s.heap
def vW (p : Program) (l : Launch) (e : Env) (R : Room) (s : State) (m : MethodId) (args : Array Value) (below : List Frame) (meth : Method) (c : Code) (nL : Nat) (D : va_G) (A : Nat → Prop) (F : va_W) (cells slots : Nat) (Q : State → Prop) (ws : va_W) (pc : Nat) (lv : List (Nat × Value)) (st : List Value) : Prop :=
  ∀ (H : Heap) (locs : List Loc) (ls : Array Slot), va_P D vwCl (ws ++ F) H → va_D A (ws ++ F) → va_S A s.heap H locs → lv_has ls nL lv → W p l e R s m args below meth c H locs cells slots Q (F0 m pc ls st)
/-- a read, a write, a quotient, a rest: none where the machine itself would throw -/
def rd (f : Nat → Int32) (n : Nat) (i : Int32) : Option Int32 := if i < 0 ∨ n ≤ i.toNatClampNeg then none else some (f i.toNatClampNeg)
def wr (f : Nat → Int32) (n : Nat) (i v : Int32) : Option (Nat → Int32) := if i < 0 ∨ n ≤ i.toNatClampNeg then none else some (upd f i.toNatClampNeg v)
def dv (x y : Int32) : Option Int32 := if y = 0 then none else some (x / y)
def irm (x y : Int32) : Int32 := x - x / y * y
def rm (x y : Int32) : Option Int32 := if y = 0 then none else some (irm x y)
theorem rd_in {f : Nat → Int32} {n : Nat} {i x : Int32} (h : rd f n i = some x) : vp_in i n ∧ x = f i.toNatClampNeg := by
  unfold rd at h
  split at h
  · cases h
  · rename_i h1
    cases h
    exact ⟨h1, rfl⟩
theorem wr_in {f g : Nat → Int32} {n : Nat} {i v : Int32} (h : wr f n i v = some g) : vp_in i n ∧ g = upd f i.toNatClampNeg v := by
  unfold wr at h
  split at h
  · cases h
  · rename_i h1
    cases h
    exact ⟨h1, rfl⟩
theorem dv_in {x y z : Int32} (h : dv x y = some z) : ¬ y = 0 ∧ z = x / y := by
  unfold dv at h
  split at h
  · cases h
  · rename_i h1
    cases h
    exact ⟨h1, rfl⟩
theorem rm_in {x y z : Int32} (h : rm x y = some z) : ¬ y = 0 ∧ z = irm x y := by
  unfold rm at h
  split at h
  · cases h
  · rename_i h1
    cases h
    exact ⟨h1, rfl⟩
theorem bnd {α β : Type} {o : Option α} {k : α → Option β} {r : β} (h : o.bind k = some r) : ∃ x, o = some x ∧ k x = some r := Option.bind_eq_some_iff.mp h
theorem app_at {ws F : va_W} {k : Nat} {q : Nat × va_E} (h : ws[k]? = some q) : (ws ++ F)[k]? = some q := by
  rw [List.getElem?_append_left (List.getElem?_eq_some_iff.mp h).1]
  exact h
theorem app_set {ws F ws' : va_W} {k : Nat} {q q2 : Nat × va_E} (h : ws[k]? = some q) (h2 : ws.set k q2 = ws') : (ws ++ F).set k q2 = ws' ++ F := by
  rw [List.set_append_left _ _ (List.getElem?_eq_some_iff.mp h).1, h2]
section VL
variable {p : Program} {l : Launch} {e : Env} {R : Room} {s : State} {m : MethodId} {args : Array Value} {below : List Frame} {meth : Method} {c : Code} {cc : ByteArray} {nL : Nat} {ret : Option FieldType} {own : String} {Ts : List Cond} {D : va_G} {tys : List (ClassId × FieldType)} {G : (Nat → Prop) → State → Heap → Prop} {A : Nat → Prop} {F : va_W} {cells slots : Nat} {Q : State → Prop} {ws : va_W} {pc : Nat} {lv : List (Nat × Value)} {st : List Value}
theorem v_iload_n (X : vX p s m args meth c cc nL ret own Ts D tys G A)  {k : Fin 4} {i : Nat} {x : Int32} (d : decode cc pc = .ok (.iload_n k, 1))  (kk : Nat) (hk : lv[kk]? = some (i, .int x)) (hi : (k : Nat) = i) (q : Nat) (hq : pc + 1 = q) (K : vW p l e R s m args below meth c nL D A F cells slots Q ws q lv (.int x :: st)) : vW p l e R s m args below meth c nL D A F cells slots Q ws pc lv st := by
  subst hq
  exact fun H locs ls hP hD hS hl => lv_iload_n X.1 X.2.1 d hi (lv_at hl kk hk) (K H locs ls hP hD hS hl)
theorem v_iload (X : vX p s m args meth c cc nL ret own Ts D tys G A)  {i : Nat} {x : Int32} (d : decode cc pc = .ok (.iload i, 2))  (kk : Nat) (hk : lv[kk]? = some (i, .int x)) (q : Nat) (hq : pc + 2 = q) (K : vW p l e R s m args below meth c nL D A F cells slots Q ws q lv (.int x :: st)) : vW p l e R s m args below meth c nL D A F cells slots Q ws pc lv st := by
  subst hq
  exact fun H locs ls hP hD hS hl => lv_iload X.1 X.2.1 d (lv_at hl kk hk) (K H locs ls hP hD hS hl)
theorem v_aload_n (X : vX p s m args meth c cc nL ret own Ts D tys G A)  {k : Fin 4} {i : Nat} {x : Nat} (d : decode cc pc = .ok (.aload_n k, 1))  (kk : Nat) (hk : lv[kk]? = some (i, .ref x)) (hi : (k : Nat) = i) (q : Nat) (hq : pc + 1 = q) (K : vW p l e R s m args below meth c nL D A F cells slots Q ws q lv (.ref x :: st)) : vW p l e R s m args below meth c nL D A F cells slots Q ws pc lv st := by
  subst hq
  exact fun H locs ls hP hD hS hl => lv_aload_n X.1 X.2.1 d hi (lv_at hl kk hk) (K H locs ls hP hD hS hl)
theorem v_aload (X : vX p s m args meth c cc nL ret own Ts D tys G A)  {i : Nat} {x : Nat} (d : decode cc pc = .ok (.aload i, 2))  (kk : Nat) (hk : lv[kk]? = some (i, .ref x)) (q : Nat) (hq : pc + 2 = q) (K : vW p l e R s m args below meth c nL D A F cells slots Q ws q lv (.ref x :: st)) : vW p l e R s m args below meth c nL D A F cells slots Q ws pc lv st := by
  subst hq
  exact fun H locs ls hP hD hS hl => lv_aload X.1 X.2.1 d (lv_at hl kk hk) (K H locs ls hP hD hS hl)
theorem v_iconst (X : vX p s m args meth c cc nL ret own Ts D tys G A)  {n : Int} {v : Int32} (d : decode cc pc = .ok (.iconst n, 1))  (hv : Int32.ofInt n = v) (q : Nat) (hq : pc + 1 = q) (K : vW p l e R s m args below meth c nL D A F cells slots Q ws q lv (.int v :: st)) : vW p l e R s m args below meth c nL D A F cells slots Q ws pc lv st := by
  subst hq
  exact fun H locs ls hP hD hS hl => lv_iconst X.1 X.2.1 d hv (K H locs ls hP hD hS hl)
theorem v_bipush (X : vX p s m args meth c cc nL ret own Ts D tys G A)  {n : Int} {v : Int32} (d : decode cc pc = .ok (.bipush n, 2))  (hv : (Int8.ofInt n).toInt32 = v) (q : Nat) (hq : pc + 2 = q) (K : vW p l e R s m args below meth c nL D A F cells slots Q ws q lv (.int v :: st)) : vW p l e R s m args below meth c nL D A F cells slots Q ws pc lv st := by
  subst hq
  exact fun H locs ls hP hD hS hl => lv_bipush X.1 X.2.1 d hv (K H locs ls hP hD hS hl)
theorem v_sipush (X : vX p s m args meth c cc nL ret own Ts D tys G A)  {n : Int} {v : Int32} (d : decode cc pc = .ok (.sipush n, 3))  (hv : (Int16.ofInt n).toInt32 = v) (q : Nat) (hq : pc + 3 = q) (K : vW p l e R s m args below meth c nL D A F cells slots Q ws q lv (.int v :: st)) : vW p l e R s m args below meth c nL D A F cells slots Q ws pc lv st := by
  subst hq
  exact fun H locs ls hP hD hS hl => lv_sipush X.1 X.2.1 d hv (K H locs ls hP hD hS hl)
theorem v_ldc (X : vX p s m args meth c cc nL ret own Ts D tys G A)  {index : Nat} {v : Int32} (d : decode cc pc = .ok (.ldc index, 2))  (hc : (Jvm.Cond.constant own index v).before args s = true) (q : Nat) (hq : pc + 2 = q) (K : vW p l e R s m args below meth c nL D A F cells slots Q ws q lv (.int v :: st)) : vW p l e R s m args below meth c nL D A F cells slots Q ws pc lv st := by
  subst hq
  exact fun H locs ls hP hD hS hl => lv_ldc X.1 X.2.1 X.2.2.2.2.1 hc d (K H locs ls hP hD hS hl)
theorem v_iadd (X : vX p s m args meth c cc nL ret own Ts D tys G A)  {x y : Int32} (d : decode cc pc = .ok (.iadd, 1))  (q : Nat) (hq : pc + 1 = q) (K : vW p l e R s m args below meth c nL D A F cells slots Q ws q lv (.int (x + y) :: st)) : vW p l e R s m args below meth c nL D A F cells slots Q ws pc lv (.int y :: .int x :: st) := by
  subst hq
  exact fun H locs ls hP hD hS hl => lv_iadd X.1 X.2.1 d (K H locs ls hP hD hS hl)
theorem v_isub (X : vX p s m args meth c cc nL ret own Ts D tys G A)  {x y : Int32} (d : decode cc pc = .ok (.isub, 1))  (q : Nat) (hq : pc + 1 = q) (K : vW p l e R s m args below meth c nL D A F cells slots Q ws q lv (.int (x - y) :: st)) : vW p l e R s m args below meth c nL D A F cells slots Q ws pc lv (.int y :: .int x :: st) := by
  subst hq
  exact fun H locs ls hP hD hS hl => lv_isub X.1 X.2.1 d (K H locs ls hP hD hS hl)
theorem v_imul (X : vX p s m args meth c cc nL ret own Ts D tys G A)  {x y : Int32} (d : decode cc pc = .ok (.imul, 1))  (q : Nat) (hq : pc + 1 = q) (K : vW p l e R s m args below meth c nL D A F cells slots Q ws q lv (.int (x * y) :: st)) : vW p l e R s m args below meth c nL D A F cells slots Q ws pc lv (.int y :: .int x :: st) := by
  subst hq
  exact fun H locs ls hP hD hS hl => lv_imul X.1 X.2.1 d (K H locs ls hP hD hS hl)
theorem v_iand (X : vX p s m args meth c cc nL ret own Ts D tys G A)  {x y : Int32} (d : decode cc pc = .ok (.iand, 1))  (q : Nat) (hq : pc + 1 = q) (K : vW p l e R s m args below meth c nL D A F cells slots Q ws q lv (.int (x &&& y) :: st)) : vW p l e R s m args below meth c nL D A F cells slots Q ws pc lv (.int y :: .int x :: st) := by
  subst hq
  exact fun H locs ls hP hD hS hl => lv_iand X.1 X.2.1 d (K H locs ls hP hD hS hl)
theorem v_ior (X : vX p s m args meth c cc nL ret own Ts D tys G A)  {x y : Int32} (d : decode cc pc = .ok (.ior, 1))  (q : Nat) (hq : pc + 1 = q) (K : vW p l e R s m args below meth c nL D A F cells slots Q ws q lv (.int (x ||| y) :: st)) : vW p l e R s m args below meth c nL D A F cells slots Q ws pc lv (.int y :: .int x :: st) := by
  subst hq
  exact fun H locs ls hP hD hS hl => lv_ior X.1 X.2.1 d (K H locs ls hP hD hS hl)
theorem v_ishl (X : vX p s m args meth c cc nL ret own Ts D tys G A)  {x y : Int32} (d : decode cc pc = .ok (.ishl, 1))  (q : Nat) (hq : pc + 1 = q) (K : vW p l e R s m args below meth c nL D A F cells slots Q ws q lv (.int (x <<< (y &&& 31)) :: st)) : vW p l e R s m args below meth c nL D A F cells slots Q ws pc lv (.int y :: .int x :: st) := by
  subst hq
  exact fun H locs ls hP hD hS hl => lv_ishl X.1 X.2.1 d (K H locs ls hP hD hS hl)
theorem v_ishr (X : vX p s m args meth c cc nL ret own Ts D tys G A)  {x y : Int32} (d : decode cc pc = .ok (.ishr, 1))  (q : Nat) (hq : pc + 1 = q) (K : vW p l e R s m args below meth c nL D A F cells slots Q ws q lv (.int (x >>> (y &&& 31)) :: st)) : vW p l e R s m args below meth c nL D A F cells slots Q ws pc lv (.int y :: .int x :: st) := by
  subst hq
  exact fun H locs ls hP hD hS hl => lv_ishr X.1 X.2.1 d (K H locs ls hP hD hS hl)
theorem v_iushr (X : vX p s m args meth c cc nL ret own Ts D tys G A)  {x y v : Int32} (d : decode cc pc = .ok (.iushr, 1))  (hv : (x.toUInt32 >>> (y.toUInt32 &&& Int32.toUInt32 31)).toInt32 = v) (q : Nat) (hq : pc + 1 = q) (K : vW p l e R s m args below meth c nL D A F cells slots Q ws q lv (.int v :: st)) : vW p l e R s m args below meth c nL D A F cells slots Q ws pc lv (.int y :: .int x :: st) := by
  subst hq
  exact fun H locs ls hP hD hS hl => lv_iushr X.1 X.2.1 d hv (K H locs ls hP hD hS hl)
theorem v_ineg (X : vX p s m args meth c cc nL ret own Ts D tys G A)  {x : Int32} (d : decode cc pc = .ok (.ineg, 1))  (q : Nat) (hq : pc + 1 = q) (K : vW p l e R s m args below meth c nL D A F cells slots Q ws q lv (.int (-x) :: st)) : vW p l e R s m args below meth c nL D A F cells slots Q ws pc lv (.int x :: st) := by
  subst hq
  exact fun H locs ls hP hD hS hl => lv_ineg X.1 X.2.1 d (K H locs ls hP hD hS hl)
theorem v_i2b (X : vX p s m args meth c cc nL ret own Ts D tys G A)  {x : Int32} (d : decode cc pc = .ok (.i2b, 1))  (q : Nat) (hq : pc + 1 = q) (K : vW p l e R s m args below meth c nL D A F cells slots Q ws q lv (.int x.toInt8.toInt32 :: st)) : vW p l e R s m args below meth c nL D A F cells slots Q ws pc lv (.int x :: st) := by
  subst hq
  exact fun H locs ls hP hD hS hl => lv_i2b X.1 X.2.1 d rfl (K H locs ls hP hD hS hl)
theorem v_idiv (X : vX p s m args meth c cc nL ret own Ts D tys G A)  {x y : Int32} (d : decode cc pc = .ok (.idiv, 1))  (hn : ¬ y = 0) (q : Nat) (hq : pc + 1 = q) (K : vW p l e R s m args below meth c nL D A F cells slots Q ws q lv (.int (x / y) :: st)) : vW p l e R s m args below meth c nL D A F cells slots Q ws pc lv (.int y :: .int x :: st) := by
  subst hq
  exact fun H locs ls hP hD hS hl => lv_idiv X.1 X.2.1 d hn (K H locs ls hP hD hS hl)
theorem v_irem (X : vX p s m args meth c cc nL ret own Ts D tys G A)  {x y : Int32} (d : decode cc pc = .ok (.irem, 1))  (hn : ¬ y = 0) (q : Nat) (hq : pc + 1 = q) (K : vW p l e R s m args below meth c nL D A F cells slots Q ws q lv (.int (irm x y) :: st)) : vW p l e R s m args below meth c nL D A F cells slots Q ws pc lv (.int y :: .int x :: st) := by
  subst hq
  exact fun H locs ls hP hD hS hl => lv_irem X.1 X.2.1 d hn (K H locs ls hP hD hS hl)
theorem v_idivq (X : vX p s m args meth c cc nL ret own Ts D tys G A) {x y z : Int32} (d : decode cc pc = .ok (.idiv, 1)) (h : dv x y = some z) (q : Nat) (hq : pc + 1 = q) (K : vW p l e R s m args below meth c nL D A F cells slots Q ws q lv (.int z :: st)) : vW p l e R s m args below meth c nL D A F cells slots Q ws pc lv (.int y :: .int x :: st) := by
  obtain ⟨h1, rfl⟩ := dv_in h
  exact v_idiv X d h1 q hq K
theorem v_iremq (X : vX p s m args meth c cc nL ret own Ts D tys G A) {x y z : Int32} (d : decode cc pc = .ok (.irem, 1)) (h : rm x y = some z) (q : Nat) (hq : pc + 1 = q) (K : vW p l e R s m args below meth c nL D A F cells slots Q ws q lv (.int z :: st)) : vW p l e R s m args below meth c nL D A F cells slots Q ws pc lv (.int y :: .int x :: st) := by
  obtain ⟨h1, rfl⟩ := rm_in h
  exact v_irem X d h1 q hq K
theorem v_dup (X : vX p s m args meth c cc nL ret own Ts D tys G A)  {va : Value} (d : decode cc pc = .ok (.dup, 1))  (hva : va.category = 1) (q : Nat) (hq : pc + 1 = q) (K : vW p l e R s m args below meth c nL D A F cells slots Q ws q lv (va :: va :: st)) : vW p l e R s m args below meth c nL D A F cells slots Q ws pc lv (va :: st) := by
  subst hq
  exact fun H locs ls hP hD hS hl => lv_dup X.1 X.2.1 d hva (K H locs ls hP hD hS hl)
theorem v_dup2 (X : vX p s m args meth c cc nL ret own Ts D tys G A)  {va vb : Value} (d : decode cc pc = .ok (.dup2, 1))  (hva : va.category = 1) (hvb : vb.category = 1) (q : Nat) (hq : pc + 1 = q) (K : vW p l e R s m args below meth c nL D A F cells slots Q ws q lv (va :: vb :: va :: vb :: st)) : vW p l e R s m args below meth c nL D A F cells slots Q ws pc lv (va :: vb :: st) := by
  subst hq
  exact fun H locs ls hP hD hS hl => lv_dup2_11 X.1 X.2.1 d hva hvb (K H locs ls hP hD hS hl)
theorem v_pop (X : vX p s m args meth c cc nL ret own Ts D tys G A)  {va : Value} (d : decode cc pc = .ok (.pop, 1))  (hva : va.category = 1) (q : Nat) (hq : pc + 1 = q) (K : vW p l e R s m args below meth c nL D A F cells slots Q ws q lv st) : vW p l e R s m args below meth c nL D A F cells slots Q ws pc lv (va :: st) := by
  subst hq
  exact fun H locs ls hP hD hS hl => lv_pop X.1 X.2.1 d hva (K H locs ls hP hD hS hl)
theorem v_istore_n (X : vX p s m args meth c cc nL ret own Ts D tys G A)  {k : Fin 4} {i : Nat} {x : Int32} {lv' : List (Nat × Value)} (d : decode cc pc = .ok (.istore_n k, 1))  (hi : (k : Nat) = i) (hn : i < nL) (hl' : (i, Value.int x) :: lv.filter (fun q => !(q.1 == i) && !(q.1 + 1 == i && q.2.category == 2)) = lv') (q : Nat) (hq : pc + 1 = q) (K : vW p l e R s m args below meth c nL D A F cells slots Q ws q lv' st) : vW p l e R s m args below meth c nL D A F cells slots Q ws pc lv (.int x :: st) := by
  subst hq
  exact fun H locs ls hP hD hS hl => lv_istore_n X.1 X.2.1 d hi hl hn hl' (fun ls hl => K H locs ls hP hD hS hl)
theorem v_istore (X : vX p s m args meth c cc nL ret own Ts D tys G A)  {i : Nat} {x : Int32} {lv' : List (Nat × Value)} (d : decode cc pc = .ok (.istore i, 2))  (hn : i < nL) (hl' : (i, Value.int x) :: lv.filter (fun q => !(q.1 == i) && !(q.1 + 1 == i && q.2.category == 2)) = lv') (q : Nat) (hq : pc + 2 = q) (K : vW p l e R s m args below meth c nL D A F cells slots Q ws q lv' st) : vW p l e R s m args below meth c nL D A F cells slots Q ws pc lv (.int x :: st) := by
  subst hq
  exact fun H locs ls hP hD hS hl => lv_istore X.1 X.2.1 d hl hn hl' (fun ls hl => K H locs ls hP hD hS hl)
theorem v_astore_n (X : vX p s m args meth c cc nL ret own Ts D tys G A)  {k : Fin 4} {i : Nat} {x : Nat} {lv' : List (Nat × Value)} (d : decode cc pc = .ok (.astore_n k, 1))  (hi : (k : Nat) = i) (hn : i < nL) (hl' : (i, Value.ref x) :: lv.filter (fun q => !(q.1 == i) && !(q.1 + 1 == i && q.2.category == 2)) = lv') (q : Nat) (hq : pc + 1 = q) (K : vW p l e R s m args below meth c nL D A F cells slots Q ws q lv' st) : vW p l e R s m args below meth c nL D A F cells slots Q ws pc lv (.ref x :: st) := by
  subst hq
  exact fun H locs ls hP hD hS hl => lv_astore_n X.1 X.2.1 d hi hl hn hl' (fun ls hl => K H locs ls hP hD hS hl)
theorem v_astore (X : vX p s m args meth c cc nL ret own Ts D tys G A)  {i : Nat} {x : Nat} {lv' : List (Nat × Value)} (d : decode cc pc = .ok (.astore i, 2))  (hn : i < nL) (hl' : (i, Value.ref x) :: lv.filter (fun q => !(q.1 == i) && !(q.1 + 1 == i && q.2.category == 2)) = lv') (q : Nat) (hq : pc + 2 = q) (K : vW p l e R s m args below meth c nL D A F cells slots Q ws q lv' st) : vW p l e R s m args below meth c nL D A F cells slots Q ws pc lv (.ref x :: st) := by
  subst hq
  exact fun H locs ls hP hD hS hl => lv_astore X.1 X.2.1 d hl hn hl' (fun ls hl => K H locs ls hP hD hS hl)
theorem v_iinc (X : vX p s m args meth c cc nL ret own Ts D tys G A)  {i : Nat} {n : Int} {x v : Int32} {lv' : List (Nat × Value)} (d : decode cc pc = .ok (.iinc i n, 3))  (k : Nat) (hk : lv[k]? = some (i, .int x)) (hv : Int32.ofInt n = v) (hn : i < nL) (hl' : (i, Value.int (x + v)) :: lv.filter (fun q => !(q.1 == i) && !(q.1 + 1 == i && q.2.category == 2)) = lv') (q : Nat) (hq : pc + 3 = q) (K : vW p l e R s m args below meth c nL D A F cells slots Q ws q lv' st) : vW p l e R s m args below meth c nL D A F cells slots Q ws pc lv st := by
  subst hq
  exact fun H locs ls hP hD hS hl => lv_iinc X.1 X.2.1 d hl hk (by rw [hv]) hn hl' (fun ls hl => K H locs ls hP hD hS hl)
theorem v_sub {lv' : List (Nat × Value)} (ks : List Nat) (h : lv_pick lv ks = lv') (K : vW p l e R s m args below meth c nL D A F cells slots Q ws pc lv' st) : vW p l e R s m args below meth c nL D A F cells slots Q ws pc lv st := fun H locs ls hP hD hS hl => K H locs ls hP hD hS (lv_sub hl ks h)
theorem v_eq {ws2 : va_W} {pc2 : Nat} {lv2 : List (Nat × Value)} {st2 : List Value} (h1 : ws = ws2) (h2 : pc = pc2) (h3 : lv = lv2) (h4 : st = st2) (K : vW p l e R s m args below meth c nL D A F cells slots Q ws2 pc2 lv2 st2) : vW p l e R s m args below meth c nL D A F cells slots Q ws pc lv st := by
  subst h1; subst h2; subst h3; subst h4; exact K
theorem v_goto (X : vX p s m args meth c cc nL ret own Ts D tys G A) {off : Int} {tgt : Nat} (d : decode cc pc = .ok (.goto off, 3)) (ht : (pc : Int) + off = (tgt : Int)) (K : vW p l e R s m args below meth c nL D A F cells slots Q ws tgt lv st) : vW p l e R s m args below meth c nL D A F cells slots Q ws pc lv st := fun H locs ls hP hD hS hl => lv_goto X.1 X.2.1 d ht (K H locs ls hP hD hS hl)
theorem v_icmp_ge (X : vX p s m args meth c cc nL ret own Ts D tys G A) {x y : Int32} {β : Type} {a b : Option β} {o : β} {off : Int} {tgt : Nat} (d : decode cc pc = .ok (.if_icmp .ge off, 3)) (ht : (pc : Int) + off = (tgt : Int)) (q : Nat) (hq : pc + 3 = q) (hf : (if y ≤ x then a else b) = some o) (Kt : a = some o → vW p l e R s m args below meth c nL D A F cells slots Q ws tgt lv st) (Kf : b = some o → vW p l e R s m args below meth c nL D A F cells slots Q ws q lv st) : vW p l e R s m args below meth c nL D A F cells slots Q ws pc lv (.int y :: .int x :: st) := by
  subst hq
  exact fun H locs ls hP hD hS hl => lv_icmp_ge X.1 X.2.1 d ht (fun h => Kt (by rw [if_pos h] at hf; exact hf) H locs ls hP hD hS hl) (fun h => Kf (by rw [if_neg h] at hf; exact hf) H locs ls hP hD hS hl)
theorem v_if_ge (X : vX p s m args meth c cc nL ret own Ts D tys G A) {x : Int32} {β : Type} {a b : Option β} {o : β} {off : Int} {tgt : Nat} (d : decode cc pc = .ok (.ifCond .ge off, 3)) (ht : (pc : Int) + off = (tgt : Int)) (q : Nat) (hq : pc + 3 = q) (hf : (if 0 ≤ x then a else b) = some o) (Kt : a = some o → vW p l e R s m args below meth c nL D A F cells slots Q ws tgt lv st) (Kf : b = some o → vW p l e R s m args below meth c nL D A F cells slots Q ws q lv st) : vW p l e R s m args below meth c nL D A F cells slots Q ws pc lv (.int x :: st) := by
  subst hq
  exact fun H locs ls hP hD hS hl => lv_if_ge X.1 X.2.1 d ht (fun h => Kt (by rw [if_pos h] at hf; exact hf) H locs ls hP hD hS hl) (fun h => Kf (by rw [if_neg h] at hf; exact hf) H locs ls hP hD hS hl)
theorem v_icmp_gt (X : vX p s m args meth c cc nL ret own Ts D tys G A) {x y : Int32} {β : Type} {a b : Option β} {o : β} {off : Int} {tgt : Nat} (d : decode cc pc = .ok (.if_icmp .gt off, 3)) (ht : (pc : Int) + off = (tgt : Int)) (q : Nat) (hq : pc + 3 = q) (hf : (if y < x then a else b) = some o) (Kt : a = some o → vW p l e R s m args below meth c nL D A F cells slots Q ws tgt lv st) (Kf : b = some o → vW p l e R s m args below meth c nL D A F cells slots Q ws q lv st) : vW p l e R s m args below meth c nL D A F cells slots Q ws pc lv (.int y :: .int x :: st) := by
  subst hq
  exact fun H locs ls hP hD hS hl => lv_icmp_gt X.1 X.2.1 d ht (fun h => Kt (by rw [if_pos h] at hf; exact hf) H locs ls hP hD hS hl) (fun h => Kf (by rw [if_neg h] at hf; exact hf) H locs ls hP hD hS hl)
theorem v_if_gt (X : vX p s m args meth c cc nL ret own Ts D tys G A) {x : Int32} {β : Type} {a b : Option β} {o : β} {off : Int} {tgt : Nat} (d : decode cc pc = .ok (.ifCond .gt off, 3)) (ht : (pc : Int) + off = (tgt : Int)) (q : Nat) (hq : pc + 3 = q) (hf : (if 0 < x then a else b) = some o) (Kt : a = some o → vW p l e R s m args below meth c nL D A F cells slots Q ws tgt lv st) (Kf : b = some o → vW p l e R s m args below meth c nL D A F cells slots Q ws q lv st) : vW p l e R s m args below meth c nL D A F cells slots Q ws pc lv (.int x :: st) := by
  subst hq
  exact fun H locs ls hP hD hS hl => lv_if_gt X.1 X.2.1 d ht (fun h => Kt (by rw [if_pos h] at hf; exact hf) H locs ls hP hD hS hl) (fun h => Kf (by rw [if_neg h] at hf; exact hf) H locs ls hP hD hS hl)
theorem v_icmp_le (X : vX p s m args meth c cc nL ret own Ts D tys G A) {x y : Int32} {β : Type} {a b : Option β} {o : β} {off : Int} {tgt : Nat} (d : decode cc pc = .ok (.if_icmp .le off, 3)) (ht : (pc : Int) + off = (tgt : Int)) (q : Nat) (hq : pc + 3 = q) (hf : (if x ≤ y then a else b) = some o) (Kt : a = some o → vW p l e R s m args below meth c nL D A F cells slots Q ws tgt lv st) (Kf : b = some o → vW p l e R s m args below meth c nL D A F cells slots Q ws q lv st) : vW p l e R s m args below meth c nL D A F cells slots Q ws pc lv (.int y :: .int x :: st) := by
  subst hq
  exact fun H locs ls hP hD hS hl => lv_icmp_le X.1 X.2.1 d ht (fun h => Kt (by rw [if_pos h] at hf; exact hf) H locs ls hP hD hS hl) (fun h => Kf (by rw [if_neg h] at hf; exact hf) H locs ls hP hD hS hl)
theorem v_if_le (X : vX p s m args meth c cc nL ret own Ts D tys G A) {x : Int32} {β : Type} {a b : Option β} {o : β} {off : Int} {tgt : Nat} (d : decode cc pc = .ok (.ifCond .le off, 3)) (ht : (pc : Int) + off = (tgt : Int)) (q : Nat) (hq : pc + 3 = q) (hf : (if x ≤ 0 then a else b) = some o) (Kt : a = some o → vW p l e R s m args below meth c nL D A F cells slots Q ws tgt lv st) (Kf : b = some o → vW p l e R s m args below meth c nL D A F cells slots Q ws q lv st) : vW p l e R s m args below meth c nL D A F cells slots Q ws pc lv (.int x :: st) := by
  subst hq
  exact fun H locs ls hP hD hS hl => lv_if_le X.1 X.2.1 d ht (fun h => Kt (by rw [if_pos h] at hf; exact hf) H locs ls hP hD hS hl) (fun h => Kf (by rw [if_neg h] at hf; exact hf) H locs ls hP hD hS hl)
theorem v_icmp_lt (X : vX p s m args meth c cc nL ret own Ts D tys G A) {x y : Int32} {β : Type} {a b : Option β} {o : β} {off : Int} {tgt : Nat} (d : decode cc pc = .ok (.if_icmp .lt off, 3)) (ht : (pc : Int) + off = (tgt : Int)) (q : Nat) (hq : pc + 3 = q) (hf : (if x < y then a else b) = some o) (Kt : a = some o → vW p l e R s m args below meth c nL D A F cells slots Q ws tgt lv st) (Kf : b = some o → vW p l e R s m args below meth c nL D A F cells slots Q ws q lv st) : vW p l e R s m args below meth c nL D A F cells slots Q ws pc lv (.int y :: .int x :: st) := by
  subst hq
  exact fun H locs ls hP hD hS hl => lv_icmp_lt X.1 X.2.1 d ht (fun h => Kt (by rw [if_pos h] at hf; exact hf) H locs ls hP hD hS hl) (fun h => Kf (by rw [if_neg h] at hf; exact hf) H locs ls hP hD hS hl)
theorem v_if_lt (X : vX p s m args meth c cc nL ret own Ts D tys G A) {x : Int32} {β : Type} {a b : Option β} {o : β} {off : Int} {tgt : Nat} (d : decode cc pc = .ok (.ifCond .lt off, 3)) (ht : (pc : Int) + off = (tgt : Int)) (q : Nat) (hq : pc + 3 = q) (hf : (if x < 0 then a else b) = some o) (Kt : a = some o → vW p l e R s m args below meth c nL D A F cells slots Q ws tgt lv st) (Kf : b = some o → vW p l e R s m args below meth c nL D A F cells slots Q ws q lv st) : vW p l e R s m args below meth c nL D A F cells slots Q ws pc lv (.int x :: st) := by
  subst hq
  exact fun H locs ls hP hD hS hl => lv_if_lt X.1 X.2.1 d ht (fun h => Kt (by rw [if_pos h] at hf; exact hf) H locs ls hP hD hS hl) (fun h => Kf (by rw [if_neg h] at hf; exact hf) H locs ls hP hD hS hl)
theorem v_icmp_eq (X : vX p s m args meth c cc nL ret own Ts D tys G A) {x y : Int32} {β : Type} {a b : Option β} {o : β} {off : Int} {tgt : Nat} (d : decode cc pc = .ok (.if_icmp .eq off, 3)) (ht : (pc : Int) + off = (tgt : Int)) (q : Nat) (hq : pc + 3 = q) (hf : (if x = y then a else b) = some o) (Kt : a = some o → vW p l e R s m args below meth c nL D A F cells slots Q ws tgt lv st) (Kf : b = some o → vW p l e R s m args below meth c nL D A F cells slots Q ws q lv st) : vW p l e R s m args below meth c nL D A F cells slots Q ws pc lv (.int y :: .int x :: st) := by
  subst hq
  exact fun H locs ls hP hD hS hl => lv_icmp_eq X.1 X.2.1 d ht (fun h => Kt (by rw [if_pos h] at hf; exact hf) H locs ls hP hD hS hl) (fun h => Kf (by rw [if_neg h] at hf; exact hf) H locs ls hP hD hS hl)
theorem v_if_eq (X : vX p s m args meth c cc nL ret own Ts D tys G A) {x : Int32} {β : Type} {a b : Option β} {o : β} {off : Int} {tgt : Nat} (d : decode cc pc = .ok (.ifCond .eq off, 3)) (ht : (pc : Int) + off = (tgt : Int)) (q : Nat) (hq : pc + 3 = q) (hf : (if x = 0 then a else b) = some o) (Kt : a = some o → vW p l e R s m args below meth c nL D A F cells slots Q ws tgt lv st) (Kf : b = some o → vW p l e R s m args below meth c nL D A F cells slots Q ws q lv st) : vW p l e R s m args below meth c nL D A F cells slots Q ws pc lv (.int x :: st) := by
  subst hq
  exact fun H locs ls hP hD hS hl => lv_if_eq X.1 X.2.1 d ht (fun h => Kt (by rw [if_pos h] at hf; exact hf) H locs ls hP hD hS hl) (fun h => Kf (by rw [if_neg h] at hf; exact hf) H locs ls hP hD hS hl)
theorem v_icmp_ne (X : vX p s m args meth c cc nL ret own Ts D tys G A) {x y : Int32} {β : Type} {a b : Option β} {o : β} {off : Int} {tgt : Nat} (d : decode cc pc = .ok (.if_icmp .ne off, 3)) (ht : (pc : Int) + off = (tgt : Int)) (q : Nat) (hq : pc + 3 = q) (hf : (if x = y then b else a) = some o) (Kt : a = some o → vW p l e R s m args below meth c nL D A F cells slots Q ws tgt lv st) (Kf : b = some o → vW p l e R s m args below meth c nL D A F cells slots Q ws q lv st) : vW p l e R s m args below meth c nL D A F cells slots Q ws pc lv (.int y :: .int x :: st) := by
  subst hq
  exact fun H locs ls hP hD hS hl => lv_icmp_ne X.1 X.2.1 d ht (fun h => Kt (by rw [if_neg h] at hf; exact hf) H locs ls hP hD hS hl) (fun h => Kf (by rw [if_pos h] at hf; exact hf) H locs ls hP hD hS hl)
theorem v_if_ne (X : vX p s m args meth c cc nL ret own Ts D tys G A) {x : Int32} {β : Type} {a b : Option β} {o : β} {off : Int} {tgt : Nat} (d : decode cc pc = .ok (.ifCond .ne off, 3)) (ht : (pc : Int) + off = (tgt : Int)) (q : Nat) (hq : pc + 3 = q) (hf : (if x = 0 then b else a) = some o) (Kt : a = some o → vW p l e R s m args below meth c nL D A F cells slots Q ws tgt lv st) (Kf : b = some o → vW p l e R s m args below meth c nL D A F cells slots Q ws q lv st) : vW p l e R s m args below meth c nL D A F cells slots Q ws pc lv (.int x :: st) := by
  subst hq
  exact fun H locs ls hP hD hS hl => lv_if_ne X.1 X.2.1 d ht (fun h => Kt (by rw [if_neg h] at hf; exact hf) H locs ls hP hD hS hl) (fun h => Kf (by rw [if_pos h] at hf; exact hf) H locs ls hP hD hS hl)
theorem vN_use (X : vX p s m args meth c cc nL ret own Ts D tys G A) {w : Cond} (h : w ∈ nestW) : w.before args s = true := va_Nw.use (nest_ok w h) (X.2.2.2.2.2.2.2.2.2.1.2.2.2 A s s.heap X.2.2.2.2.2.2.2.2.2.2 w h)
theorem v_get (X : vX p s m args meth c cc nL ret own Ts D tys G A)  {a : Nat} {ref C : String} {T : u_T} {N ci index : Nat} {fs : List Value} {v : Value} (d : decode cc pc = .ok (.getfield index, 3))  (hin : ∀ w ∈ u_ws C T N, w ∈ Ts) (q0 : Nat) (he : ws[q0]? = some (a, .inr (ci, fs))) (hc : vwCl[ci]? = some (C, T, N)) (k : Nat) (hk : k < N) (hlk : Cond.fieldLink own index ref (T k).2.1 (T k).2.2.1 ∈ Ts) (hsame : (T k).1 = ref) (hv : fs[k]? = some v) (q : Nat) (hq : pc + 3 = q) (K : vW p l e R s m args below meth c nL D A F cells slots Q ws q lv (v :: st)) : vW p l e R s m args below meth c nL D A F cells slots Q ws pc lv (.ref a :: st) := by
  subst hq
  exact fun H locs ls hP hD hS hl => va_get X.1 X.2.1 X.2.2.2.2.2.1 hin X.2.2.2.2.1 X.2.2.2.2.2.2.2.1 hP q0 (app_at he) hc k hk (X.2.2.2.2.2.1 _ hlk) (fun x h => by rw [← hsame]; exact h) hv d (K H locs ls hP hD hS hl)
theorem v_getN (X : vX p s m args meth c cc nL ret own Ts D tys G A)  {a : Nat} {ref C : String} {T : u_T} {N ci index : Nat} {fs : List Value} {host : String} {v : Value} (d : decode cc pc = .ok (.getfield index, 3))  (hin : ∀ w ∈ u_ws C T N, w ∈ Ts) (q0 : Nat) (he : ws[q0]? = some (a, .inr (ci, fs))) (hc : vwCl[ci]? = some (C, T, N)) (k : Nat) (hk : k < N) (hlk : Cond.fieldLinkNest own index ref (T k).2.1 (T k).2.2.1 host ∈ nestW) (hsame : (T k).1 = ref) (hv : fs[k]? = some v) (q : Nat) (hq : pc + 3 = q) (K : vW p l e R s m args below meth c nL D A F cells slots Q ws q lv (v :: st)) : vW p l e R s m args below meth c nL D A F cells slots Q ws pc lv (.ref a :: st) := by
  subst hq
  exact fun H locs ls hP hD hS hl => va_getN X.1 X.2.1 X.2.2.2.2.2.1 hin X.2.2.2.2.1 X.2.2.2.2.2.2.2.1 hP q0 (app_at he) hc k hk (vN_use X hlk) (fun x h => by rw [← hsame]; exact h) hv d (K H locs ls hP hD hS hl)
theorem v_put (X : vX p s m args meth c cc nL ret own Ts D tys G A)  {a : Nat} {ref C : String} {T : u_T} {N ci index : Nat} {fs : List Value} {ty : FieldType} {v : Value} {ws' : va_W} (d : decode cc pc = .ok (.putfield index, 3))  (hin : ∀ w ∈ u_ws C T N, w ∈ Ts) (q0 : Nat) (he : ws[q0]? = some (a, .inr (ci, fs))) (hc : vwCl[ci]? = some (C, T, N)) (k : Nat) (hk : k < N) (ty0 : Nat → FieldType) (hty : ∀ k, k < N → parseFieldDescriptor (T k).2.2.1 = some (ty0 k)) (hnm : ∀ a, a < N → ∀ b, b < N → a ≠ b → (T a).2.1 ≠ (T b).2.1) (hlk : Cond.fieldLink own index ref (T k).2.1 (T k).2.2.1 ∈ Ts) (hsame : (T k).1 = ref) (hfin : (T k).2.2.2 = false) (hd : parseFieldDescriptor (T k).2.2.1 = some ty) (hn : narrow ty v = v) (hfit : fits ty v = true) (hl9 : k < fs.length) (hw : ws.set q0 (a, .inr (ci, fs.set k v)) = ws') (q : Nat) (hq : pc + 3 = q) (K : vW p l e R s m args below meth c nL D A F cells slots Q ws' q lv st) : vW p l e R s m args below meth c nL D A F cells slots Q ws pc lv (v :: .ref a :: st) := by
  subst hq
  exact fun H locs ls hP hD hS hl => va_put X.1 X.2.1 X.2.2.2.2.2.1 hin ty0 hty hnm X.2.2.2.2.1 X.2.2.2.2.2.2.2.1 hP hD hS q0 (app_at he) hc k hk (X.2.2.2.2.2.1 _ hlk) (fun x h => by rw [← hsame]; exact h) hfin hd hn hfit hl9 d (fun H1 l1 hP hD hS => K H1 l1 ls (by rw [app_set he hw] at hP; exact hP) (by rw [app_set he hw] at hD; exact hD) hS hl)
theorem v_putN (X : vX p s m args meth c cc nL ret own Ts D tys G A)  {a : Nat} {ref C : String} {T : u_T} {N ci index : Nat} {fs : List Value} {host : String} {ty : FieldType} {v : Value} {ws' : va_W} (d : decode cc pc = .ok (.putfield index, 3))  (hin : ∀ w ∈ u_ws C T N, w ∈ Ts) (q0 : Nat) (he : ws[q0]? = some (a, .inr (ci, fs))) (hc : vwCl[ci]? = some (C, T, N)) (k : Nat) (hk : k < N) (ty0 : Nat → FieldType) (hty : ∀ k, k < N → parseFieldDescriptor (T k).2.2.1 = some (ty0 k)) (hnm : ∀ a, a < N → ∀ b, b < N → a ≠ b → (T a).2.1 ≠ (T b).2.1) (hlk : Cond.fieldLinkNest own index ref (T k).2.1 (T k).2.2.1 host ∈ nestW) (hsame : (T k).1 = ref) (hfin : (T k).2.2.2 = false) (hd : parseFieldDescriptor (T k).2.2.1 = some ty) (hn : narrow ty v = v) (hfit : fits ty v = true) (hl9 : k < fs.length) (hw : ws.set q0 (a, .inr (ci, fs.set k v)) = ws') (q : Nat) (hq : pc + 3 = q) (K : vW p l e R s m args below meth c nL D A F cells slots Q ws' q lv st) : vW p l e R s m args below meth c nL D A F cells slots Q ws pc lv (v :: .ref a :: st) := by
  subst hq
  exact fun H locs ls hP hD hS hl => va_putN X.1 X.2.1 X.2.2.2.2.2.1 hin ty0 hty hnm X.2.2.2.2.1 X.2.2.2.2.2.2.2.1 hP hD hS q0 (app_at he) hc k hk (vN_use X hlk) (fun x h => by rw [← hsame]; exact h) hfin hd hn hfit hl9 d (fun H1 l1 hP hD hS => K H1 l1 ls (by rw [app_set he hw] at hP; exact hP) (by rw [app_set he hw] at hD; exact hD) hS hl)
theorem v_putF (X : vX p s m args meth c cc nL ret own Ts D tys G A)  {a : Nat} {ref C : String} {T : u_T} {N ci index : Nat} {fs : List Value} {ty : FieldType} {v : Value} {ws' : va_W} (d : decode cc pc = .ok (.putfield index, 3))  (hin : ∀ w ∈ u_ws C T N, w ∈ Ts) (q0 : Nat) (he : ws[q0]? = some (a, .inr (ci, fs))) (hc : vwCl[ci]? = some (C, T, N)) (k : Nat) (hk : k < N) (ty0 : Nat → FieldType) (hty : ∀ k, k < N → parseFieldDescriptor (T k).2.2.1 = some (ty0 k)) (hnm : ∀ a, a < N → ∀ b, b < N → a ≠ b → (T a).2.1 ≠ (T b).2.1) (hlk : Cond.fieldLink own index ref (T k).2.1 (T k).2.2.1 ∈ Ts) (hsame : (T k).1 = ref) (hfin : (T k).2.2.2 = true) (hin2 : meth.name = "<init>") (hdecl : (T k).1 = own) (hd : parseFieldDescriptor (T k).2.2.1 = some ty) (hn : narrow ty v = v) (hfit : fits ty v = true) (hl9 : k < fs.length) (hw : ws.set q0 (a, .inr (ci, fs.set k v)) = ws') (q : Nat) (hq : pc + 3 = q) (K : vW p l e R s m args below meth c nL D A F cells slots Q ws' q lv st) : vW p l e R s m args below meth c nL D A F cells slots Q ws pc lv (v :: .ref a :: st) := by
  subst hq
  exact fun H locs ls hP hD hS hl => va_putF X.1 X.2.1 X.2.2.2.2.2.1 hin ty0 hty hnm X.2.2.2.2.1 X.2.2.2.2.2.2.2.1 hP hD hS q0 (app_at he) hc k hk (X.2.2.2.2.2.1 _ hlk) (fun x h => by rw [← hsame]; exact h) hfin hin2 hdecl hd hn hfit hl9 d (fun H1 l1 hP hD hS => K H1 l1 ls (by rw [app_set he hw] at hP; exact hP) (by rw [app_set he hw] at hD; exact hD) hS hl)
theorem v_iald (X : vX p s m args meth c cc nL ret own Ts D tys G A)  {a : Nat} {cA : ClassId} {n : Nat} {f : Nat → Int32} {i x : Int32} (d : decode cc pc = .ok (.iaload, 1))  (q0 t0 : Nat) (ha : ws[q0]? = some (a, .inl (cA, n, .inl f))) (ht : tys[t0]? = some (cA, .int)) (h : rd f n i = some x) (q : Nat) (hq : pc + 1 = q) (K : vW p l e R s m args below meth c nL D A F cells slots Q ws q lv (.int x :: st)) : vW p l e R s m args below meth c nL D A F cells slots Q ws pc lv (.int i :: .ref a :: st) := by
  subst hq
  exact fun H locs ls hP hD hS hl => by
    obtain ⟨h1, rfl⟩ := rd_in h
    exact va_iald X.1 X.2.1 X.2.2.2.2.2.2.2.1 hP q0 t0 (app_at ha) ht h1 d (K H locs ls hP hD hS hl)
theorem v_bald (X : vX p s m args meth c cc nL ret own Ts D tys G A)  {a : Nat} {cA : ClassId} {n : Nat} {f : Nat → Int32} {i x : Int32} (d : decode cc pc = .ok (.baload, 1))  (q0 t0 : Nat) (ha : ws[q0]? = some (a, .inl (cA, n, .inl f))) (ht : tys[t0]? = some (cA, .byte)) (h : rd f n i = some x) (q : Nat) (hq : pc + 1 = q) (K : vW p l e R s m args below meth c nL D A F cells slots Q ws q lv (.int x :: st)) : vW p l e R s m args below meth c nL D A F cells slots Q ws pc lv (.int i :: .ref a :: st) := by
  subst hq
  exact fun H locs ls hP hD hS hl => by
    obtain ⟨h1, rfl⟩ := rd_in h
    exact va_bald X.1 X.2.1 X.2.2.2.2.2.2.2.1 hP q0 t0 (app_at ha) ht h1 d (K H locs ls hP hD hS hl)
theorem v_zald (X : vX p s m args meth c cc nL ret own Ts D tys G A)  {a : Nat} {cA : ClassId} {n : Nat} {f : Nat → Int32} {i x : Int32} (d : decode cc pc = .ok (.baload, 1))  (q0 t0 : Nat) (ha : ws[q0]? = some (a, .inl (cA, n, .inl f))) (ht : tys[t0]? = some (cA, .boolean)) (h : rd f n i = some x) (q : Nat) (hq : pc + 1 = q) (K : vW p l e R s m args below meth c nL D A F cells slots Q ws q lv (.int x :: st)) : vW p l e R s m args below meth c nL D A F cells slots Q ws pc lv (.int i :: .ref a :: st) := by
  subst hq
  exact fun H locs ls hP hD hS hl => by
    obtain ⟨h1, rfl⟩ := rd_in h
    exact va_zald X.1 X.2.1 X.2.2.2.2.2.2.2.1 hP q0 t0 (app_at ha) ht h1 d (K H locs ls hP hD hS hl)
theorem v_iast (X : vX p s m args meth c cc nL ret own Ts D tys G A)  {a : Nat} {cA : ClassId} {n : Nat} {f g : Nat → Int32} {i x : Int32} {ws' : va_W} (d : decode cc pc = .ok (.iastore, 1))  (q0 t0 : Nat) (ha : ws[q0]? = some (a, .inl (cA, n, .inl f))) (ht : tys[t0]? = some (cA, .int)) (h : wr f n i x = some g) (hw : ws.set q0 (a, .inl (cA, n, .inl g)) = ws') (q : Nat) (hq : pc + 1 = q) (K : vW p l e R s m args below meth c nL D A F cells slots Q ws' q lv st) : vW p l e R s m args below meth c nL D A F cells slots Q ws pc lv (.int x :: .int i :: .ref a :: st) := by
  subst hq
  exact fun H locs ls hP hD hS hl => by
    obtain ⟨h1, rfl⟩ := wr_in h
    skip
    exact va_iast X.1 X.2.1 X.2.2.2.2.2.2.2.1 hP hD hS q0 t0 (app_at ha) ht h1 d (fun H1 l1 hP hD hS => K H1 l1 ls (by rw [app_set ha hw] at hP; exact hP) (by rw [app_set ha hw] at hD; exact hD) hS hl)
theorem v_bast (X : vX p s m args meth c cc nL ret own Ts D tys G A)  {a : Nat} {cA : ClassId} {n : Nat} {f g : Nat → Int32} {i x : Int32} {ws' : va_W} (d : decode cc pc = .ok (.bastore, 1))  (q0 t0 : Nat) (ha : ws[q0]? = some (a, .inl (cA, n, .inl f))) (ht : tys[t0]? = some (cA, .byte)) (h : wr f n i x.toInt8.toInt32 = some g) (hw : ws.set q0 (a, .inl (cA, n, .inl g)) = ws') (q : Nat) (hq : pc + 1 = q) (K : vW p l e R s m args below meth c nL D A F cells slots Q ws' q lv st) : vW p l e R s m args below meth c nL D A F cells slots Q ws pc lv (.int x :: .int i :: .ref a :: st) := by
  subst hq
  exact fun H locs ls hP hD hS hl => by
    obtain ⟨h1, rfl⟩ := wr_in h
    rw [← vp_nar_byte] at hw
    exact va_bast X.1 X.2.1 X.2.2.2.2.2.2.2.1 hP hD hS q0 t0 (app_at ha) ht h1 d (fun H1 l1 hP hD hS => K H1 l1 ls (by rw [app_set ha hw] at hP; exact hP) (by rw [app_set ha hw] at hD; exact hD) hS hl)
theorem v_zast (X : vX p s m args meth c cc nL ret own Ts D tys G A)  {a : Nat} {cA : ClassId} {n : Nat} {f g : Nat → Int32} {i x : Int32} {ws' : va_W} (d : decode cc pc = .ok (.bastore, 1))  (q0 t0 : Nat) (ha : ws[q0]? = some (a, .inl (cA, n, .inl f))) (ht : tys[t0]? = some (cA, .boolean)) (h : wr f n i (vp_nar .boolean x) = some g) (hw : ws.set q0 (a, .inl (cA, n, .inl g)) = ws') (q : Nat) (hq : pc + 1 = q) (K : vW p l e R s m args below meth c nL D A F cells slots Q ws' q lv st) : vW p l e R s m args below meth c nL D A F cells slots Q ws pc lv (.int x :: .int i :: .ref a :: st) := by
  subst hq
  exact fun H locs ls hP hD hS hl => by
    obtain ⟨h1, rfl⟩ := wr_in h
    skip
    exact va_zast X.1 X.2.1 X.2.2.2.2.2.2.2.1 hP hD hS q0 t0 (app_at ha) ht h1 d (fun H1 l1 hP hD hS => K H1 l1 ls (by rw [app_set ha hw] at hP; exact hP) (by rw [app_set ha hw] at hD; exact hD) hS hl)
theorem v_alen (X : vX p s m args meth c cc nL ret own Ts D tys G A)  {a : Nat} {cA : ClassId} {x : vp_A} {ty : FieldType} {v : Int32} (d : decode cc pc = .ok (.arraylength, 1))  (q0 t0 : Nat) (ha : ws[q0]? = some (a, .inl (cA, x))) (ht : tys[t0]? = some (cA, ty)) (hv : Int32.ofNat x.1 = v) (q : Nat) (hq : pc + 1 = q) (K : vW p l e R s m args below meth c nL D A F cells slots Q ws q lv (.int v :: st)) : vW p l e R s m args below meth c nL D A F cells slots Q ws pc lv (.ref a :: st) := by
  subst hq
  exact fun H locs ls hP hD hS hl => va_alen X.1 X.2.1 X.2.2.2.2.2.2.2.1 hP q0 t0 (app_at ha) ht hv d (K H locs ls hP hD hS hl)
end VL
