def wpick (ws : va_W) (is : List Nat) : va_W := is.filterMap (fun i => ws[i]?)
def ushr (x y : Int32) : Int32 := (x.toUInt32 >>> (y.toUInt32 &&& Int32.toUInt32 31)).toInt32
abbrev tyA (c9 : Nat → ClassId) : List (ClassId × FieldType) := [(c9 0, .int), (c9 1, .int), (c9 2, .byte), (c9 3, .object "TicketGate$State"), (c9 4, .array .int)]
theorem in_r {big : List Cond} (ws : List Cond) (ps : List Nat) (hp : ws = ps.filterMap (fun i => big[i]?)) : ∀ w ∈ ws, w ∈ big := by
  intro w hw
  rw [hp] at hw
  obtain ⟨i, -, hi⟩ := List.mem_filterMap.mp hw
  exact List.mem_of_getElem? hi
/-! Contracts whose world is a list that a function of its leaves says: mI an int (or boolean) comes back, mV nothing. -/
def zr (x : Int32) : Option Int32 := if x = 0 then some 0 else if x = 1 then some 1 else none
theorem zr_in {x y : Int32} (h : zr x = some y) : x = y ∧ narrow .boolean (.int y) = .int y := by
  unfold zr at h
  split at h
  · cases h
    rename_i h1
    exact ⟨h1, rfl⟩
  · split at h
    · cases h
      rename_i h1
      exact ⟨h1, rfl⟩
    · cases h
def pW (G : (Nat → Prop) → State → Heap → Prop) (D : va_G) (tys : List (ClassId × FieldType)) (sz : Nat) (WS : va_W) : State → Prop := fun U => U.heap.size = sz ∧ va_P D vwCl WS U.heap ∧ va_K D vwCl tys U ∧ va_D (fun _ => True) WS ∧ G (va_A WS sz) U U.heap
def eI (D : va_G) (tys : List (ClassId × FieldType)) (A : Nat → Prop) (r : Int32) (WS : va_W) : Array Value → State → Outcome → State → Prop := va_Qi (fun (r' : Int32) (_ : Unit) => r' = r) (fun _ t => va_P D vwCl WS t.heap ∧ va_K D vwCl tys t ∧ va_D A WS) A
def eV (D : va_G) (tys : List (ClassId × FieldType)) (A : Nat → Prop) (WS : va_W) : Array Value → State → Outcome → State → Prop := va_Qv (fun (_ : Unit) => True) (fun _ t => va_P D vwCl WS t.heap ∧ va_K D vwCl tys t ∧ va_D A WS) A
def mI (l : Launch) (y : MethodName) (ws : List Cond) (rm : Room) (G : (Nat → Prop) → State → Heap → Prop) (D : va_G) (tys : List (ClassId × FieldType)) (av : List Value) (WS F : va_W) (mc ms : Nat) (r : Int32) (WS' : va_W) : Prop := ∀ sz : Nat, Met l y ws rm (va_Pc av (pW G D tys sz (WS ++ F))) (eI D tys (va_A (WS ++ F) sz) r (WS' ++ F)) mc ms (va_A (WS ++ F) sz)
def mV (l : Launch) (y : MethodName) (ws : List Cond) (rm : Room) (G : (Nat → Prop) → State → Heap → Prop) (D : va_G) (tys : List (ClassId × FieldType)) (av : List Value) (WS F : va_W) (mc ms : Nat) (WS' : va_W) : Prop := ∀ sz : Nat, Met l y ws rm (va_Pc av (pW G D tys sz (WS ++ F))) (eV D tys (va_A (WS ++ F) sz) (WS' ++ F)) mc ms (va_A (WS ++ F) sz)
theorem pW_blind {G : (Nat → Prop) → State → Heap → Prop} (hG : vG G) {D : va_G} {tys : List (ClassId × FieldType)} {sz : Nat} {WS : va_W} {av : List Value} : FrameBlind (va_Pc av (pW G D tys sz WS)) := fun a U g mk q => by
  obtain ⟨q0, q1, qP, qK, qD, qG⟩ := q
  exact ⟨q0, q1, qP, va_K.moved (u := U) (U := U.calling g mk a) (Vm.Alike.refl U.vm) qK, qD, hG.2.2.1 _ U (U.calling g mk a) _ (State.WarmedH.refl U) qG⟩
theorem va_P_mem {D : va_G} {cl : List vw_C} {ws : va_W} {H : Heap} (h : va_P D cl ws H) {q : Nat × va_E} (hq : q ∈ ws) : va_at D cl q H := by
  obtain ⟨k, hk⟩ := List.getElem?_of_mem hq
  exact h k q hk
theorem va_P_of {D : va_G} {cl : List vw_C} {ws : va_W} {H : Heap} (h : ∀ q ∈ ws, va_at D cl q H) : va_P D cl ws H := fun _ q hk => h q (List.mem_of_getElem? hk)
theorem va_P_left {D : va_G} {cl : List vw_C} {ws F : va_W} {H : Heap} (h : va_P D cl (ws ++ F) H) : va_P D cl ws H := va_P_of fun _ hq => va_P_mem h (List.mem_append_left _ hq)
theorem va_P_right {D : va_G} {cl : List vw_C} {ws F : va_W} {H : Heap} (h : va_P D cl (ws ++ F) H) : va_P D cl F H := va_P_of fun _ hq => va_P_mem h (List.mem_append_right _ hq)
theorem va_D_left {A : Nat → Prop} {ws F : va_W} (h : va_D A (ws ++ F)) : va_D A ws := ⟨fun i j p q hi hj e => h.1 i j p q (app_at hi) (app_at hj) e, fun k q hk => h.2 k q (app_at hk)⟩
theorem app_at2 {ws F : va_W} {k : Nat} {q : Nat × va_E} (h : F[k]? = some q) : (ws ++ F)[ws.length + k]? = some q := by
  rw [List.getElem?_append_right (Nat.le_add_right _ _), Nat.add_sub_cancel_left]
  exact h
theorem va_D_right {A : Nat → Prop} {ws F : va_W} (h : va_D A (ws ++ F)) : va_D A F := ⟨fun i j p q hi hj e => by
  have := h.1 _ _ p q (app_at2 hi) (app_at2 hj) e
  omega, fun k q hk => h.2 _ q (app_at2 hk)⟩
theorem va_D_apart {A : Nat → Prop} {ws F : va_W} (h : va_D A (ws ++ F)) {i j : Nat} {p q : Nat × va_E} (hi : ws[i]? = some p) (hj : F[j]? = some q) : p.1 ≠ q.1 := by
  intro e
  have h1 := h.1 _ _ p q (app_at hi) (app_at2 hj) e
  have h2 := (List.getElem?_eq_some_iff.mp hi).1
  omega
/-- what is left of a world beside what a callee got, when it comes back -/
theorem vj {A0 : Nat → Prop} {D : va_G} {cl : List vw_C} {ws F wc wr w1 ws' : va_W} {H H1 : Heap} (hP : va_P D cl (ws ++ F) H) (hD : va_D A0 (ws ++ F)) (isC isR is2 : List Nat) (hC : isC.map (fun i => ws[i]?) = wc.map some) (hR : isR.map (fun i => ws[i]?) = wr.map some) (hn : va_nd isR = true) (hdis : ∀ i ∈ isR, i ∉ isC)
    (hn2 : va_nd is2 = true) (h2 : is2.map (fun i => (wr ++ w1)[i]?) = ws'.map some)
    (hk : ∀ q : Nat, q < H.size → ¬ va_A wc H.size q → H1[q]? = H[q]?) (hF : ∀ q, va_A wc H.size q → A0 q) (hP1 : va_P D cl w1 H1) (hD1 : va_D (va_A wc H.size) w1) : va_P D cl (ws' ++ F) H1 ∧ va_D A0 (ws' ++ F) := by
  obtain ⟨g1, g2⟩ := va_join (va_P_left hP) (va_D_left hD) isC isR hC hR hn hdis hk hF hP1 hD1
  have g2' := g2.sub is2 hn2 h2
  have back : ∀ {q : Nat × va_E}, q ∈ ws' → q ∈ wr ++ w1 := by
    intro q hq
    obtain ⟨k, hk2⟩ := List.getElem?_of_mem hq
    have h3 : (is2.map (fun i => (wr ++ w1)[i]?))[k]? = some (some q) := by rw [h2, List.getElem?_map, hk2]; rfl
    rw [List.getElem?_map] at h3
    cases hi : is2[k]? with
    | none => rw [hi] at h3; cases h3
    | some i => rw [hi] at h3; exact List.mem_of_getElem? (Option.some.inj h3)
  have inC : ∀ {q : Nat × va_E}, q ∈ wc → ∃ i : Nat, ws[i]? = some q := by
    intro q hq
    obtain ⟨k, hk2⟩ := List.getElem?_of_mem hq
    have h3 : (isC.map (fun i => ws[i]?))[k]? = some (some q) := by rw [hC, List.getElem?_map, hk2]; rfl
    rw [List.getElem?_map] at h3
    cases hi : isC[k]? with
    | none => rw [hi] at h3; cases h3
    | some i => rw [hi] at h3; exact ⟨i, Option.some.inj h3⟩
  have outF : ∀ (j : Nat) (q : Nat × va_E), F[j]? = some q → q.1 < H.size ∧ ¬ va_A wc H.size q.1 := by
    intro j q hj
    have hl := (va_P_right hP j q hj).lt
    refine ⟨hl, fun h => ?_⟩
    rcases h with ⟨k2, e2, h⟩ | h
    · obtain ⟨i, hi⟩ := inC (List.mem_of_getElem? h)
      exact va_D_apart hD hi hj rfl
    · omega
  refine ⟨va_P.app (va_P_of fun q hq => va_P_mem g1 (back hq)) (fun j q hj => (va_P_right hP j q hj).kept (hk q.1 (outF j q hj).1 (outF j q hj).2)), va_D.app g2' (va_D_right hD) (fun i j x y hx hy hxy => ?_)⟩
  rcases List.mem_append.mp (back (List.mem_of_getElem? hx)) with h | h
  · obtain ⟨k, hk2⟩ := List.getElem?_of_mem h
    have h3 : (isR.map (fun i => ws[i]?))[k]? = some (some x) := by rw [hR, List.getElem?_map, hk2]; rfl
    rw [List.getElem?_map] at h3
    cases hi : isR[k]? with
    | none => rw [hi] at h3; cases h3
    | some i2 => rw [hi] at h3; exact va_D_apart hD (Option.some.inj h3) hy hxy
  · obtain ⟨k, hk2⟩ := List.getElem?_of_mem h
    exact (outF j y hy).2 (by rw [← hxy]; exact hD1.2 k x hk2)
section VM
variable {p : Program} {l : Launch} {e : Env} {R : Room} {s : State} {m : MethodId} {args : Array Value} {below : List Frame} {meth : Method} {c : Code} {cc : ByteArray} {nL : Nat} {ret : Option FieldType} {own : String} {Ts : List Cond} {D : va_G} {tys : List (ClassId × FieldType)} {G : (Nat → Prop) → State → Heap → Prop} {A : Nat → Prop} {F : va_W} {cells slots : Nat} {Q : State → Prop} {ws : va_W} {pc : Nat} {lv : List (Nat × Value)} {st : List Value}
theorem mI_of (hG : vG G) {y : MethodName} {wsy ws' : List Cond} {maxL : Nat} {ty : FieldType} {av : List Value} {WS WS' : va_W} {mc ms : Nat} {r : Int32} (hy : plainName y.cls = true) (hw : wsy = Cond.code y cc maxL (some ty) :: ws') (hlen : (lg_sl av).length ≤ maxL)
    (h : ∀ (p : Program) (e : Env) (s : State) (m : MethodId) (args : Array Value) (below : List Frame) (meth : Method) (c : Code) (A : Nat → Prop), vX p s m args meth c cc maxL (some ty) y.cls wsy D tys G A → vW p l e R s m args below meth c maxL D A F 0 0 (MQ below (eI D tys A r (WS' ++ F)) args s mc ms A) WS 0 (lv_args 0 av) []) : mI l y wsy R G D tys av WS F mc ms r WS' := by
  intro sz
  refine Met.ofW (cc := cc) (maxL := maxL) (ret := some ty) hy hw ?_
  intro p e s m args below meth c s₁ B hml hv
  obtain ⟨rfl, hsz, hP, hK, hD0, hGv⟩ := hv
  have hts := atoms_spec (ws := wsy) B.pre
  have hown : s.vm.findClass y.cls = some m.cls := findClass_of_methodNamed B.named
  subst hsz
  have hD := hD0.self (sz := s.heap.size)
  rw [lg_entry_eq]
  exact h p e s m _ below meth c _ ⟨B.exec, B.bytes, B.returns, hml, hown, hts, B.notSynchronized, hK, fun q h => Or.inr h, hG, hGv⟩ s.heap [] _ hP hD va_S.rf (lv_entry av hlen)
theorem mV_of (hG : vG G) {y : MethodName} {wsy ws' : List Cond} {maxL : Nat} {av : List Value} {WS WS' : va_W} {mc ms : Nat} (hy : plainName y.cls = true) (hw : wsy = Cond.code y cc maxL none :: ws') (hlen : (lg_sl av).length ≤ maxL)
    (h : ∀ (p : Program) (e : Env) (s : State) (m : MethodId) (args : Array Value) (below : List Frame) (meth : Method) (c : Code) (A : Nat → Prop), meth.name = y.name → vX p s m args meth c cc maxL none y.cls wsy D tys G A → vW p l e R s m args below meth c maxL D A F 0 0 (MQ below (eV D tys A (WS' ++ F)) args s mc ms A) WS 0 (lv_args 0 av) []) : mV l y wsy R G D tys av WS F mc ms WS' := by
  intro sz
  refine Met.ofW (cc := cc) (maxL := maxL) (ret := none) hy hw ?_
  intro p e s m args below meth c s₁ B hml hv
  obtain ⟨rfl, hsz, hP, hK, hD0, hGv⟩ := hv
  have hts := atoms_spec (ws := wsy) B.pre
  have hown : s.vm.findClass y.cls = some m.cls := findClass_of_methodNamed B.named
  have hnm := (name_of_methodNamed B.named B.method).1
  subst hsz
  have hD := hD0.self (sz := s.heap.size)
  rw [lg_entry_eq]
  exact h p e s m _ below meth c _ hnm ⟨B.exec, B.bytes, B.returns, hml, hown, hts, B.notSynchronized, hK, fun q h => Or.inr h, hG, hGv⟩ s.heap [] _ hP hD va_S.rf (lv_entry av hlen)
theorem v_iret {mc ms : Nat} {r : Int32} (X : vX p s m args meth c cc nL (some .int) own Ts D tys G A) (hc : cells ≤ mc) (hs : slots ≤ ms) (d : decode cc pc = .ok (.ireturn, 1)) : vW p l e R s m args below meth c nL D A F cells slots (MQ below (eI D tys A r (ws ++ F)) args s mc ms A) ws pc lv [.int r] :=
  fun H locs ls hP hD hS hl => W.widen hc hs (W.iret (v := r) X.1 X.2.1 X.2.2.1 (fun t ht hW => ⟨⟨r, (), rfl, rfl, by rw [ht]; exact hP, va_K.moved hW.alike X.2.2.2.2.2.2.2.1, hD⟩, hS.F ht⟩) hS.2.2 d X.2.2.2.2.2.2.1)
theorem v_zret {mc ms : Nat} {r : Int32} {ty : FieldType} (X : vX p s m args meth c cc nL (some ty) own Ts D tys G A) (hc : cells ≤ mc) (hs : slots ≤ ms) (hz : narrow ty (.int r) = .int r) (d : decode cc pc = .ok (.ireturn, 1)) : vW p l e R s m args below meth c nL D A F cells slots (MQ below (eI D tys A r (ws ++ F)) args s mc ms A) ws pc lv [.int r] :=
  fun H locs ls hP hD hS hl => W.widen hc hs (W.zret (v := r) X.1 X.2.1 X.2.2.1 hz (fun t ht hW => ⟨⟨r, (), rfl, rfl, by rw [ht]; exact hP, va_K.moved hW.alike X.2.2.2.2.2.2.2.1, hD⟩, hS.F ht⟩) hS.2.2 d X.2.2.2.2.2.2.1)
theorem v_zretq {mc ms : Nat} {r r0 : Int32} (hf : zr r0 = some r) (X : vX p s m args meth c cc nL (some .boolean) own Ts D tys G A) (hc : cells ≤ mc) (hs : slots ≤ ms) (d : decode cc pc = .ok (.ireturn, 1)) : vW p l e R s m args below meth c nL D A F cells slots (MQ below (eI D tys A r (ws ++ F)) args s mc ms A) ws pc lv [.int r0] := by
  obtain ⟨rfl, h⟩ := zr_in hf
  exact v_zret X hc hs h d
theorem v_vret {mc ms : Nat} (X : vX p s m args meth c cc nL none own Ts D tys G A) (hc : cells ≤ mc) (hs : slots ≤ ms) (d : decode cc pc = .ok (.return_, 1)) : vW p l e R s m args below meth c nL D A F cells slots (MQ below (eV D tys A (ws ++ F)) args s mc ms A) ws pc lv [] :=
  fun H locs ls hP hD hS hl => W.widen hc hs (W.vret X.1 X.2.1 X.2.2.1 (fun t ht hW => ⟨⟨(), rfl, trivial, by rw [ht]; exact hP, va_K.moved hW.alike X.2.2.2.2.2.2.2.1, hD⟩, hS.F ht⟩) hS.2.2 d X.2.2.2.2.2.2.1)
theorem v_pc {WC : va_W} {av : List Value} {H : Heap} {locs : List Loc} (hX : (∀ q : Nat, s.heap.size ≤ q → A q) ∧ vG G ∧ G A s s.heap) (hP : va_P D vwCl (ws ++ F) H) (hD : va_D A (ws ++ F)) (hS : va_S A s.heap H locs) (hK : va_K D vwCl tys s) (isC : List Nat) (hC : isC.map (fun i => ws[i]?) = WC.map some) (hnC : va_nd isC = true) : ∀ U : State, U.heap = H → s.WarmedH U.vm → va_Pc av (pW G D tys H.size (WC ++ [])) av.toArray U := by
  intro U hU hW
  rw [List.append_nil]
  refine ⟨rfl, by rw [hU], ?_, va_K.moved hW.alike hK, ((va_D_left hD).sub isC hnC hC).weaken (fun _ _ _ _ => trivial), ?_⟩
  · rw [hU]
    intro k q hq
    have h3 : (isC.map (fun i => ws[i]?))[k]? = some (some q) := by rw [hC, List.getElem?_map, hq]; rfl
    rw [List.getElem?_map] at h3
    cases hi : isC[k]? with
    | none => rw [hi] at h3; cases h3
    | some i => rw [hi] at h3; exact va_P_left hP i q (Option.some.inj h3)
  · rw [hU]
    exact hX.2.1.2.2.1 _ s U H hW (hX.2.1.1 _ _ s H (hX.2.1.2.1 _ s _ _ hX.2.2 hS.2.1) (va_free (va_D_left hD) hS hX.1 isC hC))
theorem v_callVi (X : vX p s m args meth c cc nL ret own Ts D tys G A) {y : MethodName} {wsy wsy' : List Cond} {rmy : Room} {bytes : ByteArray} {maxL index : Nat} {mc ms : Nat} {WC WC' ws' : va_W} {As rest : List Value} {C : String} {ci : Nat} {T : u_T} {N b : Nat} {fs : List Value} {r : Int32} {ty : FieldType} (hM : mI l y wsy rmy G D tys (.ref b :: As) WC [] mc ms r WC') (n : Nat) (hT : GoodIn Ts (wsV own index C y wsy)) (hw : wsy = Cond.code y bytes maxL (some ty) :: wsy') (hrc : rmy.cells = mc) (hrs : rmy.slots = ms) (hd : y.cls = C ∧ y.cls ≠ "java/lang/invoke/MethodHandle" ∧ y.cls ≠ "java/lang/invoke/VarHandle" ∧ (parseMethodDescriptor y.desc).map (fun d => d.parameters.length) = some n) (hR : rmy.frames + 1 ≤ R.frames ∧ 8 + (maxL + 11) + rmy.locals ≤ R.locals)
    (q0 : Nat) (he : ws[q0]? = some (b, .inr (ci, fs))) (hci : vwCl[ci]? = some (C, T, N)) (hn : As.length = n) (hst : st = As.reverse ++ .ref b :: rest) (hW : (rest.map fun v => v.category).sum ≤ 8) (hf : cells + mc ≤ R.cells ∧ slots + ms ≤ R.slots) (isC isR is2 : List Nat) (hC : isC.map (fun i => ws[i]?) = WC.map some) (hR2 : isR.map (fun i => ws[i]?) = (wpick ws isR).map some) (h2 : is2.map (fun i => (wpick ws isR ++ WC')[i]?) = ws'.map some) (hnd : (va_nd isC && va_nd isR && va_nd is2 && isR.all (fun i => !isC.contains i)) = true)
    (d : decode cc pc = .ok (.invokevirtual index, 3)) (q : Nat) (hq : pc + 3 = q) (K : vW p l e R s m args below meth c nL D A F (cells + mc) (slots + ms) Q ws' q lv (.int r :: rest)) : vW p l e R s m args below meth c nL D A F cells slots Q ws pc lv st := by
  subst hq
  subst hst
  intro H locs ls hP hD hS hl
  simp only [Bool.and_eq_true] at hnd
  obtain ⟨⟨⟨hnC, hnR⟩, hn2⟩, hdis0⟩ := hnd
  have hdis : ∀ i ∈ isR, i ∉ isC := fun i hi hc => by
    have := List.all_eq_true.mp hdis0 i hi
    simp [hc] at this
  have hFc : ∀ q, va_A WC H.size q → A q := va_free (va_D_left hD) hS X.2.2.2.2.2.2.2.2.1 isC hC
  have hA9 : WC ++ [] = WC := List.append_nil WC
  refine va_calli (va_runV ⟨X.1, X.2.1, X.2.2.2.1, X.2.2.2.2.1, X.2.2.2.2.2.1⟩ (hM H.size) (cwV n X.2.2.2.2.2.1 hT hw hrc hrs hd hR) ⟨pW_blind X.2.2.2.2.2.2.2.2.2.1, va_recv X.2.2.2.2.2.2.2.1 (va_P_left hP) hci he, v_pc X.2.2.2.2.2.2.2.2 hP hD hS X.2.2.2.2.2.2.2.1 isC hC hnC⟩ rfl hn hl.1 rfl (lv_room hW) d hf) hS (fun q _ h => hFc q (by rw [hA9] at h; exact h)) (fun q h => hFc q (by rw [hA9] at h; exact h)) (fun r' u t H1 locs1 ht hvm hpost hB hz1 hk1 hS => ?_)
  subst hpost
  obtain ⟨hP1, hK1, hD1⟩ := hB
  rw [ht] at hP1
  simp only [List.append_nil] at hP1 hD1 hk1
  obtain ⟨hP, hD⟩ := vj hP hD isC isR is2 hC hR2 hnR hdis hn2 h2 hk1 hFc hP1 hD1
  exact K H1 locs1 ls hP hD hS hl
theorem v_callVv (X : vX p s m args meth c cc nL ret own Ts D tys G A) {y : MethodName} {wsy wsy' : List Cond} {rmy : Room} {bytes : ByteArray} {maxL index : Nat} {mc ms : Nat} {WC WC' ws' : va_W} {As rest : List Value} {C : String} {ci : Nat} {T : u_T} {N b : Nat} {fs : List Value} (hM : mV l y wsy rmy G D tys (.ref b :: As) WC [] mc ms WC') (n : Nat) (hT : GoodIn Ts (wsV own index C y wsy)) (hw : wsy = Cond.code y bytes maxL none :: wsy') (hrc : rmy.cells = mc) (hrs : rmy.slots = ms) (hd : y.cls = C ∧ y.cls ≠ "java/lang/invoke/MethodHandle" ∧ y.cls ≠ "java/lang/invoke/VarHandle" ∧ (parseMethodDescriptor y.desc).map (fun d => d.parameters.length) = some n) (hR : rmy.frames + 1 ≤ R.frames ∧ 8 + (maxL + 11) + rmy.locals ≤ R.locals)
    (q0 : Nat) (he : ws[q0]? = some (b, .inr (ci, fs))) (hci : vwCl[ci]? = some (C, T, N)) (hn : As.length = n) (hst : st = As.reverse ++ .ref b :: rest) (hW : (rest.map fun v => v.category).sum ≤ 8) (hf : cells + mc ≤ R.cells ∧ slots + ms ≤ R.slots) (isC isR is2 : List Nat) (hC : isC.map (fun i => ws[i]?) = WC.map some) (hR2 : isR.map (fun i => ws[i]?) = (wpick ws isR).map some) (h2 : is2.map (fun i => (wpick ws isR ++ WC')[i]?) = ws'.map some) (hnd : (va_nd isC && va_nd isR && va_nd is2 && isR.all (fun i => !isC.contains i)) = true)
    (d : decode cc pc = .ok (.invokevirtual index, 3)) (q : Nat) (hq : pc + 3 = q) (K : vW p l e R s m args below meth c nL D A F (cells + mc) (slots + ms) Q ws' q lv rest) : vW p l e R s m args below meth c nL D A F cells slots Q ws pc lv st := by
  subst hq
  subst hst
  intro H locs ls hP hD hS hl
  simp only [Bool.and_eq_true] at hnd
  obtain ⟨⟨⟨hnC, hnR⟩, hn2⟩, hdis0⟩ := hnd
  have hdis : ∀ i ∈ isR, i ∉ isC := fun i hi hc => by
    have := List.all_eq_true.mp hdis0 i hi
    simp [hc] at this
  have hFc : ∀ q, va_A WC H.size q → A q := va_free (va_D_left hD) hS X.2.2.2.2.2.2.2.2.1 isC hC
  have hA9 : WC ++ [] = WC := List.append_nil WC
  refine va_callv (va_runV ⟨X.1, X.2.1, X.2.2.2.1, X.2.2.2.2.1, X.2.2.2.2.2.1⟩ (hM H.size) (cwV n X.2.2.2.2.2.1 hT hw hrc hrs hd hR) ⟨pW_blind X.2.2.2.2.2.2.2.2.2.1, va_recv X.2.2.2.2.2.2.2.1 (va_P_left hP) hci he, v_pc X.2.2.2.2.2.2.2.2 hP hD hS X.2.2.2.2.2.2.2.1 isC hC hnC⟩ rfl hn hl.1 rfl (lv_room hW) d hf) hS (fun q _ h => hFc q (by rw [hA9] at h; exact h)) (fun q h => hFc q (by rw [hA9] at h; exact h)) (fun u t H1 locs1 ht hvm hpost hB hz1 hk1 hS => ?_)
  obtain ⟨hP1, hK1, hD1⟩ := hB
  rw [ht] at hP1
  simp only [List.append_nil] at hP1 hD1 hk1
  obtain ⟨hP, hD⟩ := vj hP hD isC isR is2 hC hR2 hnR hdis hn2 h2 hk1 hFc hP1 hD1
  exact K H1 locs1 ls hP hD hS hl
theorem v_callUi (X : vX p s m args meth c cc nL ret own Ts D tys G A) {y : MethodName} {wsy wsy' : List Cond} {rmy : Room} {bytes : ByteArray} {maxL index : Nat} {mc ms : Nat} {WC WC' ws' : va_W} {As rest : List Value} {C owner : String} {x : MethodName} {ci : Nat} {T : u_T} {N b : Nat} {fs : List Value} {r : Int32} {ty : FieldType} (hM : mI l y wsy rmy G D tys (.ref b :: As) WC [] mc ms r WC') (n : Nat) (hT : GoodIn Ts (va_wsU own index C owner x y wsy)) (hw : wsy = Cond.code y bytes maxL (some ty) :: wsy') (hrc : rmy.cells = mc) (hrs : rmy.slots = ms) (hyx : y = ⟨owner, x.name, x.desc⟩) (hd : owner ≠ "java/lang/invoke/MethodHandle" ∧ owner ≠ "java/lang/invoke/VarHandle" ∧ (parseMethodDescriptor x.desc).map (fun d => d.parameters.length) = some n) (hR : rmy.frames + 1 ≤ R.frames ∧ 8 + (maxL + 11) + rmy.locals ≤ R.locals)
    (q0 : Nat) (he : ws[q0]? = some (b, .inr (ci, fs))) (hci : vwCl[ci]? = some (C, T, N)) (hn : As.length = n) (hst : st = As.reverse ++ .ref b :: rest) (hW : (rest.map fun v => v.category).sum ≤ 8) (hf : cells + mc ≤ R.cells ∧ slots + ms ≤ R.slots) (isC isR is2 : List Nat) (hC : isC.map (fun i => ws[i]?) = WC.map some) (hR2 : isR.map (fun i => ws[i]?) = (wpick ws isR).map some) (h2 : is2.map (fun i => (wpick ws isR ++ WC')[i]?) = ws'.map some) (hnd : (va_nd isC && va_nd isR && va_nd is2 && isR.all (fun i => !isC.contains i)) = true)
    (d : decode cc pc = .ok (.invokevirtual index, 3)) (q : Nat) (hq : pc + 3 = q) (K : vW p l e R s m args below meth c nL D A F (cells + mc) (slots + ms) Q ws' q lv (.int r :: rest)) : vW p l e R s m args below meth c nL D A F cells slots Q ws pc lv st := by
  subst hq
  subst hst
  intro H locs ls hP hD hS hl
  simp only [Bool.and_eq_true] at hnd
  obtain ⟨⟨⟨hnC, hnR⟩, hn2⟩, hdis0⟩ := hnd
  have hdis : ∀ i ∈ isR, i ∉ isC := fun i hi hc => by
    have := List.all_eq_true.mp hdis0 i hi
    simp [hc] at this
  have hFc : ∀ q, va_A WC H.size q → A q := va_free (va_D_left hD) hS X.2.2.2.2.2.2.2.2.1 isC hC
  have hA9 : WC ++ [] = WC := List.append_nil WC
  refine va_calli (va_runU ⟨X.1, X.2.1, X.2.2.2.1, X.2.2.2.2.1, X.2.2.2.2.2.1⟩ (hM H.size) (va_cwU n X.2.2.2.2.2.1 hT hw hrc hrs hyx hd hR) ⟨pW_blind X.2.2.2.2.2.2.2.2.2.1, va_recv X.2.2.2.2.2.2.2.1 (va_P_left hP) hci he, v_pc X.2.2.2.2.2.2.2.2 hP hD hS X.2.2.2.2.2.2.2.1 isC hC hnC⟩ rfl hn hl.1 rfl (lv_room hW) d hf) hS (fun q _ h => hFc q (by rw [hA9] at h; exact h)) (fun q h => hFc q (by rw [hA9] at h; exact h)) (fun r' u t H1 locs1 ht hvm hpost hB hz1 hk1 hS => ?_)
  subst hpost
  obtain ⟨hP1, hK1, hD1⟩ := hB
  rw [ht] at hP1
  simp only [List.append_nil] at hP1 hD1 hk1
  obtain ⟨hP, hD⟩ := vj hP hD isC isR is2 hC hR2 hnR hdis hn2 h2 hk1 hFc hP1 hD1
  exact K H1 locs1 ls hP hD hS hl
theorem v_callUv (X : vX p s m args meth c cc nL ret own Ts D tys G A) {y : MethodName} {wsy wsy' : List Cond} {rmy : Room} {bytes : ByteArray} {maxL index : Nat} {mc ms : Nat} {WC WC' ws' : va_W} {As rest : List Value} {C owner : String} {x : MethodName} {ci : Nat} {T : u_T} {N b : Nat} {fs : List Value} (hM : mV l y wsy rmy G D tys (.ref b :: As) WC [] mc ms WC') (n : Nat) (hT : GoodIn Ts (va_wsU own index C owner x y wsy)) (hw : wsy = Cond.code y bytes maxL none :: wsy') (hrc : rmy.cells = mc) (hrs : rmy.slots = ms) (hyx : y = ⟨owner, x.name, x.desc⟩) (hd : owner ≠ "java/lang/invoke/MethodHandle" ∧ owner ≠ "java/lang/invoke/VarHandle" ∧ (parseMethodDescriptor x.desc).map (fun d => d.parameters.length) = some n) (hR : rmy.frames + 1 ≤ R.frames ∧ 8 + (maxL + 11) + rmy.locals ≤ R.locals)
    (q0 : Nat) (he : ws[q0]? = some (b, .inr (ci, fs))) (hci : vwCl[ci]? = some (C, T, N)) (hn : As.length = n) (hst : st = As.reverse ++ .ref b :: rest) (hW : (rest.map fun v => v.category).sum ≤ 8) (hf : cells + mc ≤ R.cells ∧ slots + ms ≤ R.slots) (isC isR is2 : List Nat) (hC : isC.map (fun i => ws[i]?) = WC.map some) (hR2 : isR.map (fun i => ws[i]?) = (wpick ws isR).map some) (h2 : is2.map (fun i => (wpick ws isR ++ WC')[i]?) = ws'.map some) (hnd : (va_nd isC && va_nd isR && va_nd is2 && isR.all (fun i => !isC.contains i)) = true)
    (d : decode cc pc = .ok (.invokevirtual index, 3)) (q : Nat) (hq : pc + 3 = q) (K : vW p l e R s m args below meth c nL D A F (cells + mc) (slots + ms) Q ws' q lv rest) : vW p l e R s m args below meth c nL D A F cells slots Q ws pc lv st := by
  subst hq
  subst hst
  intro H locs ls hP hD hS hl
  simp only [Bool.and_eq_true] at hnd
  obtain ⟨⟨⟨hnC, hnR⟩, hn2⟩, hdis0⟩ := hnd
  have hdis : ∀ i ∈ isR, i ∉ isC := fun i hi hc => by
    have := List.all_eq_true.mp hdis0 i hi
    simp [hc] at this
  have hFc : ∀ q, va_A WC H.size q → A q := va_free (va_D_left hD) hS X.2.2.2.2.2.2.2.2.1 isC hC
  have hA9 : WC ++ [] = WC := List.append_nil WC
  refine va_callv (va_runU ⟨X.1, X.2.1, X.2.2.2.1, X.2.2.2.2.1, X.2.2.2.2.2.1⟩ (hM H.size) (va_cwU n X.2.2.2.2.2.1 hT hw hrc hrs hyx hd hR) ⟨pW_blind X.2.2.2.2.2.2.2.2.2.1, va_recv X.2.2.2.2.2.2.2.1 (va_P_left hP) hci he, v_pc X.2.2.2.2.2.2.2.2 hP hD hS X.2.2.2.2.2.2.2.1 isC hC hnC⟩ rfl hn hl.1 rfl (lv_room hW) d hf) hS (fun q _ h => hFc q (by rw [hA9] at h; exact h)) (fun q h => hFc q (by rw [hA9] at h; exact h)) (fun u t H1 locs1 ht hvm hpost hB hz1 hk1 hS => ?_)
  obtain ⟨hP1, hK1, hD1⟩ := hB
  rw [ht] at hP1
  simp only [List.append_nil] at hP1 hD1 hk1
  obtain ⟨hP, hD⟩ := vj hP hD isC isR is2 hC hR2 hnR hdis hn2 h2 hk1 hFc hP1 hD1
  exact K H1 locs1 ls hP hD hS hl
theorem v_callSi (X : vX p s m args meth c cc nL ret own Ts D tys G A) {y : MethodName} {wsy wsy' : List Cond} {rmy : Room} {bytes : ByteArray} {maxL index : Nat} {mc ms : Nat} {WC WC' ws' : va_W} {As rest : List Value}  {r : Int32} {ty : FieldType} (hM : mI l y wsy rmy G D tys As WC [] mc ms r WC') (n : Nat) (hT : GoodIn Ts (va_wsS own index y wsy)) (hw : wsy = Cond.code y bytes maxL (some ty) :: wsy') (hrc : rmy.cells = mc) (hrs : rmy.slots = ms) (hd : y.cls ≠ "java/lang/invoke/MethodHandle" ∧ y.cls ≠ "java/lang/invoke/VarHandle" ∧ (parseMethodDescriptor y.desc).map (fun d => d.parameters.length) = some n) (hR : rmy.frames + 1 ≤ R.frames ∧ 8 + (maxL + 11) + rmy.locals ≤ R.locals)
    (hn : As.length = n) (hst : st = As.reverse ++ rest) (hW : (rest.map fun v => v.category).sum ≤ 8) (hf : cells + mc ≤ R.cells ∧ slots + ms ≤ R.slots) (isC isR is2 : List Nat) (hC : isC.map (fun i => ws[i]?) = WC.map some) (hR2 : isR.map (fun i => ws[i]?) = (wpick ws isR).map some) (h2 : is2.map (fun i => (wpick ws isR ++ WC')[i]?) = ws'.map some) (hnd : (va_nd isC && va_nd isR && va_nd is2 && isR.all (fun i => !isC.contains i)) = true)
    (d : decode cc pc = .ok (.invokestatic index, 3)) (q : Nat) (hq : pc + 3 = q) (K : vW p l e R s m args below meth c nL D A F (cells + mc) (slots + ms) Q ws' q lv (.int r :: rest)) : vW p l e R s m args below meth c nL D A F cells slots Q ws pc lv st := by
  subst hq
  subst hst
  intro H locs ls hP hD hS hl
  simp only [Bool.and_eq_true] at hnd
  obtain ⟨⟨⟨hnC, hnR⟩, hn2⟩, hdis0⟩ := hnd
  have hdis : ∀ i ∈ isR, i ∉ isC := fun i hi hc => by
    have := List.all_eq_true.mp hdis0 i hi
    simp [hc] at this
  have hFc : ∀ q, va_A WC H.size q → A q := va_free (va_D_left hD) hS X.2.2.2.2.2.2.2.2.1 isC hC
  have hA9 : WC ++ [] = WC := List.append_nil WC
  refine va_calli (va_runS ⟨X.1, X.2.1, X.2.2.2.1, X.2.2.2.2.1, X.2.2.2.2.2.1⟩ (hM H.size) (va_cwS n X.2.2.2.2.2.1 hT hw hrc hrs hd hR) ⟨pW_blind X.2.2.2.2.2.2.2.2.2.1, v_pc X.2.2.2.2.2.2.2.2 hP hD hS X.2.2.2.2.2.2.2.1 isC hC hnC⟩ rfl hn hl.1 rfl (lv_room hW) d hf) hS (fun q _ h => hFc q (by rw [hA9] at h; exact h)) (fun q h => hFc q (by rw [hA9] at h; exact h)) (fun r' u t H1 locs1 ht hvm hpost hB hz1 hk1 hS => ?_)
  subst hpost
  obtain ⟨hP1, hK1, hD1⟩ := hB
  rw [ht] at hP1
  simp only [List.append_nil] at hP1 hD1 hk1
  obtain ⟨hP, hD⟩ := vj hP hD isC isR is2 hC hR2 hnR hdis hn2 h2 hk1 hFc hP1 hD1
  exact K H1 locs1 ls hP hD hS hl
theorem v_callSv (X : vX p s m args meth c cc nL ret own Ts D tys G A) {y : MethodName} {wsy wsy' : List Cond} {rmy : Room} {bytes : ByteArray} {maxL index : Nat} {mc ms : Nat} {WC WC' ws' : va_W} {As rest : List Value}  (hM : mV l y wsy rmy G D tys As WC [] mc ms WC') (n : Nat) (hT : GoodIn Ts (va_wsS own index y wsy)) (hw : wsy = Cond.code y bytes maxL none :: wsy') (hrc : rmy.cells = mc) (hrs : rmy.slots = ms) (hd : y.cls ≠ "java/lang/invoke/MethodHandle" ∧ y.cls ≠ "java/lang/invoke/VarHandle" ∧ (parseMethodDescriptor y.desc).map (fun d => d.parameters.length) = some n) (hR : rmy.frames + 1 ≤ R.frames ∧ 8 + (maxL + 11) + rmy.locals ≤ R.locals)
    (hn : As.length = n) (hst : st = As.reverse ++ rest) (hW : (rest.map fun v => v.category).sum ≤ 8) (hf : cells + mc ≤ R.cells ∧ slots + ms ≤ R.slots) (isC isR is2 : List Nat) (hC : isC.map (fun i => ws[i]?) = WC.map some) (hR2 : isR.map (fun i => ws[i]?) = (wpick ws isR).map some) (h2 : is2.map (fun i => (wpick ws isR ++ WC')[i]?) = ws'.map some) (hnd : (va_nd isC && va_nd isR && va_nd is2 && isR.all (fun i => !isC.contains i)) = true)
    (d : decode cc pc = .ok (.invokestatic index, 3)) (q : Nat) (hq : pc + 3 = q) (K : vW p l e R s m args below meth c nL D A F (cells + mc) (slots + ms) Q ws' q lv rest) : vW p l e R s m args below meth c nL D A F cells slots Q ws pc lv st := by
  subst hq
  subst hst
  intro H locs ls hP hD hS hl
  simp only [Bool.and_eq_true] at hnd
  obtain ⟨⟨⟨hnC, hnR⟩, hn2⟩, hdis0⟩ := hnd
  have hdis : ∀ i ∈ isR, i ∉ isC := fun i hi hc => by
    have := List.all_eq_true.mp hdis0 i hi
    simp [hc] at this
  have hFc : ∀ q, va_A WC H.size q → A q := va_free (va_D_left hD) hS X.2.2.2.2.2.2.2.2.1 isC hC
  have hA9 : WC ++ [] = WC := List.append_nil WC
  refine va_callv (va_runS ⟨X.1, X.2.1, X.2.2.2.1, X.2.2.2.2.1, X.2.2.2.2.2.1⟩ (hM H.size) (va_cwS n X.2.2.2.2.2.1 hT hw hrc hrs hd hR) ⟨pW_blind X.2.2.2.2.2.2.2.2.2.1, v_pc X.2.2.2.2.2.2.2.2 hP hD hS X.2.2.2.2.2.2.2.1 isC hC hnC⟩ rfl hn hl.1 rfl (lv_room hW) d hf) hS (fun q _ h => hFc q (by rw [hA9] at h; exact h)) (fun q h => hFc q (by rw [hA9] at h; exact h)) (fun u t H1 locs1 ht hvm hpost hB hz1 hk1 hS => ?_)
  obtain ⟨hP1, hK1, hD1⟩ := hB
  rw [ht] at hP1
  simp only [List.append_nil] at hP1 hD1 hk1
  obtain ⟨hP, hD⟩ := vj hP hD isC isR is2 hC hR2 hnR hdis hn2 h2 hk1 hFc hP1 hD1
  exact K H1 locs1 ls hP hD hS hl
theorem v_callIv (X : vX p s m args meth c cc nL ret own Ts D tys G A) {y : MethodName} {wsy wsy' : List Cond} {rmy : Room} {bytes : ByteArray} {maxL index : Nat} {mc ms : Nat} {WC WC' ws' : va_W} {As rest : List Value} {b : Nat} (hM : mV l y wsy rmy G D tys (.ref b :: As) WC [] mc ms WC') (n : Nat) (hT : GoodIn Ts wsy) (hw : wsy = Cond.code y bytes maxL none :: wsy') (hrc : rmy.cells = mc) (hrs : rmy.slots = ms) (hini : Cond.initialized y.cls ∈ Ts) (hlk : Cond.methodLink own index y ∈ Ts) (hinm : Cond.instanceMethod y ∈ Ts) (hy1 : y.name = "<init>") (hd : y.cls ≠ "java/lang/invoke/MethodHandle" ∧ y.cls ≠ "java/lang/invoke/VarHandle" ∧ (parseMethodDescriptor y.desc).map (fun d => d.parameters.length) = some n) (hR : rmy.frames + 1 ≤ R.frames ∧ 8 + (maxL + 11) + rmy.locals ≤ R.locals)
    (hn : As.length = n) (hst : st = As.reverse ++ .ref b :: rest) (hW : (rest.map fun v => v.category).sum ≤ 8) (hf : cells + mc ≤ R.cells ∧ slots + ms ≤ R.slots) (isC isR is2 : List Nat) (hC : isC.map (fun i => ws[i]?) = WC.map some) (hR2 : isR.map (fun i => ws[i]?) = (wpick ws isR).map some) (h2 : is2.map (fun i => (wpick ws isR ++ WC')[i]?) = ws'.map some) (hnd : (va_nd isC && va_nd isR && va_nd is2 && isR.all (fun i => !isC.contains i)) = true)
    (d : decode cc pc = .ok (.invokespecial index, 3)) (q : Nat) (hq : pc + 3 = q) (K : vW p l e R s m args below meth c nL D A F (cells + mc) (slots + ms) Q ws' q lv rest) : vW p l e R s m args below meth c nL D A F cells slots Q ws pc lv st := by
  subst hq
  subst hst
  intro H locs ls hP hD hS hl
  simp only [Bool.and_eq_true] at hnd
  obtain ⟨⟨⟨hnC, hnR⟩, hn2⟩, hdis0⟩ := hnd
  have hdis : ∀ i ∈ isR, i ∉ isC := fun i hi hc => by
    have := List.all_eq_true.mp hdis0 i hi
    simp [hc] at this
  have hFc : ∀ q, va_A WC H.size q → A q := va_free (va_D_left hD) hS X.2.2.2.2.2.2.2.2.1 isC hC
  have hA9 : WC ++ [] = WC := List.append_nil WC
  refine va_callv (va_runI ⟨X.1, X.2.1, X.2.2.2.1, X.2.2.2.2.1, X.2.2.2.2.2.1⟩ (hM H.size) (cwI n X.2.2.2.2.2.1 hT hw hrc hrs (X.2.2.2.2.2.1 _ hini) (X.2.2.2.2.2.1 _ hlk) (X.2.2.2.2.2.1 _ hinm) hy1 hd hR) ⟨pW_blind X.2.2.2.2.2.2.2.2.2.1, v_pc X.2.2.2.2.2.2.2.2 hP hD hS X.2.2.2.2.2.2.2.1 isC hC hnC⟩ rfl hn hl.1 rfl (lv_room hW) d hf) hS (fun q _ h => hFc q (by rw [hA9] at h; exact h)) (fun q h => hFc q (by rw [hA9] at h; exact h)) (fun u t H1 locs1 ht hvm hpost hB hz1 hk1 hS => ?_)
  obtain ⟨hP1, hK1, hD1⟩ := hB
  rw [ht] at hP1
  simp only [List.append_nil] at hP1 hD1 hk1
  obtain ⟨hP, hD⟩ := vj hP hD isC isR is2 hC hR2 hnR hdis hn2 h2 hk1 hFc hP1 hD1
  exact K H1 locs1 ls hP hD hS hl
end VM
