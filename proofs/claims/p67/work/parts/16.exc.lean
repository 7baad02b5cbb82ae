/-! Contracts that return or throw, over a whole world; their calls, throws and ends. -/
def exN : Nat → String
  | 1 => "java/lang/IndexOutOfBoundsException"
  | 2 => "java/lang/IllegalArgumentException"
  | 3 => "java/lang/IllegalStateException"
  | _ => "java/util/NoSuchElementException"
def nmX : List String := ["java/lang/RuntimeException", "java/lang/Exception"]
theorem nmX_fit : ∀ n ∈ nmX, Bundle.fit n = true := by decide +kernel
def tI {S : Type} (D : va_G) (tys : List (ClassId × FieldType)) (A : Nat → Prop) (ex : Nat) (r : Int32) (post : S → Prop) (WSf : S → va_W) : Array Value → State → Outcome → State → Prop := va_Qi (fun (r' : Int32) (u : S) => (ex = 0 ∧ r' = r) ∧ post u) (fun u t => va_P D vwCl (WSf u) t.heap ∧ va_K D vwCl tys t ∧ va_D A (WSf u)) A
def tV {S : Type} (D : va_G) (tys : List (ClassId × FieldType)) (A : Nat → Prop) (ex : Nat) (post : S → Prop) (WSf : S → va_W) : Array Value → State → Outcome → State → Prop := va_Qv (fun (u : S) => ex = 0 ∧ post u) (fun u t => va_P D vwCl (WSf u) t.heap ∧ va_K D vwCl tys t ∧ va_D A (WSf u)) A
def tX {S : Type} (D : va_G) (tys : List (ClassId × FieldType)) (A : Nat → Prop) (ex : Nat) (post : S → Prop) (WSf : S → va_W) : String → State → State → Prop := vx_X (fun (u : S) => ex ≠ 0 ∧ post u) (fun E u t => E = exN ex ∧ va_P D vwCl (WSf u) t.heap ∧ va_K D vwCl tys t ∧ va_D A (WSf u)) A
def mTi {S : Type} (l : Launch) (y : MethodName) (ws : List Cond) (rm : Room) (G : (Nat → Prop) → State → Heap → Prop) (D : va_G) (tys : List (ClassId × FieldType)) (av : List Value) (W0 : va_W) (mc ms ex : Nat) (r : Int32) (post : S → Prop) (WSf : S → va_W) : Prop := ∀ sz : Nat, vx_Met l y ws rm (va_Pc av (pW G D tys sz W0)) (tI D tys (va_A W0 sz) ex r post WSf) (tX D tys (va_A W0 sz) ex post WSf) mc ms (va_A W0 sz)
def mTv {S : Type} (l : Launch) (y : MethodName) (ws : List Cond) (rm : Room) (G : (Nat → Prop) → State → Heap → Prop) (D : va_G) (tys : List (ClassId × FieldType)) (av : List Value) (W0 : va_W) (mc ms ex : Nat) (post : S → Prop) (WSf : S → va_W) : Prop := ∀ sz : Nat, vx_Met l y ws rm (va_Pc av (pW G D tys sz W0)) (tV D tys (va_A W0 sz) ex post WSf) (tX D tys (va_A W0 sz) ex post WSf) mc ms (va_A W0 sz)
def vWx (p : Program) (l : Launch) (e : Env) (R : Room) (s : State) (m : MethodId) (args : Array Value) (below : List Frame) (meth : Method) (c : Code) (nL : Nat) (D : va_G) (A : Nat → Prop) (F : va_W) (cells slots : Nat) (Q : State → Prop) (ws : va_W) (pc : Nat) (lv : List (Nat × Value)) (rest : List Value) (E : String) : Prop :=
  ∀ (H : Heap) (locs : List Loc) (ls : Array Slot) (q9 : Nat) (ce : Cell), va_P D vwCl (ws ++ F) H → va_D A (ws ++ F) → va_S A s.heap H locs → lv_has ls nL lv → H[q9]? = some ce → ce.vm = .none → s.vm.findClass E = some ce.cls → vx_W p l e R s m args below meth c H locs cells slots Q (F0 m pc ls rest) q9
section VT
variable {p : Program} {l : Launch} {e : Env} {R : Room} {s : State} {m : MethodId} {args : Array Value} {below : List Frame} {meth : Method} {c : Code} {cc : ByteArray} {nL : Nat} {ret : Option FieldType} {own : String} {Ts : List Cond} {D : va_G} {tys : List (ClassId × FieldType)} {G : (Nat → Prop) → State → Heap → Prop} {A : Nat → Prop} {F : va_W} {cells slots : Nat} {Q : State → Prop} {ws : va_W} {pc : Nat} {lv : List (Nat × Value)} {st : List Value}
theorem mTi_of {S : Type} {post : S → Prop} {WSf : S → va_W} (hG : vG G) {y : MethodName} {wsy ws' : List Cond} {maxL : Nat} {av : List Value} {WS : va_W} {mc ms ex : Nat} {r : Int32} {ty : FieldType} (hy : plainName y.cls = true) (hw : wsy = Cond.code y cc maxL (some ty) :: ws') (hlen : (lg_sl av).length ≤ maxL)
    (h : ∀ (p : Program) (e : Env) (s : State) (m : MethodId) (args : Array Value) (below : List Frame) (meth : Method) (c : Code) (A : Nat → Prop), (∀ x ∈ c.exceptionTable.toList, False) → vX p s m args meth c cc maxL (some ty) y.cls wsy D tys G A → vW p l e R s m args below meth c maxL D A F 0 0 (vx_MQ below (tI D tys A ex r post WSf) (tX D tys A ex post WSf) args s mc ms A) WS 0 (lv_args 0 av) []) : mTi l y wsy R G D tys av (WS ++ F) mc ms ex r post WSf := by
  intro sz
  refine vx_ofW (cc := cc) (maxL := maxL) (ret := (some ty)) hy hw ?_
  intro p e s m args below meth c s₁ B hml hnt hv
  obtain ⟨rfl, hsz, hP, hK, hD0, hGv⟩ := hv
  have hts := atoms_spec (ws := wsy) B.pre
  have hown : s.vm.findClass y.cls = some m.cls := findClass_of_methodNamed B.named
  subst hsz
  have hD := hD0.self (sz := s.heap.size)
  rw [lg_entry_eq]
  exact h p e s m _ below meth c _ hnt ⟨B.exec, B.bytes, B.returns, hml, hown, hts, B.notSynchronized, hK, fun q h => Or.inr h, hG, hGv⟩ s.heap [] _ hP hD va_S.rf (lv_entry av hlen)
theorem mTv_of {S : Type} {post : S → Prop} {WSf : S → va_W} (hG : vG G) {y : MethodName} {wsy ws' : List Cond} {maxL : Nat} {av : List Value} {WS : va_W} {mc ms ex : Nat} (hy : plainName y.cls = true) (hw : wsy = Cond.code y cc maxL none :: ws') (hlen : (lg_sl av).length ≤ maxL)
    (h : ∀ (p : Program) (e : Env) (s : State) (m : MethodId) (args : Array Value) (below : List Frame) (meth : Method) (c : Code) (A : Nat → Prop), (∀ x ∈ c.exceptionTable.toList, False) → vX p s m args meth c cc maxL none y.cls wsy D tys G A → vW p l e R s m args below meth c maxL D A F 0 0 (vx_MQ below (tV D tys A ex post WSf) (tX D tys A ex post WSf) args s mc ms A) WS 0 (lv_args 0 av) []) : mTv l y wsy R G D tys av (WS ++ F) mc ms ex post WSf := by
  intro sz
  refine vx_ofW (cc := cc) (maxL := maxL) (ret := none) hy hw ?_
  intro p e s m args below meth c s₁ B hml hnt hv
  obtain ⟨rfl, hsz, hP, hK, hD0, hGv⟩ := hv
  have hts := atoms_spec (ws := wsy) B.pre
  have hown : s.vm.findClass y.cls = some m.cls := findClass_of_methodNamed B.named
  subst hsz
  have hD := hD0.self (sz := s.heap.size)
  rw [lg_entry_eq]
  exact h p e s m _ below meth c _ hnt ⟨B.exec, B.bytes, B.returns, hml, hown, hts, B.notSynchronized, hK, fun q h => Or.inr h, hG, hGv⟩ s.heap [] _ hP hD va_S.rf (lv_entry av hlen)
theorem v_tiret {S : Type} {post : S → Prop} {WSf : S → va_W} {XC : String → State → State → Prop} {mc ms ex : Nat} {r r' : Int32} (X : vX p s m args meth c cc nL (some .int) own Ts D tys G A) (u : S) (hu : post u) (hWS : WSf u = ws ++ F) (h0 : ex = 0) (hr : r' = r) (hc : cells ≤ mc) (hs : slots ≤ ms) (d : decode cc pc = .ok (.ireturn, 1)) : vW p l e R s m args below meth c nL D A F cells slots (vx_MQ below (tI D tys A ex r post WSf) XC args s mc ms A) ws pc lv [.int r'] :=
  fun H locs ls hP hD hS hl => vx_ret (W.widen hc hs (W.iret (v := r') X.1 X.2.1 X.2.2.1 (fun t ht hW => ⟨⟨r', u, rfl, ⟨⟨h0, hr⟩, hu⟩, by show va_P D vwCl (WSf u) t.heap ∧ va_K D vwCl tys t ∧ va_D A (WSf u); rw [hWS]; exact va_W_blind ht hP X.2.2.2.2.2.2.2.1 hW.alike hD⟩, hS.F ht⟩) hS.2.2 d X.2.2.2.2.2.2.1))
theorem v_tzret {S : Type} {post : S → Prop} {WSf : S → va_W} {XC : String → State → State → Prop} {mc ms ex : Nat} {r r' : Int32} {ty : FieldType} (X : vX p s m args meth c cc nL (some ty) own Ts D tys G A) (u : S) (hu : post u) (hWS : WSf u = ws ++ F) (h0 : ex = 0) (hr : r' = r) (hz : narrow ty (.int r') = .int r') (hc : cells ≤ mc) (hs : slots ≤ ms) (d : decode cc pc = .ok (.ireturn, 1)) : vW p l e R s m args below meth c nL D A F cells slots (vx_MQ below (tI D tys A ex r post WSf) XC args s mc ms A) ws pc lv [.int r'] :=
  fun H locs ls hP hD hS hl => vx_ret (W.widen hc hs (W.zret (v := r') X.1 X.2.1 X.2.2.1 hz (fun t ht hW => ⟨⟨r', u, rfl, ⟨⟨h0, hr⟩, hu⟩, by show va_P D vwCl (WSf u) t.heap ∧ va_K D vwCl tys t ∧ va_D A (WSf u); rw [hWS]; exact va_W_blind ht hP X.2.2.2.2.2.2.2.1 hW.alike hD⟩, hS.F ht⟩) hS.2.2 d X.2.2.2.2.2.2.1))
theorem v_tvret {S : Type} {post : S → Prop} {WSf : S → va_W} {XC : String → State → State → Prop} {mc ms ex : Nat} (X : vX p s m args meth c cc nL none own Ts D tys G A) (u : S) (hu : post u) (hWS : WSf u = ws ++ F) (h0 : ex = 0) (hc : cells ≤ mc) (hs : slots ≤ ms) (d : decode cc pc = .ok (.return_, 1)) : vW p l e R s m args below meth c nL D A F cells slots (vx_MQ below (tV D tys A ex post WSf) XC args s mc ms A) ws pc lv [] :=
  fun H locs ls hP hD hS hl => vx_ret (W.widen hc hs (W.vret X.1 X.2.1 X.2.2.1 (fun t ht hW => ⟨⟨u, rfl, ⟨h0, hu⟩, by show va_P D vwCl (WSf u) t.heap ∧ va_K D vwCl tys t ∧ va_D A (WSf u); rw [hWS]; exact va_W_blind ht hP X.2.2.2.2.2.2.2.1 hW.alike hD⟩, hS.F ht⟩) hS.2.2 d X.2.2.2.2.2.2.1))
theorem v_xout {S : Type} {post : S → Prop} {WSf : S → va_W} {Qc : Array Value → State → Outcome → State → Prop} {mc ms ex : Nat} {rest : List Value} {E : String} (X : vX p s m args meth c cc nL ret own Ts D tys G A) (hnt : ∀ x ∈ c.exceptionTable.toList, False) (u : S) (hu : post u) (hWS : WSf u = ws ++ F) (h0 : ex ≠ 0) (hE : exN ex = E) (hc : cells ≤ mc) (hs : slots ≤ ms) : vWx p l e R s m args below meth c nL D A F cells slots (vx_MQ below Qc (tX D tys A ex post WSf) args s mc ms A) ws pc lv rest E :=
  fun H locs ls q9 ce hP hD hS hl h9 hv hcl => vx_out (fun x hx => (hnt x hx).elim) X.2.2.2.2.2.2.1 h9 hv hcl (fun t ht hvm => ⟨u, ⟨h0, hu⟩, ⟨hE.symm, by show va_P D vwCl (WSf u) t.heap ∧ va_K D vwCl tys t ∧ va_D A (WSf u); rw [hWS]; exact va_W_blind ht hP X.2.2.2.2.2.2.2.1 hvm hD⟩, hS.F ht⟩) hS.2.2 hc hs
theorem v_athrow (X : vX p s m args meth c cc nL ret own Ts D tys G A) {q : Nat} {E : String} (d : decode cc pc = .ok (.athrow, 1)) {H : Heap} {locs : List Loc} {ls : Array Slot} {ce : Cell} (hP : va_P D vwCl (ws ++ F) H) (hD : va_D A (ws ++ F)) (hS : va_S A s.heap H locs) (hl : lv_has ls nL lv) (h9 : H[q]? = some ce) (hv : ce.vm = .none) (hcl : s.vm.findClass E = some ce.cls) (K : vWx p l e R s m args below meth c nL D A F cells slots Q ws pc lv st E) : W p l e R s m args below meth c H locs cells slots Q (F0 m pc ls (.ref q :: st)) :=
  nse_athrow X.1 X.2.1 d (K H locs ls q ce hP hD hS hl h9 hv hcl)
theorem v_pcw {av : List Value} {H : Heap} {locs : List Loc} (hX : (∀ q : Nat, s.heap.size ≤ q → A q) ∧ vG G ∧ G A s s.heap) (hP : va_P D vwCl (ws ++ F) H) (hD : va_D A (ws ++ F)) (hS : va_S A s.heap H locs) (hK : va_K D vwCl tys s) (hFc : ∀ q, va_A (ws ++ F) H.size q → A q) : ∀ U : State, U.heap = H → s.WarmedH U.vm → va_Pc av (pW G D tys H.size (ws ++ F)) av.toArray U := by
  intro U hU hW
  refine ⟨rfl, by rw [hU], by rw [hU]; exact hP, va_K.moved hW.alike hK, hD.weaken (fun _ _ _ _ => trivial), ?_⟩
  rw [hU]
  exact hX.2.1.2.2.1 _ s U H hW (hX.2.1.1 _ _ s H (hX.2.1.2.1 _ s _ _ hX.2.2 hS.2.1) hFc)
theorem v_free {H : Heap} {locs : List Loc} (hA : ∀ q : Nat, s.heap.size ≤ q → A q) (hD : va_D A (ws ++ F)) (hS : va_S A s.heap H locs) : ∀ q, va_A (ws ++ F) H.size q → A q := fun q h => by
  rcases h with ⟨k, e2, h⟩ | h
  · exact hD.2 k _ h
  · exact hA q (Nat.le_trans hS.1 h)
theorem v_tcallVi (X : vX p s m args meth c cc nL ret own Ts D tys G A) {S : Type} {post : S → Prop} {WSf ws' F' : S → va_W} {y : MethodName} {wsy wsy' : List Cond} {rmy : Room} {bytes : ByteArray} {maxL index : Nat} {mc ms ex : Nat} {As rest : List Value} {C : String} {ci : Nat} {T : u_T} {N b : Nat} {fs : List Value} {r : Int32} {ty : FieldType} (hM : mTi l y wsy rmy G D tys (.ref b :: As) (ws ++ F) mc ms ex r post WSf) (n : Nat) (hT : GoodIn Ts (wsV own index C y wsy)) (hw : wsy = Cond.code y bytes maxL (some ty) :: wsy') (hrc : rmy.cells = mc) (hrs : rmy.slots = ms) (hd : y.cls = C ∧ y.cls ≠ "java/lang/invoke/MethodHandle" ∧ y.cls ≠ "java/lang/invoke/VarHandle" ∧ (parseMethodDescriptor y.desc).map (fun d => d.parameters.length) = some n) (hR : rmy.frames + 1 ≤ R.frames ∧ 8 + (maxL + 11) + rmy.locals ≤ R.locals)
    (q0 : Nat) (he : ws[q0]? = some (b, .inr (ci, fs))) (hci : vwCl[ci]? = some (C, T, N)) (hn : As.length = n) (hst : st = As.reverse ++ .ref b :: rest) (hW : (rest.map fun v => v.category).sum ≤ 8) (hf : cells + mc ≤ R.cells ∧ slots + ms ≤ R.slots) (hWS : ∀ u, WSf u = ws' u ++ F' u)
    (d : decode cc pc = .ok (.invokevirtual index, 3)) (q : Nat) (hq : pc + 3 = q) (K : ex = 0 → ∀ u, post u → vW p l e R s m args below meth c nL D A (F' u) (cells + mc) (slots + ms) Q (ws' u) q lv (.int r :: rest)) (Kx : ex ≠ 0 → ∀ u, post u → vWx p l e R s m args below meth c nL D A (F' u) (cells + mc) (slots + ms) Q (ws' u) pc lv rest (exN ex)) : vW p l e R s m args below meth c nL D A F cells slots Q ws pc lv st := by
  subst hq
  subst hst
  intro H locs ls hP hD hS hl
  have hFc := v_free X.2.2.2.2.2.2.2.2.1 hD hS
  refine vx_calli (vx_runV ⟨X.1, X.2.1, X.2.2.2.1, X.2.2.2.2.1, X.2.2.2.2.2.1⟩ (hM H.size) (cwV n X.2.2.2.2.2.1 hT hw hrc hrs hd hR) ⟨pW_blind X.2.2.2.2.2.2.2.2.2.1, va_recv X.2.2.2.2.2.2.2.1 (va_P_left hP) hci he, v_pcw X.2.2.2.2.2.2.2.2 hP hD hS X.2.2.2.2.2.2.2.1 hFc⟩ rfl hn hl.1 rfl (lv_room hW) d hf) hS (fun q _ h => hFc q h) (fun q h => hFc q h) (fun q _ h => hFc q h) (fun E ce q9 u t H1 locs1 ht hvm hpx hB hz1 hk1 hS h9 hv9 hcl => ?_) (fun r' u t H1 locs1 ht hvm hpost hB hz1 hk1 hS => ?_)
  · obtain ⟨rfl, hP1, hK1, hD1⟩ := hB
    rw [ht, hWS u] at hP1
    rw [hWS u] at hD1
    exact Kx hpx.1 u hpx.2 H1 locs1 ls q9 ce hP1 (hD1.weaken (fun _ _ _ h => hFc _ h)) hS hl h9 hv9 hcl
  · obtain ⟨⟨h0, rfl⟩, hu⟩ := hpost
    obtain ⟨hP1, hK1, hD1⟩ := hB
    rw [ht, hWS u] at hP1
    rw [hWS u] at hD1
    exact K h0 u hu H1 locs1 ls hP1 (hD1.weaken (fun _ _ _ h => hFc _ h)) hS hl
theorem v_tcallVv (X : vX p s m args meth c cc nL ret own Ts D tys G A) {S : Type} {post : S → Prop} {WSf ws' F' : S → va_W} {y : MethodName} {wsy wsy' : List Cond} {rmy : Room} {bytes : ByteArray} {maxL index : Nat} {mc ms ex : Nat} {As rest : List Value} {C : String} {ci : Nat} {T : u_T} {N b : Nat} {fs : List Value} (hM : mTv l y wsy rmy G D tys (.ref b :: As) (ws ++ F) mc ms ex post WSf) (n : Nat) (hT : GoodIn Ts (wsV own index C y wsy)) (hw : wsy = Cond.code y bytes maxL none :: wsy') (hrc : rmy.cells = mc) (hrs : rmy.slots = ms) (hd : y.cls = C ∧ y.cls ≠ "java/lang/invoke/MethodHandle" ∧ y.cls ≠ "java/lang/invoke/VarHandle" ∧ (parseMethodDescriptor y.desc).map (fun d => d.parameters.length) = some n) (hR : rmy.frames + 1 ≤ R.frames ∧ 8 + (maxL + 11) + rmy.locals ≤ R.locals)
    (q0 : Nat) (he : ws[q0]? = some (b, .inr (ci, fs))) (hci : vwCl[ci]? = some (C, T, N)) (hn : As.length = n) (hst : st = As.reverse ++ .ref b :: rest) (hW : (rest.map fun v => v.category).sum ≤ 8) (hf : cells + mc ≤ R.cells ∧ slots + ms ≤ R.slots) (hWS : ∀ u, WSf u = ws' u ++ F' u)
    (d : decode cc pc = .ok (.invokevirtual index, 3)) (q : Nat) (hq : pc + 3 = q) (K : ex = 0 → ∀ u, post u → vW p l e R s m args below meth c nL D A (F' u) (cells + mc) (slots + ms) Q (ws' u) q lv rest) (Kx : ex ≠ 0 → ∀ u, post u → vWx p l e R s m args below meth c nL D A (F' u) (cells + mc) (slots + ms) Q (ws' u) pc lv rest (exN ex)) : vW p l e R s m args below meth c nL D A F cells slots Q ws pc lv st := by
  subst hq
  subst hst
  intro H locs ls hP hD hS hl
  have hFc := v_free X.2.2.2.2.2.2.2.2.1 hD hS
  refine vx_callv (vx_runV ⟨X.1, X.2.1, X.2.2.2.1, X.2.2.2.2.1, X.2.2.2.2.2.1⟩ (hM H.size) (cwV n X.2.2.2.2.2.1 hT hw hrc hrs hd hR) ⟨pW_blind X.2.2.2.2.2.2.2.2.2.1, va_recv X.2.2.2.2.2.2.2.1 (va_P_left hP) hci he, v_pcw X.2.2.2.2.2.2.2.2 hP hD hS X.2.2.2.2.2.2.2.1 hFc⟩ rfl hn hl.1 rfl (lv_room hW) d hf) hS (fun q _ h => hFc q h) (fun q h => hFc q h) (fun q _ h => hFc q h) (fun E ce q9 u t H1 locs1 ht hvm hpx hB hz1 hk1 hS h9 hv9 hcl => ?_) (fun u t H1 locs1 ht hvm hpost hB hz1 hk1 hS => ?_)
  · obtain ⟨rfl, hP1, hK1, hD1⟩ := hB
    rw [ht, hWS u] at hP1
    rw [hWS u] at hD1
    exact Kx hpx.1 u hpx.2 H1 locs1 ls q9 ce hP1 (hD1.weaken (fun _ _ _ h => hFc _ h)) hS hl h9 hv9 hcl
  · obtain ⟨h0, hu⟩ := hpost
    obtain ⟨hP1, hK1, hD1⟩ := hB
    rw [ht, hWS u] at hP1
    rw [hWS u] at hD1
    exact K h0 u hu H1 locs1 ls hP1 (hD1.weaken (fun _ _ _ h => hFc _ h)) hS hl
theorem v_throwS (X : vX p s m args meth c cc nL ret own Ts D tys G A) (hnt : ∀ x ∈ c.exceptionTable.toList, False) (hl0 : l.stackTraces = false) {sk sv : Nat → Nat} (hGU : ∀ (A : Nat → Prop) (U : State) (H : Heap), G A U H → vU sk sv A U H) {S : Type} {post : S → Prop} {WSf : S → va_W} {Qc : Array Value → State → Outcome → State → Prop} {mc ms ex ik is ic i : Nat} {cls tx : String} (hcls : Bundle.fit cls = true) (hk : Cond.classLink own ik cls ∈ Ts ∧ goodWord (Cond.classLink own ik cls) = true) (hini : Cond.initialized cls ∈ Ts ∧ goodWord (Cond.initialized cls) = true) (hr : (own, is, tx, i) ∈ RJS) (hat : ∀ w ∈ vx_atS own ic cls nmX, (w ∈ Ts ∧ goodWord w = true) ∨ w ∈ nestW) (u : S) (hu : post u) (hWS : WSf u = ws ++ F) (h0 : ex ≠ 0) (hE : exN ex = cls)
    (d0 : decode cc pc = .ok (.new ik, 3)) (d3 : decode cc (pc + 3) = .ok (.dup, 1)) (d4 : decode cc (pc + 4) = .ok (.ldc is, 2)) (d6 : decode cc (pc + 6) = .ok (.invokespecial ic, 3)) (d9 : decode cc (pc + 9) = .ok (.athrow, 1)) (hRf : 5 < R.frames) (hRl : (st.map fun v => v.category).sum + 82 ≤ R.locals) (hRc : cells + 1 ≤ R.cells) (hRs : slots + 6 ≤ R.slots) (hc : cells + 1 ≤ mc) (hs : slots + 6 ≤ ms) : vW p l e R s m args below meth c nL D A F cells slots (vx_MQ below Qc (tX D tys A ex post WSf) args s mc ms A) ws pc lv st := by
  intro H locs ls hP hD hS hl
  have U := hGU A s s.heap X.2.2.2.2.2.2.2.2.2.2
  have got : ∀ {w : Cond}, goodWord w = true → vx_ot w = true := fun h => by unfold vx_ot; rw [h, Bool.or_true]
  refine vx_throwS X.1 X.2.1 hl0 (names := nmX) (text := tx) (is := is) (sa := sk i) (A := A) X.2.2.2.2.1 hcls nmX_fit (X.2.2.2.2.2.1 _ hk.1) (X.2.2.2.2.2.1 _ hini.1) (U.2.1 _ hr) (fun w hw => (hat w hw).elim (fun h => X.2.2.2.2.2.1 _ h.1) (fun h => vN_use X h)) (fun w hw => ?_) U.2.2.2.2.1 U.2.2.2.2.2 hS (hl.1.trans X.2.2.2.1.symm) d0 d3 d4 d6 d9 (fun x hx => (hnt x hx).elim) hRf hRl hRc hRs X.2.2.2.2.2.2.1 (fun t hvm hsz hkeep => ⟨u, ⟨h0, hu⟩, ⟨hE.symm, by rw [hWS]; exact hP.kept (fun k q hq => hkeep q.1 ((hP k q hq).lt)), va_K.moved hvm X.2.2.2.2.2.2.2.1, by rw [hWS]; exact hD⟩, Nat.le_trans hS.1 hsz, fun q h1 h2 => (hkeep q (Nat.lt_of_lt_of_le h1 hS.1)).trans (hS.2.1 q h1 h2)⟩) hS.2.2 hc hs
  rcases List.mem_cons.mp hw with rfl | hw
  · exact got hk.2
  · rcases List.mem_cons.mp hw with rfl | hw
    · exact got hini.2
    · exact (hat w hw).elim (fun h => got h.2) (fun h => by unfold vx_ot; rw [nest_ok w h, Bool.true_or])
theorem v_throwSW (X : vX p s m args meth c cc nL ret own Ts D tys G A) (hnt : ∀ x ∈ c.exceptionTable.toList, False) (hl0 : l.stackTraces = false) {sk sv : Nat → Nat} (hGU : ∀ (A : Nat → Prop) (U : State) (H : Heap), G A U H → vU sk sv A U H) {S : Type} {post : S → Prop} {WSf : S → va_W} {Qc : Array Value → State → Outcome → State → Prop} {mc ms ex ik is ic i : Nat} {cls tx : String} (hcls : Bundle.fit cls = true) (hk : Cond.classLink own ik cls ∈ Ts ∧ goodWord (Cond.classLink own ik cls) = true) (hini : Cond.initialized cls ∈ Ts ∧ goodWord (Cond.initialized cls) = true) (hr : (own, is, tx, i) ∈ RJS) (hat : ∀ w ∈ vx_atS own ic cls nmX, (w ∈ Ts ∧ goodWord w = true) ∨ w ∈ nestW) (u : S) (hu : post u) (hWS : WSf u = ws ++ F) (h0 : ex ≠ 0) (hE : exN ex = cls)
    (d0 : decode cc pc = .ok (.new ik, 3)) (d3 : decode cc (pc + 3) = .ok (.dup, 1)) (d4 : decode cc (pc + 4) = .ok (.ldc_w is, 3)) (d6 : decode cc (pc + 7) = .ok (.invokespecial ic, 3)) (d9 : decode cc (pc + 10) = .ok (.athrow, 1)) (hRf : 5 < R.frames) (hRl : (st.map fun v => v.category).sum + 82 ≤ R.locals) (hRc : cells + 1 ≤ R.cells) (hRs : slots + 6 ≤ R.slots) (hc : cells + 1 ≤ mc) (hs : slots + 6 ≤ ms) : vW p l e R s m args below meth c nL D A F cells slots (vx_MQ below Qc (tX D tys A ex post WSf) args s mc ms A) ws pc lv st := by
  intro H locs ls hP hD hS hl
  have U := hGU A s s.heap X.2.2.2.2.2.2.2.2.2.2
  have got : ∀ {w : Cond}, goodWord w = true → vx_ot w = true := fun h => by unfold vx_ot; rw [h, Bool.or_true]
  refine vx_throwSW X.1 X.2.1 hl0 (names := nmX) (text := tx) (is := is) (sa := sk i) (A := A) X.2.2.2.2.1 hcls nmX_fit (X.2.2.2.2.2.1 _ hk.1) (X.2.2.2.2.2.1 _ hini.1) (U.2.1 _ hr) (fun w hw => (hat w hw).elim (fun h => X.2.2.2.2.2.1 _ h.1) (fun h => vN_use X h)) (fun w hw => ?_) U.2.2.2.2.1 U.2.2.2.2.2 hS (hl.1.trans X.2.2.2.1.symm) d0 d3 d4 d6 d9 (fun x hx => (hnt x hx).elim) hRf hRl hRc hRs X.2.2.2.2.2.2.1 (fun t hvm hsz hkeep => ⟨u, ⟨h0, hu⟩, ⟨hE.symm, by rw [hWS]; exact hP.kept (fun k q hq => hkeep q.1 ((hP k q hq).lt)), va_K.moved hvm X.2.2.2.2.2.2.2.1, by rw [hWS]; exact hD⟩, Nat.le_trans hS.1 hsz, fun q h1 h2 => (hkeep q (Nat.lt_of_lt_of_le h1 hS.1)).trans (hS.2.1 q h1 h2)⟩) hS.2.2 hc hs
  rcases List.mem_cons.mp hw with rfl | hw
  · exact got hk.2
  · rcases List.mem_cons.mp hw with rfl | hw
    · exact got hini.2
    · exact (hat w hw).elim (fun h => got h.2) (fun h => by unfold vx_ot; rw [nest_ok w h, Bool.true_or])
theorem v_throwN (X : vX p s m args meth c cc nL ret own Ts D tys G A) (hnt : ∀ x ∈ c.exceptionTable.toList, False) (hl0 : l.stackTraces = false) {sk sv : Nat → Nat} (hGU : ∀ (A : Nat → Prop) (U : State) (H : Heap), G A U H → vU sk sv A U H) {S : Type} {post : S → Prop} {WSf : S → va_W} {Qc : Array Value → State → Outcome → State → Prop} {mc ms ex ik is ic i ix : Nat} {cls tx SX : String} {SR : List String} {rx : ByteArray} (x0 : decode rx 0 = .ok (.aload_n 0, 1)) (x1 : decode rx 1 = .ok (.aload_n 1, 1)) (x2 : decode rx 2 = .ok (.invokespecial ix, 3)) (x5 : decode rx 5 = .ok (.return_, 1)) (hcls : Bundle.fit cls = true) (hns : ∀ n ∈ SX :: SR, Bundle.fit n = true) (hlen : SR.length = 1) (hk : Cond.classLink own ik cls ∈ Ts ∧ goodWord (Cond.classLink own ik cls) = true) (hini : Cond.initialized cls ∈ Ts ∧ goodWord (Cond.initialized cls) = true) (hr : (own, is, tx, i) ∈ RJS) (hat : ∀ w ∈ nseAt own ic cls ix rx SX SR, (w ∈ Ts ∧ goodWord w = true) ∨ w ∈ nestW) (u : S) (hu : post u) (hWS : WSf u = ws ++ F) (h0 : ex ≠ 0) (hE : exN ex = cls)
    (d0 : decode cc pc = .ok (.new ik, 3)) (d3 : decode cc (pc + 3) = .ok (.dup, 1)) (d4 : decode cc (pc + 4) = .ok (.ldc_w is, 3)) (d6 : decode cc (pc + 7) = .ok (.invokespecial ic, 3)) (d9 : decode cc (pc + 10) = .ok (.athrow, 1)) (hRf : 5 < R.frames) (hRl : (st.map fun v => v.category).sum + 82 ≤ R.locals) (hRc : cells + 1 ≤ R.cells) (hRs : slots + 6 ≤ R.slots) (hc : cells + 1 ≤ mc) (hs : slots + 6 ≤ ms) : vW p l e R s m args below meth c nL D A F cells slots (vx_MQ below Qc (tX D tys A ex post WSf) args s mc ms A) ws pc lv st := by
  intro H locs ls hP hD hS hl
  have U := hGU A s s.heap X.2.2.2.2.2.2.2.2.2.2
  have got : ∀ {w : Cond}, goodWord w = true → vx_ot w = true := fun h => by unfold vx_ot; rw [h, Bool.or_true]
  have h3 : (SX :: SR).length = 2 := by rw [List.length_cons, hlen]
  refine nse_make X.1 X.2.1 hl0 (text := tx) (is := is) (sa := sk i) (A := A) x0 x1 x2 x5 X.2.2.2.2.1 hcls hns (X.2.2.2.2.2.1 _ hk.1) (X.2.2.2.2.2.1 _ hini.1) (U.2.1 _ hr) (fun w hw => (hat w hw).elim (fun h => X.2.2.2.2.2.1 _ h.1) (fun h => vN_use X h)) (fun w hw => ?_) U.2.2.2.2.1 U.2.2.2.2.2 hS (hl.1.trans X.2.2.2.1.symm) d0 d3 d4 d6 (by rw [h3]; exact hRf) (by rw [h3]; exact hRl) hRc hRs (fun q H1 ce h9 hv hcl hsz hkeep hS => ?_)
  · rcases List.mem_cons.mp hw with rfl | hw
    · exact got hk.2
    · rcases List.mem_cons.mp hw with rfl | hw
      · exact got hini.2
      · exact (hat w hw).elim (fun h => got h.2) (fun h => by unfold vx_ot; rw [nest_ok w h, Bool.true_or])
  · exact v_athrow X d9 (hP.kept (fun k q hq => hkeep q.1 ((hP k q hq).lt))) hD hS hl h9 hv hcl (v_xout X hnt u hu hWS h0 hE hc hs)
end VT
