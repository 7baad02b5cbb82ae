/-! Longs, a catch, contracts of static methods with a table of their own. -/
def ncL : List (String × String) := [("java/lang/IllegalArgumentException", "java/lang/IndexOutOfBoundsException"), ("java/lang/IllegalStateException", "java/lang/IndexOutOfBoundsException"), ("java/lang/IllegalStateException", "java/lang/IllegalArgumentException"), ("java/lang/IndexOutOfBoundsException", "java/util/NoSuchElementException"), ("java/lang/IllegalStateException", "java/util/NoSuchElementException")]
def mH {S : Type} (l : Launch) (y : MethodName) (ws : List Cond) (rm : Room) (G : (Nat → Prop) → State → Heap → Prop) (D : va_G) (tys : List (ClassId × FieldType)) (av : List Value) (W0 : va_W) (mc ms : Nat) (r : Int32) (post : S → Prop) (WSf : S → va_W) : Prop := ∀ sz : Nat, Met l y ws rm (va_Pc av (pW G D tys sz W0)) (va_Qi (fun (r' : Int32) (u : S) => r' = r ∧ post u) (fun u t => va_P D vwCl (WSf u) t.heap ∧ va_K D vwCl tys t ∧ va_D (va_A W0 sz) (WSf u)) (va_A W0 sz)) mc ms (va_A W0 sz)
section VLw
variable {p : Program} {l : Launch} {e : Env} {R : Room} {s : State} {m : MethodId} {args : Array Value} {below : List Frame} {meth : Method} {c : Code} {cc : ByteArray} {nL : Nat} {ret : Option FieldType} {own : String} {Ts : List Cond} {D : va_G} {tys : List (ClassId × FieldType)} {G : (Nat → Prop) → State → Heap → Prop} {A : Nat → Prop} {F : va_W} {cells slots : Nat} {Q : State → Prop} {ws : va_W} {pc : Nat} {lv : List (Nat × Value)} {st : List Value}
theorem mH_of {S : Type} {post : S → Prop} {WSf : S → va_W} (hG : vG G) {y : MethodName} {wsy ws' : List Cond} {maxL : Nat} {av : List Value} {WS : va_W} {mc ms : Nat} {r : Int32} {ty : FieldType} {hh : List (Nat × Nat × Nat × Nat)} (hy : plainName y.cls = true) (hw : wsy = Cond.codeWith y cc maxL (some ty) hh :: ws') (hlen : (lg_sl av).length ≤ maxL)
    (h : ∀ (p : Program) (e : Env) (s : State) (m : MethodId) (args : Array Value) (below : List Frame) (meth : Method) (c : Code) (A : Nat → Prop), c.exceptionTable.toList = tableOf hh → vX p s m args meth c cc maxL (some ty) y.cls wsy D tys G A → vW p l e R s m args below meth c maxL D A F 0 0 (MQ below (va_Qi (fun (r' : Int32) (u : S) => r' = r ∧ post u) (fun u t => va_P D vwCl (WSf u) t.heap ∧ va_K D vwCl tys t ∧ va_D A (WSf u)) A) args s mc ms A) WS 0 (lv_args 0 av) []) : mH l y wsy R G D tys av (WS ++ F) mc ms r post WSf := by
  intro sz
  refine va_MetW (cc := cc) (maxL := maxL) (ret := some ty) hy hw ?_
  intro p e s m args below meth c s₁ B hml hv
  obtain ⟨rfl, hsz, hP, hK, hD0, hGv⟩ := hv
  have hts := atoms_spec (ws := wsy) B.pre
  have hown : s.vm.findClass y.cls = some m.cls := findClass_of_methodNamed B.named
  have htb := vx_table (x := y) B (hts _ (by rw [hw]; exact List.mem_cons_self))
  subst hsz
  have hD := hD0.self (sz := s.heap.size)
  rw [lg_entry_eq]
  exact h p e s m _ below meth c _ htb ⟨B.exec, B.bytes, B.returns, hml, hown, hts, B.notSynchronized, hK, fun q h => Or.inr h, hG, hGv⟩ s.heap [] _ hP hD va_S.rf (lv_entry av hlen)
theorem v_hret {S : Type} {post : S → Prop} {WSf : S → va_W} {mc ms : Nat} {r r' : Int32} (X : vX p s m args meth c cc nL (some .int) own Ts D tys G A) (u : S) (hu : post u) (hWS : WSf u = ws ++ F) (hr : r' = r) (hc : cells ≤ mc) (hs : slots ≤ ms) (d : decode cc pc = .ok (.ireturn, 1)) : vW p l e R s m args below meth c nL D A F cells slots (MQ below (va_Qi (fun (r' : Int32) (u : S) => r' = r ∧ post u) (fun u t => va_P D vwCl (WSf u) t.heap ∧ va_K D vwCl tys t ∧ va_D A (WSf u)) A) args s mc ms A) ws pc lv [.int r'] :=
  fun H locs ls hP hD hS hl => W.widen hc hs (W.iret (v := r') X.1 X.2.1 X.2.2.1 (fun t ht hW => ⟨⟨r', u, rfl, ⟨hr, hu⟩, by show va_P D vwCl (WSf u) t.heap ∧ va_K D vwCl tys t ∧ va_D A (WSf u); rw [hWS]; exact va_W_blind ht hP X.2.2.2.2.2.2.2.1 hW.alike hD⟩, hS.F ht⟩) hS.2.2 d X.2.2.2.2.2.2.1)
theorem v_i2l (X : vX p s m args meth c cc nL ret own Ts D tys G A) {x : Int32} (d : decode cc pc = .ok (.i2l, 1)) (q : Nat) (hq : pc + 1 = q) (K : vW p l e R s m args below meth c nL D A F cells slots Q ws q lv (.long x.toInt64 :: st)) : vW p l e R s m args below meth c nL D A F cells slots Q ws pc lv (.int x :: st) := by
  subst hq
  exact fun H locs ls hP hD hS hl => lv_i2l X.1 X.2.1 d rfl (K H locs ls hP hD hS hl)
theorem v_lconst (X : vX p s m args meth c cc nL ret own Ts D tys G A) {n : Fin 2} {v : Int64} (d : decode cc pc = .ok (.lconst n, 1)) (hv : Int64.ofNat (n : Nat) = v) (q : Nat) (hq : pc + 1 = q) (K : vW p l e R s m args below meth c nL D A F cells slots Q ws q lv (.long v :: st)) : vW p l e R s m args below meth c nL D A F cells slots Q ws pc lv st := by
  subst hq
  exact fun H locs ls hP hD hS hl => lv_lconst X.1 X.2.1 d hv (K H locs ls hP hD hS hl)
theorem v_last (X : vX p s m args meth c cc nL ret own Ts D tys G A) {a n : Nat} {cA : ClassId} {f : Nat → Int64} {i : Int32} {x : Int64} {ws' : va_W} (d : decode cc pc = .ok (.lastore, 1)) (q0 t0 : Nat) (ha : ws[q0]? = some (a, .inl (cA, n, .inr (.inl f)))) (ht : tys[t0]? = some (cA, .long)) (hin : vp_in i n) (hw : ws.set q0 (a, .inl (cA, n, .inr (.inl (vp_updL f i.toNatClampNeg x)))) = ws') (q : Nat) (hq : pc + 1 = q) (K : vW p l e R s m args below meth c nL D A F cells slots Q ws' q lv st) : vW p l e R s m args below meth c nL D A F cells slots Q ws pc lv (.long x :: .int i :: .ref a :: st) := by
  subst hq
  exact fun H locs ls hP hD hS hl => va_last X.1 X.2.1 X.2.2.2.2.2.2.2.1 hP hD hS q0 t0 (app_at ha) ht hin d (fun H1 l1 hP hD hS => K H1 l1 ls (by rw [app_set ha hw] at hP; exact hP) (by rw [app_set ha hw] at hD; exact hD) hS hl)
theorem v_lald (X : vX p s m args meth c cc nL ret own Ts D tys G A) {a n : Nat} {cA : ClassId} {f : Nat → Int64} {i : Int32} (d : decode cc pc = .ok (.laload, 1)) (q0 t0 : Nat) (ha : ws[q0]? = some (a, .inl (cA, n, .inr (.inl f)))) (ht : tys[t0]? = some (cA, .long)) (hin : vp_in i n) (q : Nat) (hq : pc + 1 = q) (K : vW p l e R s m args below meth c nL D A F cells slots Q ws q lv (.long (f i.toNatClampNeg) :: st)) : vW p l e R s m args below meth c nL D A F cells slots Q ws pc lv (.int i :: .ref a :: st) := by
  subst hq
  exact fun H locs ls hP hD hS hl => va_lald X.1 X.2.1 X.2.2.2.2.2.2.2.1 hP q0 t0 (app_at ha) ht hin d (K H locs ls hP hD hS hl)
theorem v_lcmp (X : vX p s m args meth c cc nL ret own Ts D tys G A) {x y : Int64} (d : decode cc pc = .ok (.lcmp, 1)) (q : Nat) (hq : pc + 1 = q) (K : vW p l e R s m args below meth c nL D A F cells slots Q ws q lv (.int (lg_cmp x y) :: st)) : vW p l e R s m args below meth c nL D A F cells slots Q ws pc lv (.long y :: .long x :: st) := by
  subst hq
  exact fun H locs ls hP hD hS hl => W.lcmp X.1 X.2.1 d (K H locs ls hP hD hS hl)
theorem v_catch (X : vX p s m args meth c cc nL ret own Ts D tys G A) {E name : String} {rest : List Value} (pre : List ExceptionTableEntry) (x : ExceptionTableEntry) (suf : List ExceptionTableEntry) (hsplit : c.exceptionTable.toList = pre ++ x :: suf) (hpass : ∀ z ∈ pre, covers z pc = false ∨ (z.catchType ≠ 0 ∧ ∃ nm : String, Cond.classLink own z.catchType nm ∈ Ts ∧ va_Nc E nm s)) (hx : covers x pc = true) (h0 : x.catchType ≠ 0) (hlink : Cond.classLink own x.catchType name ∈ Ts) (hcast : Cond.castable E name ∈ nestW) (hp : Nat) (hhp : x.handlerPc = hp) (K : ∀ q9 : Nat, vW p l e R s m args below meth c nL D A F cells slots Q ws hp lv [.ref q9]) : vWx p l e R s m args below meth c nL D A F cells slots Q ws pc lv rest E := by
  subst hhp
  exact fun H locs ls q9 ce hP hD hS hl h9 hv hcl => vx_catch X.2.2.2.2.1 pre x suf hsplit (fun z hz => (hpass z hz).imp id (fun h => ⟨h.1, h.2.choose, X.2.2.2.2.2.1 _ h.2.choose_spec.1, h.2.choose_spec.2⟩)) hx h0 (X.2.2.2.2.2.1 _ hlink) (vN_use X hcast) h9 hv hcl (K q9 H locs ls hP hD hS hl)
theorem v_hcallS (X : vX p s m args meth c cc nL ret own Ts D tys G A) {S : Type} {post : S → Prop} {WSf ws' F' : S → va_W} {y : MethodName} {wsy wsy' : List Cond} {rmy : Room} {bytes : ByteArray} {maxL index : Nat} {mc ms : Nat} {As rest : List Value} {hh : List (Nat × Nat × Nat × Nat)} {r : Int32} {ty : FieldType} (hM : mH l y wsy rmy G D tys As (ws ++ F) mc ms r post WSf) (n : Nat) (hT : GoodIn Ts (va_wsS own index y wsy)) (hw : wsy = Cond.codeWith y bytes maxL (some ty) hh :: wsy') (hrc : rmy.cells = mc) (hrs : rmy.slots = ms) (hd : y.cls ≠ "java/lang/invoke/MethodHandle" ∧ y.cls ≠ "java/lang/invoke/VarHandle" ∧ (parseMethodDescriptor y.desc).map (fun d => d.parameters.length) = some n) (hR : rmy.frames + 1 ≤ R.frames ∧ 8 + (maxL + 11) + rmy.locals ≤ R.locals)
    (hn : As.length = n) (hst : st = As.reverse ++ rest) (hW : (rest.map fun v => v.category).sum ≤ 8) (hf : cells + mc ≤ R.cells ∧ slots + ms ≤ R.slots) (hWS : ∀ u, WSf u = ws' u ++ F' u)
    (d : decode cc pc = .ok (.invokestatic index, 3)) (q : Nat) (hq : pc + 3 = q) (K : ∀ u, post u → vW p l e R s m args below meth c nL D A (F' u) (cells + mc) (slots + ms) Q (ws' u) q lv (.int r :: rest)) : vW p l e R s m args below meth c nL D A F cells slots Q ws pc lv st := by
  subst hq
  subst hst
  intro H locs ls hP hD hS hl
  have hFc := v_free X.2.2.2.2.2.2.2.2.1 hD hS
  refine va_calli (vx_runSW ⟨X.1, X.2.1, X.2.2.2.1, X.2.2.2.2.1, X.2.2.2.2.2.1⟩ (hM H.size) (vx_cwSW n X.2.2.2.2.2.1 hT hw hrc hrs hd hR) ⟨pW_blind X.2.2.2.2.2.2.2.2.2.1, v_pcw X.2.2.2.2.2.2.2.2 hP hD hS X.2.2.2.2.2.2.2.1 hFc⟩ rfl hn hl.1 rfl (lv_room hW) d hf) hS (fun q _ h => hFc q h) (fun q h => hFc q h) (fun r' u t H1 locs1 ht hvm hpost hB hz1 hk1 hS => ?_)
  obtain ⟨rfl, hu⟩ := hpost
  obtain ⟨hP1, hK1, hD1⟩ := hB
  rw [ht, hWS u] at hP1
  rw [hWS u] at hD1
  exact K u hu H1 locs1 ls hP1 (hD1.weaken (fun _ _ _ h => hFc _ h)) hS hl
end VLw
