/-! New objects and arrays, nulls, arrays of references; contracts whose world behind is one of many; worlds in another order. -/
theorem va_D_iff {A : Nat → Prop} {ws : va_W} : va_D A ws ↔ (ws.map Prod.fst).Nodup ∧ ∀ q ∈ ws, A q.1 := by
  constructor
  · intro h
    refine ⟨?_, fun q hq => ?_⟩
    · rw [List.nodup_iff_pairwise_ne, List.pairwise_iff_getElem]
      intro i j hi hj hij e
      rw [List.length_map] at hi hj
      rw [List.getElem_map, List.getElem_map] at e
      have := h.1 i j _ _ (List.getElem?_eq_getElem hi) (List.getElem?_eq_getElem hj) e
      omega
    · obtain ⟨k, hk⟩ := List.getElem?_of_mem hq
      exact h.2 k q hk
  · intro h
    refine ⟨fun i j p q hi hj e => ?_, fun k q hk => h.2 q (List.mem_of_getElem? hk)⟩
    have hl : i < (ws.map Prod.fst).length := by rw [List.length_map]; exact (List.getElem?_eq_some_iff.mp hi).1
    exact (List.getElem?_inj hl h.1).mp (by
      rw [List.getElem?_map, List.getElem?_map, hi, hj]
      show some p.1 = some q.1
      rw [e])
theorem va_D_perm {A : Nat → Prop} {a b : va_W} (h : a.Perm b) (hD : va_D A a) : va_D A b := va_D_iff.mpr ⟨(h.map Prod.fst).nodup_iff.mp (va_D_iff.mp hD).1, fun q hq => (va_D_iff.mp hD).2 q (h.mem_iff.mpr hq)⟩
theorem va_P_perm {D : va_G} {cl : List vw_C} {H : Heap} {a b : va_W} (h : a.Perm b) (hP : va_P D cl a H) : va_P D cl b H := va_P_of fun _ hq => va_P_mem hP (h.mem_iff.mpr hq)
theorem perm_back {ws F : va_W} {x : Nat × va_E} : ((ws ++ F) ++ [x]).Perm ((ws ++ [x]) ++ F) := by
  rw [List.append_assoc, List.append_assoc]
  exact (List.perm_append_comm (l₁ := F) (l₂ := [x])).append_left ws
theorem va_W_blind {D : va_G} {tys : List (ClassId × FieldType)} {A : Nat → Prop} {W : va_W} {H : Heap} {t : State} (ht : t.heap = H) {s : State} (hP : va_P D vwCl W H) (hK : va_K D vwCl tys s) (hvm : s.vm.Alike t.vm) (hD : va_D A W) : va_P D vwCl W t.heap ∧ va_K D vwCl tys t ∧ va_D A W := ⟨by rw [ht]; exact hP, va_K.moved hvm hK, hD⟩
/-- a contract that comes back with nothing: its world behind is one of many -/
def eN {S : Type} (D : va_G) (tys : List (ClassId × FieldType)) (A : Nat → Prop) (post : S → Prop) (WSf : S → va_W) : Array Value → State → Outcome → State → Prop := va_Qv post (fun u t => va_P D vwCl (WSf u) t.heap ∧ va_K D vwCl tys t ∧ va_D A (WSf u)) A
def mN {S : Type} (l : Launch) (y : MethodName) (ws : List Cond) (rm : Room) (G : (Nat → Prop) → State → Heap → Prop) (D : va_G) (tys : List (ClassId × FieldType)) (av : List Value) (WS F : va_W) (mc ms : Nat) (post : S → Prop) (WSf : S → va_W) : Prop := ∀ sz : Nat, Met l y ws rm (va_Pc av (pW G D tys sz (WS ++ F))) (eN D tys (va_A (WS ++ F) sz) post WSf) mc ms (va_A (WS ++ F) sz)
section VN
variable {p : Program} {l : Launch} {e : Env} {R : Room} {s : State} {m : MethodId} {args : Array Value} {below : List Frame} {meth : Method} {c : Code} {cc : ByteArray} {nL : Nat} {ret : Option FieldType} {own : String} {Ts : List Cond} {D : va_G} {tys : List (ClassId × FieldType)} {G : (Nat → Prop) → State → Heap → Prop} {A : Nat → Prop} {F : va_W} {cells slots : Nat} {Q : State → Prop} {ws : va_W} {pc : Nat} {lv : List (Nat × Value)} {st : List Value}
theorem v_perm {ws' F' : va_W} (h : (ws ++ F).Perm (ws' ++ F')) (K : vW p l e R s m args below meth c nL D A F' cells slots Q ws' pc lv st) : vW p l e R s m args below meth c nL D A F cells slots Q ws pc lv st := fun H locs ls hP hD hS hl => K H locs ls (va_P_perm h hP) (va_D_perm h hD) hS hl
theorem mN_of {S : Type} {post : S → Prop} {WSf : S → va_W} (hG : vG G) {y : MethodName} {wsy ws' : List Cond} {maxL : Nat} {av : List Value} {WS : va_W} {mc ms : Nat} (hy : plainName y.cls = true) (hw : wsy = Cond.code y cc maxL none :: ws') (hlen : (lg_sl av).length ≤ maxL)
    (h : ∀ (p : Program) (e : Env) (s : State) (m : MethodId) (args : Array Value) (below : List Frame) (meth : Method) (c : Code) (A : Nat → Prop), meth.name = y.name → vX p s m args meth c cc maxL none y.cls wsy D tys G A → vW p l e R s m args below meth c maxL D A F 0 0 (MQ below (eN D tys A post WSf) args s mc ms A) WS 0 (lv_args 0 av) []) : mN l y wsy R G D tys av WS F mc ms post WSf := by
  intro sz
  refine Met.ofW (cc := cc) (maxL := maxL) (ret := none) hy hw ?_
  intro p e s m args below meth c s₁ B hml hv
  obtain ⟨rfl, hsz, hP, hK, hD0, hGv⟩ := hv
  have hts := atoms_spec (ws := wsy) B.pre
  have hown : s.vm.findClass y.cls = some m.cls := findClass_of_methodNamed B.named
  have hnm := (name_of_methodNamed B.named B.method).1
  subst hsz
  have hD := hD0.self (sz := s.heap.size)
  rw [lg_entry_eq]
  exact h p e s m _ below meth c _ hnm ⟨B.exec, B.bytes, B.returns, hml, hown, hts, B.notSynchronized, hK, fun q h => Or.inr h, hG, hGv⟩ s.heap [] _ hP hD va_S.rf (lv_entry av hlen)
theorem v_nret {S : Type} {post : S → Prop} {WSf : S → va_W} {mc ms : Nat} (u : S) (hu : post u) (h : (ws ++ F).Perm (WSf u)) (X : vX p s m args meth c cc nL none own Ts D tys G A) (hc : cells ≤ mc) (hs : slots ≤ ms) (d : decode cc pc = .ok (.return_, 1)) : vW p l e R s m args below meth c nL D A F cells slots (MQ below (eN D tys A post WSf) args s mc ms A) ws pc lv [] :=
  fun H locs ls hP hD hS hl => W.widen hc hs (W.vret X.1 X.2.1 X.2.2.1 (fun t ht hW => ⟨⟨u, rfl, hu, va_W_blind ht (va_P_perm h hP) X.2.2.2.2.2.2.2.1 hW.alike (va_D_perm h hD)⟩, hS.F ht⟩) hS.2.2 d X.2.2.2.2.2.2.1)
theorem v_new (X : vX p s m args meth c cc nL ret own Ts D tys G A) {C : String} {T : u_T} {N ci index : Nat} {fs : List Value} (d : decode cc pc = .ok (.new index, 3)) (hin : ∀ w ∈ u_ws C T N, w ∈ Ts) (ty : Nat → FieldType) (hty : ∀ k, k < N → parseFieldDescriptor (T k).2.2.1 = some (ty k)) (hcl : Cond.classLink own index C ∈ Ts) (hinst : Cond.instantiable C N ∈ Ts) (hini : Cond.initialized C ∈ Ts) (hc : vwCl[ci]? = some (C, T, N)) (hfs : ∀ j, j < N → defaultValue (ty j) = vp_V fs j) (hcells : cells + 1 ≤ R.cells) (hslots : slots + N ≤ R.slots) (q : Nat) (hq : pc + 3 = q) (K : ∀ a : Nat, vW p l e R s m args below meth c nL D A F (cells + 1) (slots + N) Q (ws ++ [(a, .inr (ci, fs))]) q lv (.ref a :: st)) : vW p l e R s m args below meth c nL D A F cells slots Q ws pc lv st := by
  subst hq
  exact fun H locs ls hP hD hS hl => va_new X.1 X.2.1 X.2.2.2.2.2.1 hin ty hty X.2.2.2.2.1 (X.2.2.2.2.2.1 _ hcl) (X.2.2.2.2.2.1 _ hinst) (X.2.2.2.2.2.1 _ hini) X.2.2.2.2.2.2.2.1 hP hD hS X.2.2.2.2.2.2.2.2.1 hc hfs hcells hslots d (fun a H1 hP hD hS => K a H1 locs ls (va_P_perm perm_back hP) (va_D_perm perm_back hD) hS hl)
theorem v_newa (X : vX p s m args meth c cc nL ret own Ts D tys G A) {atype : ArrayType} {ty : FieldType} {cA : ClassId} {n : Int32} {N' : Nat} {a0 : vp_A} (d : decode cc pc = .ok (.newarray atype, 2)) (harr : Cond.arrayClass (newarray.typeOf atype) ∈ Ts) (hty : newarray.typeOf atype = ty) (t0 : Nat) (ht : tys[t0]? = some (cA, ty)) (hpr : ∀ c1 c2 : ClassId, va_RA s c1 ty → va_RA s c2 ty → c1 = c2) (ha : ∀ cA : ClassId, vp_cell cA a0 = arrV cA N' (fun _ => defaultValue ty)) (hn : ¬ n < 0) (hN : n.toNatClampNeg = N') (hbytes : N' * componentBytes ty ≤ 536870912) (hcells : cells + 1 ≤ R.cells) (hslots : slots + N' ≤ R.slots) (q : Nat) (hq : pc + 2 = q) (K : ∀ a : Nat, vW p l e R s m args below meth c nL D A F (cells + 1) (slots + N') Q (ws ++ [(a, .inl (cA, a0))]) q lv (.ref a :: st)) : vW p l e R s m args below meth c nL D A F cells slots Q ws pc lv (.int n :: st) := by
  subst hq
  exact fun H locs ls hP hD hS hl => va_newa X.1 X.2.1 (X.2.2.2.2.2.1 _ harr) hty X.2.2.2.2.2.2.2.1 hP hD hS X.2.2.2.2.2.2.2.2.1 ha hn hN hbytes hcells hslots d (fun a cB H1 hK2 hP hD hS => by
    have e1 : cB = cA := hpr _ _ (hK2.2 tys.length (cB, ty) (by simp)).2 (X.2.2.2.2.2.2.2.1.2 t0 _ ht).2
    rw [e1] at hP hD
    exact K a H1 locs ls (va_P_perm perm_back hP) (va_D_perm perm_back hD) hS hl)
theorem v_newq (X : vX p s m args meth c cc nL ret own Ts D tys G A) {C : String} {index : Nat} {cA : ClassId} {n : Int32} {N' : Nat} (d : decode cc pc = .ok (.anewarray index, 3)) (hcl : Cond.classLink own index C ∈ Ts) (hov : va_AO C s) (t0 : Nat) (ht : tys[t0]? = some (cA, .object C)) (hn : ¬ n < 0) (hN : n.toNatClampNeg = N') (hbytes : N' * 4 ≤ 536870912) (hcells : cells + 1 ≤ R.cells) (hslots : slots + N' ≤ R.slots) (q : Nat) (hq : pc + 3 = q) (K : ∀ a : Nat, vW p l e R s m args below meth c nL D A F (cells + 1) (slots + N') Q (ws ++ [(a, .inl (cA, N', .inr (.inr (.inr (.inr (fun _ => none))))))]) q lv (.ref a :: st)) : vW p l e R s m args below meth c nL D A F cells slots Q ws pc lv (.int n :: st) := by
  subst hq
  exact fun H locs ls hP hD hS hl => va_newq X.1 X.2.1 X.2.2.2.2.1 (X.2.2.2.2.2.1 _ hcl) hov X.2.2.2.2.2.2.2.1 hP hD hS X.2.2.2.2.2.2.2.2.1 hn hN hbytes hcells hslots d (fun a cB H1 hK2 hP hD hS => by
    have e1 : cB = cA := by
      obtain ⟨-, -, -, -, -, h1⟩ := (hK2.2 tys.length (cB, .object C) (by simp)).2
      obtain ⟨-, -, -, -, -, h2⟩ := (X.2.2.2.2.2.2.2.1.2 t0 _ ht).2
      exact Option.some.inj (h1.symm.trans h2)
    rw [e1] at hP hD
    exact K a H1 locs ls (va_P_perm perm_back hP) (va_D_perm perm_back hD) hS hl)
theorem v_oinit (X : vX p s m args meth c cc nL ret own Ts D tys G A) {index a : Nat} (d : decode cc pc = .ok (.invokespecial index, 3)) (hlink : Cond.methodLink own index Lib.objectInit ∈ Ts) (hinst : Cond.instanceMethod Lib.objectInit ∈ Ts) (hcode : Cond.code Lib.objectInit ⟨#[0xb1]⟩ 1 none ∈ Ts) (hfr : 1 ≤ R.frames) (hlo : (st.map fun v => v.category).sum + 12 ≤ R.locals) (q : Nat) (hq : pc + 3 = q) (K : vW p l e R s m args below meth c nL D A F cells slots Q ws q lv st) : vW p l e R s m args below meth c nL D A F cells slots Q ws pc lv (.ref a :: st) := by
  subst hq
  exact fun H locs ls hP hD hS hl => W.objInit X.1 X.2.1 X.2.2.2.2.1 (X.2.2.2.2.2.1 _ hlink) (X.2.2.2.2.2.1 _ hinst) (X.2.2.2.2.2.1 _ hcode) rfl (by rw [X.2.2.2.1]; exact hl.1) rfl d hfr (by show 2 * 0 + (st.map fun v => v.category).sum + 12 ≤ R.locals; omega) (W.eq (g2 := F0 m (pc + 3) ls st) rfl (K H locs ls hP hD hS hl))
theorem v_aldq (X : vX p s m args meth c cc nL ret own Ts D tys G A) {a n : Nat} {cA : ClassId} {C : String} {f : Nat → Option Nat} {i : Int32} (d : decode cc pc = .ok (.aaload, 1)) (q0 t0 : Nat) (ha : ws[q0]? = some (a, .inl (cA, n, .inr (.inr (.inr (.inr f)))))) (ht : tys[t0]? = some (cA, .object C)) (hin : vp_in i n) (q : Nat) (hq : pc + 1 = q) (K : vW p l e R s m args below meth c nL D A F cells slots Q ws q lv (va_rf (f i.toNatClampNeg) :: st)) : vW p l e R s m args below meth c nL D A F cells slots Q ws pc lv (.int i :: .ref a :: st) := by
  subst hq
  exact fun H locs ls hP hD hS hl => va_aldq X.1 X.2.1 X.2.2.2.2.2.2.2.1 hP q0 t0 (app_at ha) ht hin d (K H locs ls hP hD hS hl)
theorem v_astq (X : vX p s m args meth c cc nL ret own Ts D tys G A) {a n v : Nat} {cA : ClassId} {r : vw_C} {vs : List Value} {f : Nat → Option Nat} {i : Int32} {ws' : va_W} (d : decode cc pc = .ok (.aastore, 1)) (q0 t0 qk ci : Nat) (ha : ws[q0]? = some (a, .inl (cA, n, .inr (.inr (.inr (.inr f)))))) (ht : tys[t0]? = some (cA, .object r.1)) (hv : ws[qk]? = some (v, .inr (ci, vs))) (hc : vwCl[ci]? = some r) (hin : vp_in i n) (hw : ws.set q0 (a, .inl (cA, n, .inr (.inr (.inr (.inr (va_up f i.toNatClampNeg (some v))))))) = ws') (q : Nat) (hq : pc + 1 = q) (K : vW p l e R s m args below meth c nL D A F cells slots Q ws' q lv st) : vW p l e R s m args below meth c nL D A F cells slots Q ws pc lv (.ref v :: .int i :: .ref a :: st) := by
  subst hq
  exact fun H locs ls hP hD hS hl => va_astq X.1 X.2.1 X.2.2.2.2.2.2.2.1 hP hD hS q0 t0 qk ci (app_at ha) ht (app_at hv) hc hin d (fun H1 l1 hP hD hS => K H1 l1 ls (by rw [app_set ha hw] at hP; exact hP) (by rw [app_set ha hw] at hD; exact hD) hS hl)
theorem v_null (X : vX p s m args meth c cc nL ret own Ts D tys G A) (d : decode cc pc = .ok (.aconst_null, 1)) (q : Nat) (hq : pc + 1 = q) (K : vW p l e R s m args below meth c nL D A F cells slots Q ws q lv (.null :: st)) : vW p l e R s m args below meth c nL D A F cells slots Q ws pc lv st := by
  subst hq
  exact fun H locs ls hP hD hS hl => lv_null X.1 X.2.1 d (K H locs ls hP hD hS hl)
theorem v_ifnull (X : vX p s m args meth c cc nL ret own Ts D tys G A) {a : Nat} {off : Int} (d : decode cc pc = .ok (.ifnull off, 3)) (q : Nat) (hq : pc + 3 = q) (K : vW p l e R s m args below meth c nL D A F cells slots Q ws q lv st) : vW p l e R s m args below meth c nL D A F cells slots Q ws pc lv (.ref a :: st) := by
  subst hq
  exact fun H locs ls hP hD hS hl => lv_ifnull X.1 X.2.1 d (K H locs ls hP hD hS hl)
theorem v_ifnullN (X : vX p s m args meth c cc nL ret own Ts D tys G A) {off : Int} {tgt : Nat} (d : decode cc pc = .ok (.ifnull off, 3)) (ht : (pc : Int) + off = (tgt : Int)) (K : vW p l e R s m args below meth c nL D A F cells slots Q ws tgt lv st) : vW p l e R s m args below meth c nL D A F cells slots Q ws pc lv (.null :: st) :=
  fun H locs ls hP hD hS hl => lv_ifnullN X.1 X.2.1 d ht (K H locs ls hP hD hS hl)
theorem v_ifnn (X : vX p s m args meth c cc nL ret own Ts D tys G A) {a : Nat} {off : Int} {tgt : Nat} (d : decode cc pc = .ok (.ifnonnull off, 3)) (ht : (pc : Int) + off = (tgt : Int)) (K : vW p l e R s m args below meth c nL D A F cells slots Q ws tgt lv st) : vW p l e R s m args below meth c nL D A F cells slots Q ws pc lv (.ref a :: st) :=
  fun H locs ls hP hD hS hl => lv_ifnonnull X.1 X.2.1 d ht (K H locs ls hP hD hS hl)
theorem v_ifnnN (X : vX p s m args meth c cc nL ret own Ts D tys G A) {off : Int} (d : decode cc pc = .ok (.ifnonnull off, 3)) (q : Nat) (hq : pc + 3 = q) (K : vW p l e R s m args below meth c nL D A F cells slots Q ws q lv st) : vW p l e R s m args below meth c nL D A F cells slots Q ws pc lv (.null :: st) := by
  subst hq
  exact fun H locs ls hP hD hS hl => lv_ifnonnullN X.1 X.2.1 d (K H locs ls hP hD hS hl)
theorem v_aloadN_n (X : vX p s m args meth c cc nL ret own Ts D tys G A) {k : Fin 4} {i : Nat} (d : decode cc pc = .ok (.aload_n k, 1)) (kk : Nat) (hk : lv[kk]? = some (i, .null)) (hi : (k : Nat) = i) (q : Nat) (hq : pc + 1 = q) (K : vW p l e R s m args below meth c nL D A F cells slots Q ws q lv (.null :: st)) : vW p l e R s m args below meth c nL D A F cells slots Q ws pc lv st := by
  subst hq
  exact fun H locs ls hP hD hS hl => lv_aload_nN X.1 X.2.1 d hi (lv_at hl kk hk) (K H locs ls hP hD hS hl)
theorem v_astoreN_n (X : vX p s m args meth c cc nL ret own Ts D tys G A) {k : Fin 4} {i : Nat} {lv' : List (Nat × Value)} (d : decode cc pc = .ok (.astore_n k, 1)) (hi : (k : Nat) = i) (hn : i < nL) (hl' : (i, Value.null) :: lv.filter (fun q => !(q.1 == i) && !(q.1 + 1 == i && q.2.category == 2)) = lv') (q : Nat) (hq : pc + 1 = q) (K : vW p l e R s m args below meth c nL D A F cells slots Q ws q lv' st) : vW p l e R s m args below meth c nL D A F cells slots Q ws pc lv (.null :: st) := by
  subst hq
  exact fun H locs ls hP hD hS hl => lv_astore_nN X.1 X.2.1 d hi hl hn hl' (fun ls hl => K H locs ls hP hD hS hl)
theorem v_callIn (X : vX p s m args meth c cc nL ret own Ts D tys G A) {S : Type} {post : S → Prop} {WSf : S → va_W} {y : MethodName} {wsy wsy' : List Cond} {rmy : Room} {bytes : ByteArray} {maxL index : Nat} {mc ms : Nat} {WC : va_W} {ws' : S → va_W} {As rest : List Value} {b : Nat} (hM : mN l y wsy rmy G D tys (.ref b :: As) WC [] mc ms post WSf) (n : Nat) (hT : GoodIn Ts wsy) (hw : wsy = Cond.code y bytes maxL none :: wsy') (hrc : rmy.cells = mc) (hrs : rmy.slots = ms) (hini : Cond.initialized y.cls ∈ Ts) (hlk : Cond.methodLink own index y ∈ Ts) (hinm : Cond.instanceMethod y ∈ Ts) (hy1 : y.name = "<init>") (hd : y.cls ≠ "java/lang/invoke/MethodHandle" ∧ y.cls ≠ "java/lang/invoke/VarHandle" ∧ (parseMethodDescriptor y.desc).map (fun d => d.parameters.length) = some n) (hR : rmy.frames + 1 ≤ R.frames ∧ 8 + (maxL + 11) + rmy.locals ≤ R.locals)
    (hn : As.length = n) (hst : st = As.reverse ++ .ref b :: rest) (hW : (rest.map fun v => v.category).sum ≤ 8) (hf : cells + mc ≤ R.cells ∧ slots + ms ≤ R.slots) (isC isR : List Nat) (is2 : List Nat) (hC : isC.map (fun i => ws[i]?) = WC.map some) (hR2 : isR.map (fun i => ws[i]?) = (wpick ws isR).map some) (h2 : ∀ u, is2.map (fun i => (wpick ws isR ++ WSf u)[i]?) = (ws' u).map some) (hnd : (va_nd isC && va_nd isR && va_nd is2 && isR.all (fun i => !isC.contains i)) = true)
    (d : decode cc pc = .ok (.invokespecial index, 3)) (q : Nat) (hq : pc + 3 = q) (K : ∀ u, post u → vW p l e R s m args below meth c nL D A F (cells + mc) (slots + ms) Q (ws' u) q lv rest) : vW p l e R s m args below meth c nL D A F cells slots Q ws pc lv st := by
  subst hq
  subst hst
  intro H locs ls hP hD hS hl
  simp only [Bool.and_eq_true] at hnd
  obtain ⟨⟨⟨hnC, hnR⟩, hn2⟩, hdis0⟩ := hnd
  have hdis : ∀ i ∈ isR, i ∉ isC := fun i hi hc => by
    have := List.all_eq_true.mp hdis0 i hi
    simp [hc] at this
  have hFc : ∀ q, va_A WC H.size q → A q := va_free (va_D_left hD) hS X.2.2.2.2.2.2.2.2.1 isC hC
  have hA9 : WC ++ [] = WC := List.append_nil WC
  refine va_callv (va_runI ⟨X.1, X.2.1, X.2.2.2.1, X.2.2.2.2.1, X.2.2.2.2.2.1⟩ (hM H.size) (cwI n X.2.2.2.2.2.1 hT hw hrc hrs (X.2.2.2.2.2.1 _ hini) (X.2.2.2.2.2.1 _ hlk) (X.2.2.2.2.2.1 _ hinm) hy1 hd hR) ⟨pW_blind X.2.2.2.2.2.2.2.2.2.1, v_pc X.2.2.2.2.2.2.2.2 hP hD hS X.2.2.2.2.2.2.2.1 isC hC hnC⟩ rfl hn hl.1 rfl (lv_room hW) d hf) hS (fun q _ h => hFc q (by rw [hA9] at h; exact h)) (fun q h => hFc q (by rw [hA9] at h; exact h)) (fun u t H1 locs1 ht hvm hpost hB hz1 hk1 hS => ?_)
  obtain ⟨hP1, hK1, hD1⟩ := hB
  rw [ht] at hP1
  simp only [List.append_nil] at hD1 hk1
  obtain ⟨hP, hD⟩ := vj hP hD isC isR is2 hC hR2 hnR hdis hn2 (h2 u) hk1 hFc hP1 hD1
  exact K u hpost H1 locs1 ls hP hD hS hl
theorem v_callINn (X : vX p s m args meth c cc nL ret own Ts D tys G A) {S : Type} {post : S → Prop} {WSf : S → va_W} {y : MethodName} {wsy wsy' : List Cond} {rmy : Room} {bytes : ByteArray} {maxL index : Nat} {mc ms : Nat} {WC : va_W} {ws' : S → va_W} {As rest : List Value} {b : Nat} {host : String} (hM : mN l y wsy rmy G D tys (.ref b :: As) WC [] mc ms post WSf) (n : Nat) (hT : GoodIn Ts wsy) (hw : wsy = Cond.code y bytes maxL none :: wsy') (hrc : rmy.cells = mc) (hrs : rmy.slots = ms) (hini : Cond.initialized y.cls ∈ Ts) (hlk : Cond.methodLinkNest own index y host ∈ nestW) (hinm : Cond.instanceMethod y ∈ Ts) (hy1 : y.name = "<init>") (hd : y.cls ≠ "java/lang/invoke/MethodHandle" ∧ y.cls ≠ "java/lang/invoke/VarHandle" ∧ (parseMethodDescriptor y.desc).map (fun d => d.parameters.length) = some n) (hR : rmy.frames + 1 ≤ R.frames ∧ 8 + (maxL + 11) + rmy.locals ≤ R.locals)
    (hn : As.length = n) (hst : st = As.reverse ++ .ref b :: rest) (hW : (rest.map fun v => v.category).sum ≤ 8) (hf : cells + mc ≤ R.cells ∧ slots + ms ≤ R.slots) (isC isR : List Nat) (is2 : List Nat) (hC : isC.map (fun i => ws[i]?) = WC.map some) (hR2 : isR.map (fun i => ws[i]?) = (wpick ws isR).map some) (h2 : ∀ u, is2.map (fun i => (wpick ws isR ++ WSf u)[i]?) = (ws' u).map some) (hnd : (va_nd isC && va_nd isR && va_nd is2 && isR.all (fun i => !isC.contains i)) = true)
    (d : decode cc pc = .ok (.invokespecial index, 3)) (q : Nat) (hq : pc + 3 = q) (K : ∀ u, post u → vW p l e R s m args below meth c nL D A F (cells + mc) (slots + ms) Q (ws' u) q lv rest) : vW p l e R s m args below meth c nL D A F cells slots Q ws pc lv st := by
  subst hq
  subst hst
  intro H locs ls hP hD hS hl
  simp only [Bool.and_eq_true] at hnd
  obtain ⟨⟨⟨hnC, hnR⟩, hn2⟩, hdis0⟩ := hnd
  have hdis : ∀ i ∈ isR, i ∉ isC := fun i hi hc => by
    have := List.all_eq_true.mp hdis0 i hi
    simp [hc] at this
  have hFc : ∀ q, va_A WC H.size q → A q := va_free (va_D_left hD) hS X.2.2.2.2.2.2.2.2.1 isC hC
  have hA9 : WC ++ [] = WC := List.append_nil WC
  refine va_callv (va_runIN ⟨X.1, X.2.1, X.2.2.2.1, X.2.2.2.2.1, X.2.2.2.2.2.1⟩ (hM H.size) (⟨va_cnB n X.2.2.2.2.2.1 hT hw hrc hrs (vN_use X hlk) (X.2.2.2.2.2.1 _ hini) hd hR, hy1, X.2.2.2.2.2.1 _ hinm⟩) ⟨pW_blind X.2.2.2.2.2.2.2.2.2.1, v_pc X.2.2.2.2.2.2.2.2 hP hD hS X.2.2.2.2.2.2.2.1 isC hC hnC⟩ rfl hn hl.1 rfl (lv_room hW) d hf) hS (fun q _ h => hFc q (by rw [hA9] at h; exact h)) (fun q h => hFc q (by rw [hA9] at h; exact h)) (fun u t H1 locs1 ht hvm hpost hB hz1 hk1 hS => ?_)
  obtain ⟨hP1, hK1, hD1⟩ := hB
  rw [ht] at hP1
  simp only [List.append_nil] at hD1 hk1
  obtain ⟨hP, hD⟩ := vj hP hD isC isR is2 hC hR2 hnR hdis hn2 (h2 u) hk1 hFc hP1 hD1
  exact K u hpost H1 locs1 ls hP hD hS hl
end VN
