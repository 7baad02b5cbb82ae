/-! Rows for built texts and rows of numbers: arrays over int arrays, references that come back, calls over a whole world, cells kept aside. -/
def va_AI (U : State) : Prop := (Cond.arrayOver (.array .int)).before #[] U = true
theorem va_AI.moved {u U : State} (hvm : u.vm.Alike U.vm) (h : va_AI u) : va_AI U := by
  obtain ⟨comp, c, k, h1, h2, h3, h4, h5⟩ := arrayOverA_spec h
  obtain ⟨k', hk', he⟩ := hvm.2.2 _ _ h3
  have hi : (U.vm.classes.findIdx? fun (x : Class) => match x.kind with | .array component _ => component == comp | _ => false) = some c := by
    rw [hvm.findIdx?_eq _ (fun _ => rfl)]
    exact h2
  have hkind : k'.kind = .array comp (.array .int) := by rw [he]; exact h4
  have f1 : U.vm.findClass (FieldType.array FieldType.int).toString = some comp := by rw [hvm.findClass]; exact h1
  have f2 : U.vm.findClass ("[" ++ (FieldType.array FieldType.int).toString) = some c := by rw [hvm.findClass]; exact h5
  unfold va_AI Cond.before Cond.holds
  simp only [Cond.value]
  rw [f1, Option.bind_some]
  refine (congrArg (fun o : Option Nat => (o.bind (fun c => (U.vm.classes[c]?).map fun (k : Class) => match k.kind with | .array _ ty => decide (ty = FieldType.array FieldType.int) && decide (U.vm.findClass ("[" ++ (FieldType.array FieldType.int).toString) = some c) | _ => false) == some true)) hi).trans ?_
  simp [hk', hkind, f2]
theorem va_AI.use {args : Array Value} {U : State} (h : va_AI U) : (Cond.arrayOver (.array .int)).before args U = true := by
  unfold va_AI Cond.before Cond.holds at h
  unfold Cond.before Cond.holds
  simp only [Cond.value] at h ⊢
  exact h
theorem ai_comp {s : State} {D : va_G} {tys : List (ClassId × FieldType)} {c0 cA : ClassId} (hK : va_K D vwCl tys s) (hA : va_AI s) {t0 t1 : Nat} (h0 : tys[t0]? = some (c0, .int)) (h1 : tys[t1]? = some (cA, .array .int)) : ∃ kA : Class, s.vm.classes[cA]? = some kA ∧ kA.kind = .array c0 (.array .int) ∧ ∃ kC : Class, s.vm.classes[c0]? = some kC := by
  obtain ⟨comp, c, k, g1, -, g3, g4, g5⟩ := arrayOverA_spec hA
  have e0 : comp = c0 := Option.some.inj (g1.symm.trans (hK.2 t0 _ h0).2)
  have e1 : c = cA := Option.some.inj (g5.symm.trans (hK.2 t1 _ h1).2)
  subst e0
  subst e1
  obtain ⟨kC, hkC, -⟩ := Vm.findClass_spec g1
  exact ⟨k, g3, g4, kC, hkC⟩
section V26
variable {p : Program} {l : Launch} {e : Env} {R : Room} {s : State} {m : MethodId} {args : Array Value} {below : List Frame} {meth : Method} {c : Code} {cc : ByteArray} {nL : Nat} {ret : Option FieldType} {own : String} {Ts : List Cond} {D : va_G} {tys : List (ClassId × FieldType)} {G G2 : (Nat → Prop) → State → Heap → Prop} {A : Nat → Prop} {F : va_W} {cells slots : Nat} {Q : State → Prop} {ws W0 : va_W} {pc : Nat} {lv : List (Nat × Value)} {st : List Value}
theorem v_dup_x1 (X : vX p s m args meth c cc nL ret own Ts D tys G A) {x y : Value} (d : decode cc pc = .ok (.dup_x1, 1)) (hx : x.category = 1) (hy : y.category = 1) (q : Nat) (hq : pc + 1 = q) (K : vW p l e R s m args below meth c nL D A F cells slots Q ws q lv (x :: y :: x :: st)) : vW p l e R s m args below meth c nL D A F cells slots Q ws pc lv (x :: y :: st) := by
  subst hq
  exact fun H locs ls hP hD hS hl => lv_dup_x1 X.1 X.2.1 d hx hy (K H locs ls hP hD hS hl)
theorem v_ti (X : vX p s m args meth c cc nL ret own Ts D tys G A) {t n : Nat} {f : Nat → Value} {v : Value} {i : Int32} (d : decode cc pc = .ok (.iaload, 1)) (hT : va_T .int t n f A s s.heap) (hin : vp_in i n) (hv : f i.toNatClampNeg = v) (q : Nat) (hq : pc + 1 = q) (K : vW p l e R s m args below meth c nL D A F cells slots Q ws q lv (v :: st)) : vW p l e R s m args below meth c nL D A F cells slots Q ws pc lv (.int i :: .ref t :: st) := by
  subst hq
  exact fun H locs ls hP hD hS hl => va_ti X.1 X.2.1 hT hS hin hv d (K H locs ls hP hD hS hl)
theorem v_aald (X : vX p s m args meth c cc nL ret own Ts D tys G A) {a n : Nat} {cA : ClassId} {f : Nat → Option Nat} {i : Int32} (d : decode cc pc = .ok (.aaload, 1)) (q0 t0 : Nat) (ha : ws[q0]? = some (a, .inl (cA, n, .inr (.inr (.inr (.inr f)))))) (ht : tys[t0]? = some (cA, .array .int)) (hin : vp_in i n) (q : Nat) (hq : pc + 1 = q) (K : vW p l e R s m args below meth c nL D A F cells slots Q ws q lv (va_rf (f i.toNatClampNeg) :: st)) : vW p l e R s m args below meth c nL D A F cells slots Q ws pc lv (.int i :: .ref a :: st) := by
  subst hq
  intro H locs ls hP hD hS hl
  have hlt : i.toNatClampNeg < n := Nat.not_le.mp fun q => hin (Or.inr q)
  exact W.aald (v := va_rf (f i.toNatClampNeg)) (ty := .array .int) X.1 X.2.1 (hP q0 _ (app_at ha)) ((X.2.2.2.2.2.2.2.1.2 t0 _ ht).1 n (fun j => va_rf (f j))) rfl (fun q => by cases q) (by show ¬ (i < 0 ∨ (arrV _ _ _).slots.size ≤ _); rw [arrV_size]; exact hin) (by show (arrV _ _ _).slots[_]? = _; rw [arrV_read _ _ hlt]) rfl rfl d (K H locs ls hP hD hS hl)
theorem v_aast (X : vX p s m args meth c cc nL ret own Ts D tys G A) {a n v : Nat} {cA c0 : ClassId} {x : vp_A} {f : Nat → Option Nat} {i : Int32} {ws' : va_W} (d : decode cc pc = .ok (.aastore, 1)) (hov : va_AI s) (q0 t0 t1 qk : Nat) (ha : ws[q0]? = some (a, .inl (cA, n, .inr (.inr (.inr (.inr f)))))) (ht : tys[t0]? = some (cA, .array .int)) (hv : (ws ++ F)[qk]? = some (v, .inl (c0, x))) (ht1 : tys[t1]? = some (c0, .int)) (hin : vp_in i n) (hw : ws.set q0 (a, .inl (cA, n, .inr (.inr (.inr (.inr (va_up f i.toNatClampNeg (some v))))))) = ws') (q : Nat) (hq : pc + 1 = q) (K : vW p l e R s m args below meth c nL D A F cells slots Q ws' q lv st) : vW p l e R s m args below meth c nL D A F cells slots Q ws pc lv (.ref v :: .int i :: .ref a :: st) := by
  subst hq
  intro H locs ls hP hD hS hl
  have hlt : i.toNatClampNeg < n := Nat.not_le.mp fun q => hin (Or.inr q)
  have h0 : ¬ i < 0 := fun q => hin (Or.inl q)
  obtain ⟨kA, k1, k2, kC, hkC⟩ := ai_comp X.2.2.2.2.2.2.2.1 hov ht1 ht
  have g1 : H[v]? = some (vp_cell c0 x) := hP qk _ hv
  have hvm0 : (vp_cell c0 x).vm = .none := by
    obtain ⟨n, f | f | f | f | f⟩ := x <;> rfl
  have hcl0 : (vp_cell c0 x).cls = c0 := by
    obtain ⟨n, f | f | f | f | f⟩ := x <;> rfl
  refine W.aast X.1 X.2.1 (hP q0 _ (app_at ha)) (fun q h => by cases h) (fun h => by cases h) k1 k2 rfl hkC ⟨h0, by show _ < (arrV _ _ _).slots.size; rw [arrV_size]; exact hlt⟩ g1 (fun q h => by rw [hvm0] at h; cases h) (by rw [hcl0]; exact hkC) (by rw [hcl0]; exact va_asg _ _) rfl rfl d fun H1 e z oq => ?_
  have hcell : H1[a]? = some (vp_cell cA (n, .inr (.inr (.inr (.inr (va_up f i.toNatClampNeg (some v))))))) := by
    rw [e]
    rw [vp_cell_q, vp_cell_q, arrV_store]
    congr 2
    funext q
    by_cases hq : q = i.toNatClampNeg
    · subst hq
      simp [updV, va_up, va_rf]
    · simp [updV, va_up, hq]
  exact K H1 _ ls (by rw [← app_set ha hw]; exact hP.set hD (app_at ha) hcell oq) (by rw [← app_set ha hw]; exact hD.set (app_at ha)) (hS.put z oq (hD.2 q0 _ (app_at ha))) hl
theorem v_newA (X : vX p s m args meth c cc nL ret own Ts D tys G A) {index : Nat} {cA : ClassId} {n : Int32} {N' : Nat} (d : decode cc pc = .ok (.anewarray index, 3)) (hcl : Cond.classLink own index "[I" ∈ Ts) (hov : va_AI s) (t0 : Nat) (ht : tys[t0]? = some (cA, .array .int)) (hn : ¬ n < 0) (hN : n.toNatClampNeg = N') (hbytes : N' * 4 ≤ 536870912) (hcells : cells + 1 ≤ R.cells) (hslots : slots + N' ≤ R.slots) (q : Nat) (hq : pc + 3 = q) (K : ∀ a : Nat, vW p l e R s m args below meth c nL D A F (cells + 1) (slots + N') Q (ws ++ [(a, .inl (cA, N', .inr (.inr (.inr (.inr (fun _ => none))))))]) q lv (.ref a :: st)) : vW p l e R s m args below meth c nL D A F cells slots Q ws pc lv (.int n :: st) := by
  subst hq
  subst hN
  intro H locs ls hP hD hS hl
  have e0 : (FieldType.array FieldType.int).toString = "[I" := by decide +kernel
  refine W.anewA (t := .int) X.1 X.2.1 X.2.2.2.2.1 (by rw [e0]; exact X.2.2.2.2.2.1 _ hcl) (va_AI.use hov) rfl d rfl hn hbytes hcells hslots fun cB kA comp f1 f2 f3 f4 => ?_
  have e1 : cB = cA := Option.some.inj (f1.symm.trans (X.2.2.2.2.2.2.2.1.2 t0 _ ht).2)
  subst e1
  generalize hH1 : H.push ({ cls := cB, slots := Array.replicate n.toNatClampNeg .null, vm := .none } : Cell) = H1
  have z1 : H1.size = H.size + 1 := by rw [← hH1, Array.size_push]
  have g1 : H1[H.size]? = some (arrV cB n.toNatClampNeg (fun _ => .null)) := by rw [← hH1, Array.getElem?_push_size, ← arrV_new]
  have o1 : ∀ q : Nat, q < H.size → H1[q]? = H[q]? := fun q hq => by rw [← hH1, Array.getElem?_push, if_neg (Nat.ne_of_lt hq)]
  have hk : ∀ (k : Nat) (x : Nat × va_E), (ws ++ F)[k]? = some x → H1[x.1]? = H[x.1]? := fun k x hx => o1 x.1 ((hP k x hx).lt)
  have hnew : va_P D vwCl [(H.size, .inl (cB, n.toNatClampNeg, .inr (.inr (.inr (.inr (fun _ => none))))))] H1 := fun k x hx => by
    have hz : k < 1 := (List.getElem?_eq_some_iff.mp hx).1
    rw [show k = 0 by omega] at hx
    cases hx
    show H1[H.size]? = some (vp_cell _ _)
    rw [vp_cell_q]
    exact g1
  exact K H.size H1 locs ls (va_P_perm perm_back ((hP.kept hk).app hnew)) (va_D_perm perm_back (hD.push hP rfl (X.2.2.2.2.2.2.2.2.1 _ hS.1))) ⟨Nat.le_trans hS.1 (by omega), fun x h1 h2 => (o1 x (Nat.lt_of_lt_of_le h1 hS.1)).trans (hS.2.1 x h1 h2), hS.2.2⟩ hl
theorem v_pick {ws' : va_W} (is : List Nat) (h : is.map (fun i => ws[i]?) = ws'.map some) (hn : va_nd is = true) (K : vW p l e R s m args below meth c nL D A F cells slots Q ws' pc lv st) : vW p l e R s m args below meth c nL D A F cells slots Q ws pc lv st := by
  intro H locs ls hP hD hS hl
  have inC : ∀ {q : Nat × va_E}, q ∈ ws' → ∃ i : Nat, ws[i]? = some q := by
    intro q hq
    obtain ⟨k, hk2⟩ := List.getElem?_of_mem hq
    have h3 : (is.map (fun i => ws[i]?))[k]? = some (some q) := by rw [h, List.getElem?_map, hk2]; rfl
    rw [List.getElem?_map] at h3
    cases hi : is[k]? with
    | none => rw [hi] at h3; cases h3
    | some i => rw [hi] at h3; exact ⟨i, Option.some.inj h3⟩
  refine K H locs ls ((va_P_of fun q hq => va_P_mem hP ?_).app (va_P_right hP)) (va_D.app ((va_D_left hD).sub is hn h) (va_D_right hD) (fun i j x y hx hy hxy => ?_)) hS hl
  · obtain ⟨i, hi⟩ := inC hq
    exact List.mem_append_left _ (List.mem_of_getElem? hi)
  · obtain ⟨i2, hi⟩ := inC (List.mem_of_getElem? hx)
    exact va_D_apart hD hi hy hxy
theorem v_copyb (X : vX p s m args meth c cc nL ret own Ts D tys G A) {index a a0 n0 n1 : Nat} {c0 c1 : ClassId} {f g : Nat → Int32} {sp dp k : Int32} {ws' : va_W} (d : decode cc pc = .ok (.invokestatic index, 3)) (h1 : Cond.methodLink own index arraycopyName ∈ Ts) (h2 : Cond.native arraycopyName ∈ Ts) (h3 : Cond.static arraycopyName ∈ Ts) (h4 : Cond.initialized "java/lang/System" ∈ Ts) (q0 q1 t0 t1 : Nat) (ha0 : ws[q0]? = some (a0, .inl (c0, n0, .inl f))) (ha1 : ws[q1]? = some (a, .inl (c1, n1, .inl g))) (ht0 : tys[t0]? = some (c0, .byte)) (ht1 : tys[t1]? = some (c1, .byte)) (g1 : ¬ sp < 0) (g2 : ¬ dp < 0) (g3 : ¬ k < 0) (g4 : sp.toNatClampNeg + k.toNatClampNeg ≤ n0) (g5 : dp.toNatClampNeg + k.toNatClampNeg ≤ n1) (hfit : ∀ j, fits .byte (.int (f j)) = true) (hw : ws.set q1 (a, .inl (c1, n1, .inl (va_cpy f g sp.toNatClampNeg dp.toNatClampNeg k.toNatClampNeg))) = ws') (hfr : 1 ≤ R.frames) (hlo : (st.map fun v => v.category).sum + (nativeFrameWords "java/lang/System" "arraycopy" 5 + 11) ≤ R.locals) (q : Nat) (hq : pc + 3 = q) (K : vW p l e R s m args below meth c nL D A F cells slots Q ws' q lv st) : vW p l e R s m args below meth c nL D A F cells slots Q ws pc lv (.int k :: .int dp :: .ref a :: .int sp :: .ref a0 :: st) := by
  subst hq
  exact fun H locs ls hP hD hS hl => va_copyi X.1 X.2.1 (X.2.2.2.1.trans hl.1.symm) X.2.2.2.2.1 (X.2.2.2.2.2.1 _ h1) (X.2.2.2.2.2.1 _ h2) (X.2.2.2.2.2.1 _ h3) (X.2.2.2.2.2.1 _ h4) X.2.2.2.2.2.2.2.1 hP hD hS q0 q1 t0 t1 (app_at ha0) (app_at ha1) ht0 ht1 rfl g1 g2 g3 g4 g5 (fun i _ => hfit _) hfr hlo d (fun H1 l1 hP hD hS => K H1 l1 ls (by rw [app_set ha1 hw] at hP; exact hP) (by rw [app_set ha1 hw] at hD; exact hD) hS hl)
theorem v_copyt (X : vX p s m args meth c cc nL ret own Ts D tys G A) {index a b0 n0 n1 : Nat} {c1 : ClassId} {f g : Nat → Int32} {sp dp k : Int32} {ws' : va_W} (d : decode cc pc = .ok (.invokestatic index, 3)) (h1 : Cond.methodLink own index arraycopyName ∈ Ts) (h2 : Cond.native arraycopyName ∈ Ts) (h3 : Cond.static arraycopyName ∈ Ts) (h4 : Cond.initialized "java/lang/System" ∈ Ts) (hX : va_T .byte b0 n0 (fun j => .int (f j)) A s s.heap) (q1 t1 : Nat) (ha1 : ws[q1]? = some (a, .inl (c1, n1, .inl g))) (ht1 : tys[t1]? = some (c1, .byte)) (g1 : ¬ sp < 0) (g2 : ¬ dp < 0) (g3 : ¬ k < 0) (g4 : sp.toNatClampNeg + k.toNatClampNeg ≤ n0) (g5 : dp.toNatClampNeg + k.toNatClampNeg ≤ n1) (hfit : ∀ j, fits .byte (.int (f j)) = true) (hw : ws.set q1 (a, .inl (c1, n1, .inl (va_cpy f g sp.toNatClampNeg dp.toNatClampNeg k.toNatClampNeg))) = ws') (hfr : 1 ≤ R.frames) (hlo : (st.map fun v => v.category).sum + (nativeFrameWords "java/lang/System" "arraycopy" 5 + 11) ≤ R.locals) (q : Nat) (hq : pc + 3 = q) (K : vW p l e R s m args below meth c nL D A F cells slots Q ws' q lv st) : vW p l e R s m args below meth c nL D A F cells slots Q ws pc lv (.int k :: .int dp :: .ref a :: .int sp :: .ref b0 :: st) := by
  subst hq
  exact fun H locs ls hP hD hS hl => vk_copyt X.1 X.2.1 (X.2.2.2.1.trans hl.1.symm) X.2.2.2.2.1 (X.2.2.2.2.2.1 _ h1) (X.2.2.2.2.2.1 _ h2) (X.2.2.2.2.2.1 _ h3) (X.2.2.2.2.2.1 _ h4) X.2.2.2.2.2.2.2.1 hP hD hS hX q1 t1 (app_at ha1) ht1 g1 g2 g3 g4 g5 (fun i _ => hfit _) hfr hlo d (fun H1 l1 hP hD hS => K H1 l1 ls (by rw [app_set ha1 hw] at hP; exact hP) (by rw [app_set ha1 hw] at hD; exact hD) hS hl)
theorem v_cloneb (X : vX p s m args meth c cc nL ret own Ts D tys G A) {index a n : Nat} {cA : ClassId} {f : Nat → Int32} (d : decode cc pc = .ok (.invokevirtual index, 3)) (h1 : Cond.methodLink own index ⟨"[B", "clone", "()Ljava/lang/Object;"⟩ ∈ Ts) (h2 : Cond.sameMethod "[B" "java/lang/Object" "clone" "()Ljava/lang/Object;" ∈ Ts) (h3 : Cond.native ⟨"java/lang/Object", "clone", "()Ljava/lang/Object;"⟩ ∈ Ts) (h4 : Cond.instanceMethod ⟨"java/lang/Object", "clone", "()Ljava/lang/Object;"⟩ ∈ Ts) (h5 : Cond.selects "[B" ⟨"[B", "clone", "()Ljava/lang/Object;"⟩ ⟨"java/lang/Object", "clone", "()Ljava/lang/Object;"⟩ ∈ Ts) (h6 : Cond.castable "[B" "java/lang/Cloneable" ∈ nestW) (q0 t0 : Nat) (ha : ws[q0]? = some (a, .inl (cA, n, .inl f))) (ht : tys[t0]? = some (cA, .byte)) (hfit : ∀ j, fits .byte (.int (f j)) = true) (hfr : 1 ≤ R.frames) (hlo : (st.map fun v => v.category).sum + 14 ≤ R.locals) (hc : cells + 1 ≤ R.cells) (hs : slots + n ≤ R.slots) (q : Nat) (hq : pc + 3 = q) (K : ∀ b : Nat, vW p l e R s m args below meth c nL D A F (cells + 1) (slots + n) Q (ws ++ [(b, .inl (cA, n, .inl f))]) q lv (.ref b :: st)) : vW p l e R s m args below meth c nL D A F cells slots Q ws pc lv (.ref a :: st) := by
  subst hq
  intro H locs ls hP hD hS hl
  have h9 : va_Nw (.castable "[B" "java/lang/Cloneable") s := X.2.2.2.2.2.2.2.2.2.1.2.2.2 A s s.heap X.2.2.2.2.2.2.2.2.2.2 _ h6
  exact va_clone X.1 X.2.1 (X.2.2.2.1.trans hl.1.symm) X.2.2.2.2.1 (X.2.2.2.2.2.1 _ h1) (X.2.2.2.2.2.1 _ h2) (X.2.2.2.2.2.1 _ h3) (X.2.2.2.2.2.1 _ h4) (X.2.2.2.2.2.1 _ h5) h9 X.2.2.2.2.2.2.2.1 hP hD hS X.2.2.2.2.2.2.2.2.1 q0 t0 (app_at ha) ht (va_nm_byte (X.2.2.2.2.2.2.2.1.2 t0 _ ht).2) (va_fit (fun i _ => hfit i)) hfr hlo hc hs d (fun b H1 _ hP hD hS => K b H1 locs ls (va_P_perm perm_back hP) (va_D_perm perm_back hD) hS hl)
theorem v_castb (X : vX p s m args meth c cc nL ret own Ts D tys G A) {index a n : Nat} {cA : ClassId} {f : Nat → Int32} (d : decode cc pc = .ok (.checkcast index, 3)) (h1 : Cond.classLink own index "[B" ∈ Ts) (q0 t0 : Nat) (ha : ws[q0]? = some (a, .inl (cA, n, .inl f))) (ht : tys[t0]? = some (cA, .byte)) (q : Nat) (hq : pc + 3 = q) (K : vW p l e R s m args below meth c nL D A F cells slots Q ws q lv (.ref a :: st)) : vW p l e R s m args below meth c nL D A F cells slots Q ws pc lv (.ref a :: st) := by
  subst hq
  exact fun H locs ls hP hD hS hl => va_castA X.1 X.2.1 X.2.2.2.2.1 (X.2.2.2.2.2.1 _ h1) hP q0 (app_at ha) (va_nm_byte (X.2.2.2.2.2.2.2.1.2 t0 _ ht).2) d (K H locs ls hP hD hS hl)
/-- contracts over a whole world: an int comes back (mH, without a table of its own), a reference comes back -/
abbrev qR {S : Type} (D : va_G) (tys : List (ClassId × FieldType)) (A : Nat → Prop) (post : S → Prop) (ref : S → Nat) (WSf : S → va_W) : Array Value → State → Outcome → State → Prop := va_Qr post (fun u a t => a = ref u ∧ va_P D vwCl (WSf u) t.heap ∧ va_K D vwCl tys t ∧ va_D A (WSf u)) A
def mR {S : Type} (l : Launch) (y : MethodName) (ws : List Cond) (rm : Room) (G : (Nat → Prop) → State → Heap → Prop) (D : va_G) (tys : List (ClassId × FieldType)) (av : List Value) (W0 : va_W) (mc ms : Nat) (post : S → Prop) (ref : S → Nat) (WSf : S → va_W) : Prop := ∀ sz : Nat, Met l y ws rm (va_Pc av (pW G D tys sz W0)) (qR D tys (va_A W0 sz) post ref WSf) mc ms (va_A W0 sz)
abbrev qJ {S : Type} (D : va_G) (tys : List (ClassId × FieldType)) (A : Nat → Prop) (r : Int32) (post : S → Prop) (WSf : S → va_W) : Array Value → State → Outcome → State → Prop := va_Qi (fun (r' : Int32) (u : S) => r' = r ∧ post u) (fun u t => va_P D vwCl (WSf u) t.heap ∧ va_K D vwCl tys t ∧ va_D A (WSf u)) A
theorem mR_of {S : Type} {post : S → Prop} {ref : S → Nat} {WSf : S → va_W} (hG : vG G) {y : MethodName} {wsy ws' : List Cond} {maxL : Nat} {av : List Value} {WS : va_W} {mc ms : Nat} {ty : FieldType} (hy : plainName y.cls = true) (hw : wsy = Cond.code y cc maxL (some ty) :: ws') (hlen : (lg_sl av).length ≤ maxL)
    (h : ∀ (p : Program) (e : Env) (s : State) (m : MethodId) (args : Array Value) (below : List Frame) (meth : Method) (c : Code) (A : Nat → Prop), vX p s m args meth c cc maxL (some ty) y.cls wsy D tys G A → vW p l e R s m args below meth c maxL D A F 0 0 (MQ below (qR D tys A post ref WSf) args s mc ms A) WS 0 (lv_args 0 av) []) : mR l y wsy R G D tys av (WS ++ F) mc ms post ref WSf := by
  intro sz
  refine Met.ofW (cc := cc) (maxL := maxL) (ret := (some ty)) hy hw ?_
  intro p e s m args below meth c s₁ B hml hv
  obtain ⟨rfl, hsz, hP, hK, hD0, hGv⟩ := hv
  have hts := atoms_spec (ws := wsy) B.pre
  have hown : s.vm.findClass y.cls = some m.cls := findClass_of_methodNamed B.named
  subst hsz
  have hD := hD0.self (sz := s.heap.size)
  rw [lg_entry_eq]
  exact h p e s m _ below meth c _ ⟨B.exec, B.bytes, B.returns, hml, hown, hts, B.notSynchronized, hK, fun q h => Or.inr h, hG, hGv⟩ s.heap [] _ hP hD va_S.rf (lv_entry av hlen)
theorem mJ_of {S : Type} {post : S → Prop} {r : Int32} {WSf : S → va_W} (hG : vG G) {y : MethodName} {wsy ws' : List Cond} {maxL : Nat} {av : List Value} {WS : va_W} {mc ms : Nat} {ty : FieldType} (hy : plainName y.cls = true) (hw : wsy = Cond.code y cc maxL (some ty) :: ws') (hlen : (lg_sl av).length ≤ maxL)
    (h : ∀ (p : Program) (e : Env) (s : State) (m : MethodId) (args : Array Value) (below : List Frame) (meth : Method) (c : Code) (A : Nat → Prop), vX p s m args meth c cc maxL (some ty) y.cls wsy D tys G A → vW p l e R s m args below meth c maxL D A F 0 0 (MQ below (qJ D tys A r post WSf) args s mc ms A) WS 0 (lv_args 0 av) []) : mH l y wsy R G D tys av (WS ++ F) mc ms r post WSf := by
  intro sz
  refine Met.ofW (cc := cc) (maxL := maxL) (ret := (some ty)) hy hw ?_
  intro p e s m args below meth c s₁ B hml hv
  obtain ⟨rfl, hsz, hP, hK, hD0, hGv⟩ := hv
  have hts := atoms_spec (ws := wsy) B.pre
  have hown : s.vm.findClass y.cls = some m.cls := findClass_of_methodNamed B.named
  subst hsz
  have hD := hD0.self (sz := s.heap.size)
  rw [lg_entry_eq]
  exact h p e s m _ below meth c _ ⟨B.exec, B.bytes, B.returns, hml, hown, hts, B.notSynchronized, hK, fun q h => Or.inr h, hG, hGv⟩ s.heap [] _ hP hD va_S.rf (lv_entry av hlen)
theorem v_rret {S : Type} {post : S → Prop} {ref : S → Nat} {WSf : S → va_W} {mc ms a : Nat} {ty : FieldType} (u : S) (hu : post u) (ha : a = ref u) (h : (ws ++ F).Perm (WSf u)) (X : vX p s m args meth c cc nL (some ty) own Ts D tys G A) (hty : (∃ n, ty = .object n) ∨ ∃ t, ty = .array t) (hc : cells ≤ mc) (hs : slots ≤ ms) (d : decode cc pc = .ok (.areturn, 1)) : vW p l e R s m args below meth c nL D A F cells slots (MQ below (qR D tys A post ref WSf) args s mc ms A) ws pc lv [.ref a] :=
  fun H locs ls hP hD hS hl => W.widen hc hs (W.aret (v := .ref a) X.1 X.2.1 X.2.2.1 hty (Or.inr ⟨a, rfl⟩) (fun t ht hW => ⟨⟨u, a, rfl, hu, ha, va_W_blind ht (va_P_perm h hP) X.2.2.2.2.2.2.2.1 hW.alike (va_D_perm h hD)⟩, hS.F ht⟩) hS.2.2 d X.2.2.2.2.2.2.1)
theorem v_jret {S : Type} {post : S → Prop} {WSf : S → va_W} {mc ms : Nat} {r r' : Int32} (u : S) (hu : post u) (hr : r' = r) (h : (ws ++ F).Perm (WSf u)) (X : vX p s m args meth c cc nL (some .int) own Ts D tys G A) (hc : cells ≤ mc) (hs : slots ≤ ms) (d : decode cc pc = .ok (.ireturn, 1)) : vW p l e R s m args below meth c nL D A F cells slots (MQ below (qJ D tys A r post WSf) args s mc ms A) ws pc lv [.int r'] :=
  fun H locs ls hP hD hS hl => W.widen hc hs (W.iret (v := r') X.1 X.2.1 X.2.2.1 (fun t ht hW => ⟨⟨r', u, rfl, ⟨hr, hu⟩, va_W_blind ht (va_P_perm h hP) X.2.2.2.2.2.2.2.1 hW.alike (va_D_perm h hD)⟩, hS.F ht⟩) hS.2.2 d X.2.2.2.2.2.2.1)
theorem v_jzret {S : Type} {post : S → Prop} {WSf : S → va_W} {mc ms : Nat} {r r' : Int32} {ty : FieldType} (u : S) (hu : post u) (hr : r' = r) (hz : narrow ty (.int r') = .int r') (h : (ws ++ F).Perm (WSf u)) (X : vX p s m args meth c cc nL (some ty) own Ts D tys G A) (hc : cells ≤ mc) (hs : slots ≤ ms) (d : decode cc pc = .ok (.ireturn, 1)) : vW p l e R s m args below meth c nL D A F cells slots (MQ below (qJ D tys A r post WSf) args s mc ms A) ws pc lv [.int r'] :=
  fun H locs ls hP hD hS hl => W.widen hc hs (W.zret (v := r') X.1 X.2.1 X.2.2.1 hz (fun t ht hW => ⟨⟨r', u, rfl, ⟨hr, hu⟩, va_W_blind ht (va_P_perm h hP) X.2.2.2.2.2.2.2.1 hW.alike (va_D_perm h hD)⟩, hS.F ht⟩) hS.2.2 d X.2.2.2.2.2.2.1)
/-- a call runs: the callee's world is W0, its surrounding G2; what is told of its start at the caller's heaps -/
def rPC (s : State) (D : va_G) (tys : List (ClassId × FieldType)) (G2 : (Nat → Prop) → State → Heap → Prop) (A : Nat → Prop) (W W0 : va_W) : Prop := vG G2 ∧ ∀ (H : Heap) (locs : List Loc), va_P D vwCl W H → va_D A W → va_S A s.heap H locs → (∀ q, va_A W0 H.size q → A q) ∧ ∀ (av : List Value) (U : State), U.heap = H → s.WarmedH U.vm → va_Pc av (pW G2 D tys H.size W0) av.toArray U
def rRV (s : State) (D : va_G) (A : Nat → Prop) (W : va_W) (b : Nat) (C : String) : Prop := ∀ (H : Heap) (locs : List Loc), va_P D vwCl W H → va_S A s.heap H locs → ∃ cell : Cell, H[b]? = some cell ∧ cell.vm.isStatics = false ∧ s.vm.findClass C = some cell.cls
def rRUN (p : Program) (l : Launch) (e : Env) (R : Room) (s : State) (m : MethodId) (args : Array Value) (below : List Frame) (meth : Method) (c : Code) (nL : Nat) (D : va_G) (A : Nat → Prop) (cells slots mc ms : Nat) (W W0 : va_W) (pc : Nat) (lv : List (Nat × Value)) (st rest : List Value) (Qf : Nat → Array Value → State → Outcome → State → Prop) (av : List Value) : Prop := ∀ (H : Heap) (locs : List Loc) (ls : Array Slot), va_P D vwCl W H → va_D A W → va_S A s.heap H locs → lv_has ls nL lv → (∀ q, va_A W0 H.size q → A q) ∧ va_Run p l e R s m args below meth c H locs cells slots mc ms (F0 m pc ls st) rest (Qf H.size av.toArray) (va_A W0 H.size)
theorem r_pc (X : vX p s m args meth c cc nL ret own Ts D tys G A) : rPC s D tys G A (ws ++ F) (ws ++ F) := ⟨X.2.2.2.2.2.2.2.2.2.1, fun H locs hP hD hS => ⟨v_free X.2.2.2.2.2.2.2.2.1 hD hS, fun av U hU hW => v_pcw X.2.2.2.2.2.2.2.2 hP hD hS X.2.2.2.2.2.2.2.1 (v_free X.2.2.2.2.2.2.2.2.1 hD hS) U hU hW⟩⟩
theorem r_recv (X : vX p s m args meth c cc nL ret own Ts D tys G A) {b ci : Nat} {C : String} {T : u_T} {N : Nat} {fs : List Value} (q0 : Nat) (he : ws[q0]? = some (b, .inr (ci, fs))) (hci : vwCl[ci]? = some (C, T, N)) : rRV s D A (ws ++ F) b C := fun H locs hP hS => va_recv X.2.2.2.2.2.2.2.1 (va_P_left hP) hci he
theorem r_V (X : vX p s m args meth c cc nL ret own Ts D tys G A) {y : MethodName} {wsy wsy' : List Cond} {rmy : Room} {bytes : ByteArray} {maxL index mc ms : Nat} {As rest : List Value} {ry : Option FieldType} {Qf : Nat → Array Value → State → Outcome → State → Prop} {C : String} {b : Nat} (hpc : rPC s D tys G2 A (ws ++ F) W0) (hM : ∀ sz : Nat, Met l y wsy rmy (va_Pc (.ref b :: As) (pW G2 D tys sz W0)) (Qf sz) mc ms (va_A W0 sz)) (n : Nat) (hT : GoodIn Ts (wsV own index C y wsy)) (hw : wsy = Cond.code y bytes maxL ry :: wsy') (hrc : rmy.cells = mc) (hrs : rmy.slots = ms) (hd : y.cls = C ∧ y.cls ≠ "java/lang/invoke/MethodHandle" ∧ y.cls ≠ "java/lang/invoke/VarHandle" ∧ (parseMethodDescriptor y.desc).map (fun d => d.parameters.length) = some n) (hR : rmy.frames + 1 ≤ R.frames ∧ 8 + (maxL + 11) + rmy.locals ≤ R.locals)
    (hrv : rRV s D A (ws ++ F) b C) (hn : As.length = n) (hst : st = As.reverse ++ .ref b :: rest) (hW : (rest.map fun v => v.category).sum ≤ 8) (hf : cells + mc ≤ R.cells ∧ slots + ms ≤ R.slots) (d : decode cc pc = .ok (.invokevirtual index, 3)) : rRUN p l e R s m args below meth c nL D A cells slots mc ms (ws ++ F) W0 pc lv st rest Qf (.ref b :: As) := by
  intro H locs ls hP hD hS hl
  obtain ⟨h1, h2⟩ := hpc.2 H locs hP hD hS
  subst hst
  exact ⟨h1, va_runV ⟨X.1, X.2.1, X.2.2.2.1, X.2.2.2.2.1, X.2.2.2.2.2.1⟩ (hM H.size) (cwV n X.2.2.2.2.2.1 hT hw hrc hrs hd hR) ⟨pW_blind hpc.1, hrv H locs hP hS, h2 _⟩ rfl hn hl.1 rfl (lv_room hW) d hf⟩
theorem r_U (X : vX p s m args meth c cc nL ret own Ts D tys G A) {y : MethodName} {wsy wsy' : List Cond} {rmy : Room} {bytes : ByteArray} {maxL index mc ms : Nat} {As rest : List Value} {ry : Option FieldType} {Qf : Nat → Array Value → State → Outcome → State → Prop} {C owner : String} {x : MethodName} {b : Nat} (hpc : rPC s D tys G2 A (ws ++ F) W0) (hM : ∀ sz : Nat, Met l y wsy rmy (va_Pc (.ref b :: As) (pW G2 D tys sz W0)) (Qf sz) mc ms (va_A W0 sz)) (n : Nat) (hT : GoodIn Ts (va_wsU own index C owner x y wsy)) (hw : wsy = Cond.code y bytes maxL ry :: wsy') (hrc : rmy.cells = mc) (hrs : rmy.slots = ms) (hyx : y = ⟨owner, x.name, x.desc⟩) (hd : owner ≠ "java/lang/invoke/MethodHandle" ∧ owner ≠ "java/lang/invoke/VarHandle" ∧ (parseMethodDescriptor x.desc).map (fun d => d.parameters.length) = some n) (hR : rmy.frames + 1 ≤ R.frames ∧ 8 + (maxL + 11) + rmy.locals ≤ R.locals)
    (hrv : rRV s D A (ws ++ F) b C) (hn : As.length = n) (hst : st = As.reverse ++ .ref b :: rest) (hW : (rest.map fun v => v.category).sum ≤ 8) (hf : cells + mc ≤ R.cells ∧ slots + ms ≤ R.slots) (d : decode cc pc = .ok (.invokevirtual index, 3)) : rRUN p l e R s m args below meth c nL D A cells slots mc ms (ws ++ F) W0 pc lv st rest Qf (.ref b :: As) := by
  intro H locs ls hP hD hS hl
  obtain ⟨h1, h2⟩ := hpc.2 H locs hP hD hS
  subst hst
  exact ⟨h1, va_runU ⟨X.1, X.2.1, X.2.2.2.1, X.2.2.2.2.1, X.2.2.2.2.2.1⟩ (hM H.size) (va_cwU n X.2.2.2.2.2.1 hT hw hrc hrs hyx hd hR) ⟨pW_blind hpc.1, hrv H locs hP hS, h2 _⟩ rfl hn hl.1 rfl (lv_room hW) d hf⟩
theorem r_O (X : vX p s m args meth c cc nL ret own Ts D tys G A) {y : MethodName} {wsy wsy' : List Cond} {rmy : Room} {bytes : ByteArray} {maxL index mc ms : Nat} {As rest : List Value} {ry : Option FieldType} {Qf : Nat → Array Value → State → Outcome → State → Prop} {C owner : String} {x : MethodName} {b : Nat} {b0 : ByteArray} {m0 : Nat} {r0 : Option FieldType} (hpc : rPC s D tys G2 A (ws ++ F) W0) (hM : ∀ sz : Nat, Met l y wsy rmy (va_Pc (.ref b :: As) (pW G2 D tys sz W0)) (Qf sz) mc ms (va_A W0 sz)) (n : Nat) (hT : GoodIn Ts (va_wsO own index C owner x y wsy)) (hw : wsy = Cond.code y bytes maxL ry :: wsy') (hrc : rmy.cells = mc) (hrs : rmy.slots = ms) (h0 : Cond.code ⟨owner, x.name, x.desc⟩ b0 m0 r0 ∈ Ts) (hd : owner ≠ "java/lang/invoke/MethodHandle" ∧ owner ≠ "java/lang/invoke/VarHandle" ∧ (parseMethodDescriptor x.desc).map (fun d => d.parameters.length) = some n) (hR : rmy.frames + 1 ≤ R.frames ∧ 8 + (maxL + 11) + rmy.locals ≤ R.locals)
    (hrv : rRV s D A (ws ++ F) b C) (hn : As.length = n) (hst : st = As.reverse ++ .ref b :: rest) (hW : (rest.map fun v => v.category).sum ≤ 8) (hf : cells + mc ≤ R.cells ∧ slots + ms ≤ R.slots) (d : decode cc pc = .ok (.invokevirtual index, 3)) : rRUN p l e R s m args below meth c nL D A cells slots mc ms (ws ++ F) W0 pc lv st rest Qf (.ref b :: As) := by
  intro H locs ls hP hD hS hl
  obtain ⟨h1, h2⟩ := hpc.2 H locs hP hD hS
  subst hst
  exact ⟨h1, va_runU ⟨X.1, X.2.1, X.2.2.2.1, X.2.2.2.2.1, X.2.2.2.2.2.1⟩ (hM H.size) (va_cwO n X.2.2.2.2.2.1 hT hw hrc hrs h0 hd hR) ⟨pW_blind hpc.1, hrv H locs hP hS, h2 _⟩ rfl hn hl.1 rfl (lv_room hW) d hf⟩
theorem r_S (X : vX p s m args meth c cc nL ret own Ts D tys G A) {y : MethodName} {wsy wsy' : List Cond} {rmy : Room} {bytes : ByteArray} {maxL index mc ms : Nat} {As rest : List Value} {ry : Option FieldType} {Qf : Nat → Array Value → State → Outcome → State → Prop}  (hpc : rPC s D tys G2 A (ws ++ F) W0) (hM : ∀ sz : Nat, Met l y wsy rmy (va_Pc As (pW G2 D tys sz W0)) (Qf sz) mc ms (va_A W0 sz)) (n : Nat) (hT : GoodIn Ts (va_wsS own index y wsy)) (hw : wsy = Cond.code y bytes maxL ry :: wsy') (hrc : rmy.cells = mc) (hrs : rmy.slots = ms) (hd : y.cls ≠ "java/lang/invoke/MethodHandle" ∧ y.cls ≠ "java/lang/invoke/VarHandle" ∧ (parseMethodDescriptor y.desc).map (fun d => d.parameters.length) = some n) (hR : rmy.frames + 1 ≤ R.frames ∧ 8 + (maxL + 11) + rmy.locals ≤ R.locals)
    (hn : As.length = n) (hst : st = As.reverse ++ rest) (hW : (rest.map fun v => v.category).sum ≤ 8) (hf : cells + mc ≤ R.cells ∧ slots + ms ≤ R.slots) (d : decode cc pc = .ok (.invokestatic index, 3)) : rRUN p l e R s m args below meth c nL D A cells slots mc ms (ws ++ F) W0 pc lv st rest Qf As := by
  intro H locs ls hP hD hS hl
  obtain ⟨h1, h2⟩ := hpc.2 H locs hP hD hS
  subst hst
  exact ⟨h1, va_runS ⟨X.1, X.2.1, X.2.2.2.1, X.2.2.2.2.1, X.2.2.2.2.2.1⟩ (hM H.size) (va_cwS n X.2.2.2.2.2.1 hT hw hrc hrs hd hR) ⟨pW_blind hpc.1, h2 _⟩ rfl hn hl.1 rfl (lv_room hW) d hf⟩
theorem r_I (X : vX p s m args meth c cc nL ret own Ts D tys G A) {y : MethodName} {wsy wsy' : List Cond} {rmy : Room} {bytes : ByteArray} {maxL index mc ms : Nat} {As rest : List Value} {Qf : Nat → Array Value → State → Outcome → State → Prop} {b : Nat} (hpc : rPC s D tys G2 A (ws ++ F) W0) (hM : ∀ sz : Nat, Met l y wsy rmy (va_Pc (.ref b :: As) (pW G2 D tys sz W0)) (Qf sz) mc ms (va_A W0 sz)) (n : Nat) (hT : GoodIn Ts wsy) (hw : wsy = Cond.code y bytes maxL none :: wsy') (hrc : rmy.cells = mc) (hrs : rmy.slots = ms) (hini : Cond.initialized y.cls ∈ Ts) (hlk : Cond.methodLink own index y ∈ Ts) (hinm : Cond.instanceMethod y ∈ Ts) (hy1 : y.name = "<init>") (hd : y.cls ≠ "java/lang/invoke/MethodHandle" ∧ y.cls ≠ "java/lang/invoke/VarHandle" ∧ (parseMethodDescriptor y.desc).map (fun d => d.parameters.length) = some n) (hR : rmy.frames + 1 ≤ R.frames ∧ 8 + (maxL + 11) + rmy.locals ≤ R.locals)
    (hn : As.length = n) (hst : st = As.reverse ++ .ref b :: rest) (hW : (rest.map fun v => v.category).sum ≤ 8) (hf : cells + mc ≤ R.cells ∧ slots + ms ≤ R.slots) (d : decode cc pc = .ok (.invokespecial index, 3)) : rRUN p l e R s m args below meth c nL D A cells slots mc ms (ws ++ F) W0 pc lv st rest Qf (.ref b :: As) := by
  intro H locs ls hP hD hS hl
  obtain ⟨h1, h2⟩ := hpc.2 H locs hP hD hS
  subst hst
  exact ⟨h1, va_runI ⟨X.1, X.2.1, X.2.2.2.1, X.2.2.2.2.1, X.2.2.2.2.2.1⟩ (hM H.size) (cwI n X.2.2.2.2.2.1 hT hw hrc hrs (X.2.2.2.2.2.1 _ hini) (X.2.2.2.2.2.1 _ hlk) (X.2.2.2.2.2.1 _ hinm) hy1 hd hR) ⟨pW_blind hpc.1, h2 _⟩ rfl hn hl.1 rfl (lv_room hW) d hf⟩
theorem r_SU (X : vX p s m args meth c cc nL ret own Ts D tys G A) {y : MethodName} {wsy wsy' : List Cond} {rmy : Room} {bytes : ByteArray} {maxL index mc ms : Nat} {As rest : List Value} {ry : Option FieldType} {Qf : Nat → Array Value → State → Outcome → State → Prop} {C : String} {T : u_T} {N ci : Nat} {b : Nat} (hpc : rPC s D tys G2 A (ws ++ F) W0) (hM : ∀ sz : Nat, Met l y wsy rmy (va_Pc (.ref b :: As) (pW G2 D tys sz W0)) (Qf sz) mc ms (va_A W0 sz)) (n : Nat) (hT : GoodIn Ts (va_wsSU own index y wsy)) (hw : wsy = Cond.code y bytes maxL ry :: wsy') (hrc : rmy.cells = mc) (hrs : rmy.slots = ms) (hci : vwCl[ci]? = some (C, T, N)) (hd : y.name ≠ "<init>" ∧ (parseMethodDescriptor y.desc).map (fun d => d.parameters.length) = some n) (hR : rmy.frames + 1 ≤ R.frames ∧ 8 + (maxL + 11) + rmy.locals ≤ R.locals)
    (hrv : rRV s D A (ws ++ F) b C) (hn : As.length = n) (hst : st = As.reverse ++ .ref b :: rest) (hW : (rest.map fun v => v.category).sum ≤ 8) (hf : cells + mc ≤ R.cells ∧ slots + ms ≤ R.slots) (d : decode cc pc = .ok (.invokespecial index, 3)) : rRUN p l e R s m args below meth c nL D A cells slots mc ms (ws ++ F) W0 pc lv st rest Qf (.ref b :: As) := by
  intro H locs ls hP hD hS hl
  obtain ⟨h1, h2⟩ := hpc.2 H locs hP hD hS
  subst hst
  exact ⟨h1, va_runSU (X.2.2.2.2.2.2.2.1.1 ci _ hci).2 ⟨X.1, X.2.1, X.2.2.2.1, X.2.2.2.2.1, X.2.2.2.2.2.1⟩ (hM H.size) (va_cwSU n X.2.2.2.2.2.1 hT hw hrc hrs hd hR) ⟨pW_blind hpc.1, hrv H locs hP hS, h2 _⟩ rfl hn hl.1 rfl (lv_room hW) d hf⟩
theorem r_SN (X : vX p s m args meth c cc nL ret own Ts D tys G A) {y : MethodName} {wsy wsy' : List Cond} {rmy : Room} {bytes : ByteArray} {maxL index mc ms : Nat} {As rest : List Value} {ry : Option FieldType} {Qf : Nat → Array Value → State → Outcome → State → Prop} {host : String} (hpc : rPC s D tys G2 A (ws ++ F) W0) (hM : ∀ sz : Nat, Met l y wsy rmy (va_Pc As (pW G2 D tys sz W0)) (Qf sz) mc ms (va_A W0 sz)) (n : Nat) (hT : GoodIn Ts wsy) (hw : wsy = Cond.code y bytes maxL ry :: wsy') (hrc : rmy.cells = mc) (hrs : rmy.slots = ms) (hlk : Cond.methodLinkNest own index y host ∈ nestW) (hini : Cond.initialized y.cls ∈ Ts) (hst2 : Cond.static y ∈ Ts) (hd : y.cls ≠ "java/lang/invoke/MethodHandle" ∧ y.cls ≠ "java/lang/invoke/VarHandle" ∧ (parseMethodDescriptor y.desc).map (fun d => d.parameters.length) = some n) (hR : rmy.frames + 1 ≤ R.frames ∧ 8 + (maxL + 11) + rmy.locals ≤ R.locals)
    (hn : As.length = n) (hst : st = As.reverse ++ rest) (hW : (rest.map fun v => v.category).sum ≤ 8) (hf : cells + mc ≤ R.cells ∧ slots + ms ≤ R.slots) (d : decode cc pc = .ok (.invokestatic index, 3)) : rRUN p l e R s m args below meth c nL D A cells slots mc ms (ws ++ F) W0 pc lv st rest Qf As := by
  intro H locs ls hP hD hS hl
  obtain ⟨h1, h2⟩ := hpc.2 H locs hP hD hS
  subst hst
  exact ⟨h1, va_runSN ⟨X.1, X.2.1, X.2.2.2.1, X.2.2.2.2.1, X.2.2.2.2.2.1⟩ (hM H.size) ⟨va_cnB n X.2.2.2.2.2.1 hT hw hrc hrs (vN_use X hlk) (X.2.2.2.2.2.1 _ hini) hd hR, X.2.2.2.2.2.1 _ hst2, trivial⟩ ⟨pW_blind hpc.1, h2 _⟩ rfl hn hl.1 rfl (lv_room hW) d hf⟩
theorem v_gn (X : vX p s m args meth c cc nL ret own Ts D tys G A) {S : Type} {post : S → Prop} {WSf ws' F' : S → va_W} {mc ms : Nat} {av rest : List Value} (hr : rRUN p l e R s m args below meth c nL D A cells slots mc ms (ws ++ F) (ws ++ F) pc lv st rest (fun sz => eN D tys (va_A (ws ++ F) sz) post WSf) av) (hWS : ∀ u, WSf u = ws' u ++ F' u) (q : Nat) (hq : pc + 3 = q) (K : ∀ u, post u → vW p l e R s m args below meth c nL D A (F' u) (cells + mc) (slots + ms) Q (ws' u) q lv rest) : vW p l e R s m args below meth c nL D A F cells slots Q ws pc lv st := by
  subst hq
  intro H locs ls hP hD hS hl
  obtain ⟨hFc, hrun⟩ := hr H locs ls hP hD hS hl
  refine va_callv hrun hS (fun q _ h => hFc q h) (fun q h => hFc q h) (fun u t H1 locs1 ht hvm hpost hB hz1 hk1 hS => ?_)
  obtain ⟨hP1, hK1, hD1⟩ := hB
  rw [ht, hWS u] at hP1
  rw [hWS u] at hD1
  exact K u hpost H1 locs1 ls hP1 (hD1.weaken (fun _ _ _ h => hFc _ h)) hS hl
theorem v_gj (X : vX p s m args meth c cc nL ret own Ts D tys G A) {S : Type} {post : S → Prop} {r : Int32} {WSf ws' F' : S → va_W} {mc ms : Nat} {av rest : List Value} (hr : rRUN p l e R s m args below meth c nL D A cells slots mc ms (ws ++ F) (ws ++ F) pc lv st rest (fun sz => qJ D tys (va_A (ws ++ F) sz) r post WSf) av) (hWS : ∀ u, WSf u = ws' u ++ F' u) (q : Nat) (hq : pc + 3 = q) (K : ∀ u, post u → vW p l e R s m args below meth c nL D A (F' u) (cells + mc) (slots + ms) Q (ws' u) q lv (.int r :: rest)) : vW p l e R s m args below meth c nL D A F cells slots Q ws pc lv st := by
  subst hq
  intro H locs ls hP hD hS hl
  obtain ⟨hFc, hrun⟩ := hr H locs ls hP hD hS hl
  refine va_calli hrun hS (fun q _ h => hFc q h) (fun q h => hFc q h) (fun r' u t H1 locs1 ht hvm hpost hB hz1 hk1 hS => ?_)
  obtain ⟨rfl, hpost⟩ := hpost
  obtain ⟨hP1, hK1, hD1⟩ := hB
  rw [ht, hWS u] at hP1
  rw [hWS u] at hD1
  exact K u hpost H1 locs1 ls hP1 (hD1.weaken (fun _ _ _ h => hFc _ h)) hS hl
theorem v_gr (X : vX p s m args meth c cc nL ret own Ts D tys G A) {S : Type} {post : S → Prop} {ref : S → Nat} {WSf ws' F' : S → va_W} {mc ms : Nat} {av rest : List Value} (hr : rRUN p l e R s m args below meth c nL D A cells slots mc ms (ws ++ F) (ws ++ F) pc lv st rest (fun sz => qR D tys (va_A (ws ++ F) sz) post ref WSf) av) (hWS : ∀ u, WSf u = ws' u ++ F' u) (q : Nat) (hq : pc + 3 = q) (K : ∀ u, post u → vW p l e R s m args below meth c nL D A (F' u) (cells + mc) (slots + ms) Q (ws' u) q lv (.ref (ref u) :: rest)) : vW p l e R s m args below meth c nL D A F cells slots Q ws pc lv st := by
  subst hq
  intro H locs ls hP hD hS hl
  obtain ⟨hFc, hrun⟩ := hr H locs ls hP hD hS hl
  refine va_callr hrun hS (fun q _ h => hFc q h) (fun q h => hFc q h) (fun u ra t H1 locs1 ht hvm hpost hB hz1 hk1 hS => ?_)
  obtain ⟨rfl, hP1, hK1, hD1⟩ := hB
  rw [ht, hWS u] at hP1
  rw [hWS u] at hD1
  exact K u hpost H1 locs1 ls hP1 (hD1.weaken (fun _ _ _ h => hFc _ h)) hS hl
theorem v_gns (X : vX p s m args meth c cc nL ret own Ts D tys G A) {S : Type} {post : S → Prop} {WSf ws' F' : S → va_W} {Sx : va_W} {mc ms : Nat} {av rest : List Value} (hr : rRUN p l e R s m args below meth c nL D A cells slots mc ms (ws ++ F) W0 pc lv st rest (fun sz => eN D tys (va_A W0 sz) post WSf) av) (hws : ws ++ F = W0 ++ Sx) (hWS : ∀ u, WSf u = ws' u ++ F' u) (q : Nat) (hq : pc + 3 = q) (K : ∀ u, post u → vW p l e R s m args below meth c nL D A (F' u ++ Sx) (cells + mc) (slots + ms) Q (ws' u) q lv rest) : vW p l e R s m args below meth c nL D A F cells slots Q ws pc lv st := by
  subst hq
  intro H locs ls hP hD hS hl
  obtain ⟨hFc, hrun⟩ := hr H locs ls hP hD hS hl
  refine va_callv hrun hS (fun q _ h => hFc q h) (fun q h => hFc q h) (fun u t H1 locs1 ht hvm hpost hB hz1 hk1 hS => ?_)
  obtain ⟨hP1, hK1, hD1⟩ := hB
  rw [ht, hWS u] at hP1
  rw [hWS u] at hD1
  have hPS : va_P D vwCl Sx H := va_P_right (hws ▸ hP)
  have hD9 : va_D A (W0 ++ Sx) := hws ▸ hD
  have outS : ∀ (j : Nat) (q : Nat × va_E), Sx[j]? = some q → q.1 < H.size ∧ ¬ va_A W0 H.size q.1 := by
    intro j q hj
    have hlt := (hPS j q hj).lt
    refine ⟨hlt, fun h => ?_⟩
    rcases h with ⟨k2, e2, h⟩ | h
    · exact va_D_apart hD9 h hj rfl
    · omega
  have hPn : va_P D vwCl (ws' u ++ (F' u ++ Sx)) H1 := by
    rw [← List.append_assoc]
    exact hP1.app (fun j q hj => (hPS j q hj).kept (hk1 q.1 (outS j q hj).1 (outS j q hj).2))
  have hDn : va_D A (ws' u ++ (F' u ++ Sx)) := by
    rw [← List.append_assoc]
    refine va_D.app (hD1.weaken (fun _ _ _ h => hFc _ h)) (va_D_right hD9) (fun i j x y hx hy hxy => ?_)
    exact (outS j y hy).2 (by rw [← hxy]; exact hD1.2 i x hx)
  exact K u hpost H1 locs1 ls hPn hDn hS hl
theorem v_grs (X : vX p s m args meth c cc nL ret own Ts D tys G A) {S : Type} {post : S → Prop} {ref : S → Nat} {WSf ws' F' : S → va_W} {Sx : va_W} {mc ms : Nat} {av rest : List Value} (hr : rRUN p l e R s m args below meth c nL D A cells slots mc ms (ws ++ F) W0 pc lv st rest (fun sz => qR D tys (va_A W0 sz) post ref WSf) av) (hws : ws ++ F = W0 ++ Sx) (hWS : ∀ u, WSf u = ws' u ++ F' u) (q : Nat) (hq : pc + 3 = q) (K : ∀ u, post u → vW p l e R s m args below meth c nL D A (F' u ++ Sx) (cells + mc) (slots + ms) Q (ws' u) q lv (.ref (ref u) :: rest)) : vW p l e R s m args below meth c nL D A F cells slots Q ws pc lv st := by
  subst hq
  intro H locs ls hP hD hS hl
  obtain ⟨hFc, hrun⟩ := hr H locs ls hP hD hS hl
  refine va_callr hrun hS (fun q _ h => hFc q h) (fun q h => hFc q h) (fun u ra t H1 locs1 ht hvm hpost hB hz1 hk1 hS => ?_)
  obtain ⟨rfl, hP1, hK1, hD1⟩ := hB
  rw [ht, hWS u] at hP1
  rw [hWS u] at hD1
  have hPS : va_P D vwCl Sx H := va_P_right (hws ▸ hP)
  have hD9 : va_D A (W0 ++ Sx) := hws ▸ hD
  have outS : ∀ (j : Nat) (q : Nat × va_E), Sx[j]? = some q → q.1 < H.size ∧ ¬ va_A W0 H.size q.1 := by
    intro j q hj
    have hlt := (hPS j q hj).lt
    refine ⟨hlt, fun h => ?_⟩
    rcases h with ⟨k2, e2, h⟩ | h
    · exact va_D_apart hD9 h hj rfl
    · omega
  have hPn : va_P D vwCl (ws' u ++ (F' u ++ Sx)) H1 := by
    rw [← List.append_assoc]
    exact hP1.app (fun j q hj => (hPS j q hj).kept (hk1 q.1 (outS j q hj).1 (outS j q hj).2))
  have hDn : va_D A (ws' u ++ (F' u ++ Sx)) := by
    rw [← List.append_assoc]
    refine va_D.app (hD1.weaken (fun _ _ _ h => hFc _ h)) (va_D_right hD9) (fun i j x y hx hy hxy => ?_)
    exact (outS j y hy).2 (by rw [← hxy]; exact hD1.2 i x hx)
  exact K u hpost H1 locs1 ls hPn hDn hS hl
end V26
/-- a text: an object of String, its letters one byte each, never written -/
def vStr (q t n : Nat) (g : Nat → Int32) (A : Nat → Prop) (U : State) (H : Heap) : Prop := va_O "java/lang/String" q A U H ∧ va_OF "java/lang/String" "coder" "B" (.int 0) q A U H ∧ va_OF "java/lang/String" "value" "[B" (.ref t) q A U H ∧ va_T .byte t n (fun j => .int (g j)) A U H
theorem vStr.moved {q t n : Nat} {g : Nat → Int32} {A : Nat → Prop} {u U : State} {H : Heap} (hvm : u.vm.Alike U.vm) (h : vStr q t n g A u H) : vStr q t n g A U H := ⟨va_O.moved hvm h.1, va_OF.moved hvm h.2.1, va_OF.moved hvm h.2.2.1, va_T.moved hvm h.2.2.2⟩
theorem vStr.kept {q t n : Nat} {g : Nat → Int32} {A : Nat → Prop} {U : State} {H H1 : Heap} (h : vStr q t n g A U H) (hq : ∀ a : Nat, a < H.size → ¬ A a → H1[a]? = H[a]?) : vStr q t n g A U H1 := ⟨h.1.kept hq, h.2.1.kept hq, h.2.2.1.kept hq, h.2.2.2.kept hq⟩
theorem vStr.narrow {q t n : Nat} {g : Nat → Int32} {A B : Nat → Prop} {U : State} {H : Heap} (h : vStr q t n g A U H) (hAB : ∀ q, B q → A q) : vStr q t n g B U H := ⟨h.1.narrow hAB, h.2.1.narrow hAB, h.2.2.1.narrow hAB, h.2.2.2.narrow hAB⟩
def gStr (G : (Nat → Prop) → State → Heap → Prop) (q t n : Nat) (g : Nat → Int32) : (Nat → Prop) → State → Heap → Prop := fun A U H => G A U H ∧ vStr q t n g A U H
theorem gStr_ok {G : (Nat → Prop) → State → Heap → Prop} (hG : vG G) {q t n : Nat} {g : Nat → Int32} : vG (gStr G q t n g) := ⟨fun A B U H h hAB => ⟨hG.1 A B U H h.1 hAB, h.2.narrow hAB⟩, fun A U H H1 h hq => ⟨hG.2.1 A U H H1 h.1 hq, h.2.kept hq⟩, fun A s U H hW h => ⟨hG.2.2.1 A s U H hW h.1, h.2.moved hW.alike⟩, fun A U H h w hw => hG.2.2.2 A U H h.1 w hw⟩
/-- the cells of a text that was built -/
abbrev wStr (c9 : Nat → ClassId) (q t n : Nat) (g : Nat → Int32) : va_W := [(q, .inr (0, [.ref t, .int 0, .int 0, .int 0])), (t, .inl (c9 2, n, .inl g))]
theorem vStr_of {s : State} {args : Array Value} {Ts : List Cond} {D : va_G} {c9 : Nat → ClassId} (hts : ∀ w ∈ Ts, w.before args s = true) (hin : ∀ w ∈ u_ws RJ0 TJ0 4, w ∈ Ts) (hK : va_K D vwCl (tyA c9) s) {q t n : Nat} {g : Nat → Int32} {H : Heap} (hP : va_P D vwCl (wStr c9 q t n g) H) {A : Nat → Prop} (hq : ¬ A q) (ht : ¬ A t) (hn : n < 2 ^ 31) {U : State} (hvm : s.vm.Alike U.vm) : vStr q t n g A U H := by
  obtain ⟨r, h1, cell, q1, q2, q3, q4⟩ := hP 0 _ rfl
  have hr : r = (RJ0, TJ0, 4) := Option.some.inj (h1.symm.trans rfl)
  subst hr
  obtain ⟨hS, hfc, kC, hkC, hkind⟩ := hK.1 0 _ rfl
  have hT : va_T .byte t n (fun j => .int (g j)) A s H := by
    have h2 : H[t]? = some (vp_cell (c9 2) (n, .inl g)) := hP 1 _ rfl
    rw [vp_cell_i] at h2
    refine ⟨_, h2, (hK.2 2 _ rfl).1 n _, (fun h => by cases h), by rw [arrV_size]; exact Nat.le_refl _, by rw [arrV_size] <;> rfl, fun j hj => by rw [arrV_read _ _ hj], ht⟩
  have hF : ∀ k, k < 4 → ∀ v : Value, vp_V [Value.ref t, .int 0, .int 0, .int 0] k = v → va_OF (TJ0 k).1 (TJ0 k).2.1 (TJ0 k).2.2.1 v q A s H := fun k hk v hv => by
    obtain ⟨cf, kf, fi, f, hi, hsl⟩ := hS k hk
    exact ⟨cf, kf, fi, f, cell, hi, (u_facts hfc hkC (u_lays hts hin hk) hi).1, q1, (by rw [q3]; exact fun h => by cases h), by rw [hsl, q4 k hk, hv], hq⟩
  have hO : va_O "java/lang/String" q A s H := ⟨cell, q1, by rw [q3]; rfl, by rw [q2]; exact hfc, hq⟩
  exact vStr.moved hvm ⟨hO, hF 1 (by omega) _ rfl, hF 0 (by omega) _ rfl, hT⟩
theorem vStr.to {q t n : Nat} {g g' : Nat → Int32} {A : Nat → Prop} {U : State} {H : Heap} (h : vStr q t n g A U H) (hg : ∀ j, j < n → g j = g' j) : vStr q t n g' A U H := by
  obtain ⟨h1, h2, h3, cell, c1, c2, c3, c4, c5, c6, c7⟩ := h
  exact ⟨h1, h2, h3, cell, c1, c2, c3, c4, c5, fun j hj => (c6 j hj).trans (congrArg (fun z => some (Value.int z)) (hg j hj)), c7⟩
theorem v_dropF {p : Program} {l : Launch} {e : Env} {R : Room} {s : State} {m : MethodId} {args : Array Value} {below : List Frame} {meth : Method} {c : Code} {nL : Nat} {D : va_G} {A : Nat → Prop} {F Sx : va_W} {cells slots : Nat} {Q : State → Prop} {ws : va_W} {pc : Nat} {lv : List (Nat × Value)} {st : List Value} (K : vW p l e R s m args below meth c nL D A F cells slots Q ws pc lv st) : vW p l e R s m args below meth c nL D A (F ++ Sx) cells slots Q ws pc lv st := fun H locs ls hP hD hS hl => K H locs ls (va_P_left (by rw [← List.append_assoc] at hP; exact hP)) (va_D_left (by rw [← List.append_assoc] at hD; exact hD)) hS hl
theorem r_pcs {p : Program} {s : State} {m : MethodId} {args : Array Value} {meth : Method} {c : Code} {cc : ByteArray} {nL : Nat} {ret : Option FieldType} {own : String} {Ts : List Cond} {D : va_G} {c9 : Nat → ClassId} {G : (Nat → Prop) → State → Heap → Prop} {A : Nat → Prop} {ws F W0 : va_W} (X : vX p s m args meth c cc nL ret own Ts D (tyA c9) G A) {q t n : Nat} {g g' : Nat → Int32} (hin : ∀ w ∈ u_ws RJ0 TJ0 4, w ∈ Ts) (hn : n < 2 ^ 31) (hg : ∀ j, j < n → g j = g' j) (hws : ws ++ F = W0 ++ wStr c9 q t n g) : rPC s D (tyA c9) (gStr G q t n g') A (ws ++ F) W0 := by
  refine ⟨gStr_ok X.2.2.2.2.2.2.2.2.2.1, fun H locs hP hD hS => ?_⟩
  rw [hws] at hP hD
  have hFc : ∀ q, va_A W0 H.size q → A q := fun q h => by
    rcases h with ⟨k, e2, h⟩ | h
    · exact (va_D_left hD).2 k _ h
    · exact X.2.2.2.2.2.2.2.2.1 q (Nat.le_trans hS.1 h)
  refine ⟨hFc, fun av U hU hW => ⟨rfl, by rw [hU], by rw [hU]; exact va_P_left hP, va_K.moved hW.alike X.2.2.2.2.2.2.2.1, (va_D_left hD).weaken (fun _ _ _ _ => trivial), ?_⟩⟩
  rw [hU]
  have out : ∀ (j : Nat) (x : Nat × va_E), (wStr c9 q t n g)[j]? = some x → ¬ va_A W0 H.size x.1 := by
    intro j x hj h
    rcases h with ⟨k2, e2, h⟩ | h
    · exact va_D_apart hD h hj rfl
    · have := (va_P_right hP j x hj).lt
      omega
  exact ⟨X.2.2.2.2.2.2.2.2.2.1.2.2.1 _ s U H hW (X.2.2.2.2.2.2.2.2.2.1.1 _ _ s H (X.2.2.2.2.2.2.2.2.2.1.2.1 _ s _ _ X.2.2.2.2.2.2.2.2.2.2 hS.2.1) hFc), (vStr_of X.2.2.2.2.2.1 hin X.2.2.2.2.2.2.2.1 (va_P_right hP) (out 0 _ rfl) (out 1 _ rfl) hn hW.alike).to hg⟩
