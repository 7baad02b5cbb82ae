theorem wj_0 : Cond.methodLink RJ0 335 yJ0_coder_7d493 ∈ Wg := t1_in (List.mem_of_getElem? (i := 233) rfl) rfl
theorem wj_1 : Cond.instanceMethod yJ0_coder_7d493 ∈ Wg := t1_in (List.mem_of_getElem? (i := 234) rfl) rfl
theorem wj_2 : Cond.selects RJ0 yJ0_coder_7d493 yJ0_coder_7d493 ∈ Wg := t1_in (List.mem_of_getElem? (i := 235) rfl) rfl
theorem wj_3 : Cond.initialized RJ0 ∈ Wg := t1_in (List.mem_of_getElem? (i := 13) rfl) rfl
theorem wj_4 : Cond.code yJ0_coder_7d493 cJ0_coder_7d493 1 (some .byte) ∈ Wg := t1_in (List.mem_of_getElem? (i := 236) rfl) rfl
theorem wj_5 : Cond.methodLink RJ0 1059 yJ3_checkIndex_8e157 ∈ Wg := t2_in (List.mem_of_getElem? (i := 15) rfl) rfl
theorem wj_6 : Cond.static yJ3_checkIndex_8e157 ∈ Wg := t2_in (List.mem_of_getElem? (i := 16) rfl) rfl
theorem wj_7 : Cond.initialized RJ3 ∈ Wg := t1_in (List.mem_of_getElem? (i := 15) rfl) rfl
theorem wj_8 : Cond.code yJ3_checkIndex_8e157 cJ3_checkIndex_8e157 3 (some .int) ∈ Wg := t2_in (List.mem_of_getElem? (i := 17) rfl) rfl
theorem wj_9 : Cond.methodLink RJ1 9 yJ0_checkIndex_df160 ∈ Wg := t2_in (List.mem_of_getElem? (i := 10) rfl) rfl
theorem wj_10 : Cond.static yJ0_checkIndex_df160 ∈ Wg := t2_in (List.mem_of_getElem? (i := 11) rfl) rfl
theorem wj_11 : Cond.code yJ0_checkIndex_df160 cJ0_checkIndex_df160 2 none ∈ Wg := t2_in (List.mem_of_getElem? (i := 12) rfl) rfl
theorem wj_12 : Cond.methodLink RJ0 492 yJ0_isLatin1_aae02 ∈ Wg := t2_in (List.mem_of_getElem? (i := 3) rfl) rfl
theorem wj_13 : Cond.instanceMethod yJ0_isLatin1_aae02 ∈ Wg := t2_in (List.mem_of_getElem? (i := 4) rfl) rfl
theorem wj_14 : Cond.selects RJ0 yJ0_isLatin1_aae02 yJ0_isLatin1_aae02 ∈ Wg := t2_in (List.mem_of_getElem? (i := 5) rfl) rfl
theorem wj_15 : Cond.code yJ0_isLatin1_aae02 cJ0_isLatin1_aae02 1 (some .boolean) ∈ Wg := t2_in (List.mem_of_getElem? (i := 6) rfl) rfl
theorem wj_16 : Cond.methodLink RJ0 495 yJ1_charAt_3b067 ∈ Wg := t2_in (List.mem_of_getElem? (i := 7) rfl) rfl
theorem wj_17 : Cond.static yJ1_charAt_3b067 ∈ Wg := t2_in (List.mem_of_getElem? (i := 8) rfl) rfl
theorem wj_18 : Cond.initialized RJ1 ∈ Wg := t1_in (List.mem_of_getElem? (i := 14) rfl) rfl
theorem wj_19 : Cond.code yJ1_charAt_3b067 cJ1_charAt_3b067 2 (some .char) ∈ Wg := t2_in (List.mem_of_getElem? (i := 9) rfl) rfl
theorem wj_20 : Cond.fieldLink RJ0 38 "java/lang/String" "COMPACT_STRINGS" "Z" ∈ Wg := t1_in (List.mem_of_getElem? (i := 237) rfl) rfl
theorem wj_21 : Cond.fieldLink RJ0 15 "java/lang/String" "coder" "B" ∈ Wg := t7_in (List.mem_of_getElem? (i := 33) rfl) rfl
theorem wj_22 : Cond.fieldLink RJ0 9 "java/lang/String" "value" "[B" ∈ Wg := t7_in (List.mem_of_getElem? (i := 32) rfl) rfl
theorem wj_23 : Cond.fieldLink RJ0 1053 "jdk/internal/util/Preconditions" "SIOOBE_FORMATTER" "Ljava/util/function/BiFunction;" ∈ Wg := t2_in (List.mem_of_getElem? (i := 13) rfl) rfl
/-! Texts: their members, walked through the JDK's own code. -/
section VJ
variable {p : Program} {l : Launch} {e : Env} {R : Room} {s : State} {m : MethodId} {args : Array Value} {below : List Frame} {meth : Method} {c : Code} {cc : ByteArray} {nL : Nat} {ret : Option FieldType} {own : String} {Ts : List Cond} {D : va_G} {tys : List (ClassId × FieldType)} {G : (Nat → Prop) → State → Heap → Prop} {A : Nat → Prop} {F : va_W} {cells slots : Nat} {Q : State → Prop} {ws : va_W} {pc : Nat} {lv : List (Nat × Value)} {st : List Value}
theorem v_gets (X : vX p s m args meth c cc nL ret own Ts D tys G A) {C n d9 ref : String} {v : Value} {index : Nat} (d : decode cc pc = .ok (.getstatic index, 3)) (hZ : va_Z C n d9 v A s s.heap) (hlk : Cond.fieldLink own index ref n d9 ∈ Ts) (hsame : C = ref) (q : Nat) (hq : pc + 3 = q) (K : vW p l e R s m args below meth c nL D A F cells slots Q ws q lv (v :: st)) : vW p l e R s m args below meth c nL D A F cells slots Q ws pc lv st := by
  subst hq
  exact fun H locs ls hP hD hS hl => va_gets X.1 X.2.1 hZ hS X.2.2.2.2.1 (X.2.2.2.2.2.1 _ hlk) (fun x h => by rw [← hsame]; exact h) d (K H locs ls hP hD hS hl)
theorem v_kget (X : vX p s m args meth c cc nL ret own Ts D tys G A) {o n d9 ref : String} {v : Value} {index b : Nat} (d : decode cc pc = .ok (.getfield index, 3)) (hE : va_OF o n d9 v b A s s.heap) (hlk : Cond.fieldLink own index ref n d9 ∈ Ts) (hsame : o = ref) (q : Nat) (hq : pc + 3 = q) (K : vW p l e R s m args below meth c nL D A F cells slots Q ws q lv (v :: st)) : vW p l e R s m args below meth c nL D A F cells slots Q ws pc lv (.ref b :: st) := by
  subst hq
  exact fun H locs ls hP hD hS hl => vk_getf X.1 X.2.1 hE hS X.2.2.2.2.1 (X.2.2.2.2.2.1 _ hlk) (fun x h => by rw [← hsame]; exact h) d (K H locs ls hP hD hS hl)
theorem v_tlen (X : vX p s m args meth c cc nL ret own Ts D tys G A) {ty : FieldType} {t N : Nat} {f : Nat → Value} {v : Int32} (d : decode cc pc = .ok (.arraylength, 1)) (hT : va_T ty t N f A s s.heap) (hv : Int32.ofNat N = v) (q : Nat) (hq : pc + 1 = q) (K : vW p l e R s m args below meth c nL D A F cells slots Q ws q lv (.int v :: st)) : vW p l e R s m args below meth c nL D A F cells slots Q ws pc lv (.ref t :: st) := by
  subst hq
  exact fun H locs ls hP hD hS hl => va_tlen X.1 X.2.1 hT hS hv d (K H locs ls hP hD hS hl)
theorem v_tb (X : vX p s m args meth c cc nL ret own Ts D tys G A) {t N : Nat} {f : Nat → Value} {v : Value} {i : Int32} (d : decode cc pc = .ok (.baload, 1)) (hT : va_T .byte t N f A s s.heap) (hin : vp_in i N) (hv : f i.toNatClampNeg = v) (q : Nat) (hq : pc + 1 = q) (K : vW p l e R s m args below meth c nL D A F cells slots Q ws q lv (v :: st)) : vW p l e R s m args below meth c nL D A F cells slots Q ws pc lv (.int i :: .ref t :: st) := by
  subst hq
  exact fun H locs ls hP hD hS hl => va_tb X.1 X.2.1 hT hS hin hv d (K H locs ls hP hD hS hl)
theorem v_i2c (X : vX p s m args meth c cc nL ret own Ts D tys G A) {x : Int32} (d : decode cc pc = .ok (.i2c, 1)) (q : Nat) (hq : pc + 1 = q) (K : vW p l e R s m args below meth c nL D A F cells slots Q ws q lv (.int (x.toUInt32 % 65536).toInt32 :: st)) : vW p l e R s m args below meth c nL D A F cells slots Q ws pc lv (.int x :: st) := by
  subst hq
  exact fun H locs ls hP hD hS hl => lv_i2c X.1 X.2.1 d rfl (K H locs ls hP hD hS hl)
theorem v_lds (X : vX p s m args meth c cc nL ret own Ts D tys G A) {sk sv : Nat → Nat} (hGU : ∀ (A : Nat → Prop) (U : State) (H : Heap), G A U H → vU sk sv A U H) {index i : Nat} {tx : String} (d : decode cc pc = .ok (.ldc index, 2)) (hr : (own, index, tx, i) ∈ RJS) (q : Nat) (hq : pc + 2 = q) (K : vW p l e R s m args below meth c nL D A F cells slots Q ws q lv (.ref (sk i) :: st)) : vW p l e R s m args below meth c nL D A F cells slots Q ws pc lv st := by
  subst hq
  intro H locs ls hP hD hS hl T hT Y
  have hZ := (hGU A s s.heap X.2.2.2.2.2.2.2.2.2.2).2.1 _ hr
  obtain ⟨t, a1, b1⟩ := K H locs ls hP hD hS hl T hT Y
  exact ⟨t, Y.ldcString X.1 X.2.2.2.2.1 (text := tx) (a := sk i) hZ.1 hZ.2 (g := F0 m pc ls st) rfl (by rw [X.2.1]; exact d) t a1, b1⟩
theorem v_ldsw (X : vX p s m args meth c cc nL ret own Ts D tys G A) {sk sv : Nat → Nat} (hGU : ∀ (A : Nat → Prop) (U : State) (H : Heap), G A U H → vU sk sv A U H) {index i : Nat} {tx : String} (d : decode cc pc = .ok (.ldc_w index, 3)) (hr : (own, index, tx, i) ∈ RJS) (q : Nat) (hq : pc + 3 = q) (K : vW p l e R s m args below meth c nL D A F cells slots Q ws q lv (.ref (sk i) :: st)) : vW p l e R s m args below meth c nL D A F cells slots Q ws pc lv st := by
  subst hq
  intro H locs ls hP hD hS hl T hT Y
  have hZ := (hGU A s s.heap X.2.2.2.2.2.2.2.2.2.2).2.1 _ hr
  obtain ⟨t, a1, b1⟩ := K H locs ls hP hD hS hl T hT Y
  exact ⟨t, Y.ldcStringW X.1 X.2.2.2.2.1 (text := tx) (a := sk i) hZ.1 hZ.2 (g := F0 m pc ls st) rfl (by rw [X.2.1]; exact d) t a1, b1⟩
theorem v_callEi (X : vX p s m args meth c cc nL ret own Ts D tys G A) {y : MethodName} {wsy wsy' : List Cond} {rmy : Room} {bytes : ByteArray} {maxL index : Nat} {C : String} {b : Nat} {As rest : List Value} {r : Int32} {ty : FieldType} (hM : mI l y wsy rmy G D tys (.ref b :: As) [] [] 0 0 r []) (n : Nat) (hT : GoodIn Ts (wsV own index C y wsy)) (hw : wsy = Cond.code y bytes maxL (some ty) :: wsy') (hrc : rmy.cells = 0) (hrs : rmy.slots = 0) (hd : y.cls = C ∧ y.cls ≠ "java/lang/invoke/MethodHandle" ∧ y.cls ≠ "java/lang/invoke/VarHandle" ∧ (parseMethodDescriptor y.desc).map (fun d => d.parameters.length) = some n) (hR : rmy.frames + 1 ≤ R.frames ∧ 8 + (maxL + 11) + rmy.locals ≤ R.locals)
    (hrv : ∀ (H : Heap) (locs : List Loc), va_S A s.heap H locs → ∃ cell : Cell, H[b]? = some cell ∧ cell.vm.isStatics = false ∧ s.vm.findClass C = some cell.cls) (hn : As.length = n) (hst : st = As.reverse ++ .ref b :: rest) (hW : (rest.map fun v => v.category).sum ≤ 8) (hf : cells ≤ R.cells ∧ slots ≤ R.slots) (d : decode cc pc = .ok (.invokevirtual index, 3)) (q : Nat) (hq : pc + 3 = q) (K : vW p l e R s m args below meth c nL D A F cells slots Q ws q lv (.int r :: rest)) : vW p l e R s m args below meth c nL D A F cells slots Q ws pc lv st := by
  subst hq
  subst hst
  intro H locs ls hP hD hS hl
  have hFc : ∀ q, va_A ([] ++ []) H.size q → A q := fun q h => by
    rcases h with ⟨k, e2, h⟩ | h
    · simp at h
    · exact X.2.2.2.2.2.2.2.2.1 q (Nat.le_trans hS.1 h)
  have hpc : ∀ (av : List Value) (U : State), U.heap = H → s.WarmedH U.vm → va_Pc av (pW G D tys H.size ([] ++ [])) av.toArray U := fun av U hU hW => ⟨rfl, by rw [hU], fun k q h => by simp at h, va_K.moved hW.alike X.2.2.2.2.2.2.2.1, ⟨fun i j p q h => by simp at h, fun k q h => by simp at h⟩, by
    rw [hU]
    exact X.2.2.2.2.2.2.2.2.2.1.2.2.1 _ s U H hW (X.2.2.2.2.2.2.2.2.2.1.1 _ _ s H (X.2.2.2.2.2.2.2.2.2.1.2.1 _ s _ _ X.2.2.2.2.2.2.2.2.2.2 hS.2.1) hFc)⟩
  refine va_calli (va_runV ⟨X.1, X.2.1, X.2.2.2.1, X.2.2.2.2.1, X.2.2.2.2.2.1⟩ (hM H.size) (cwV n X.2.2.2.2.2.1 hT hw hrc hrs hd hR) ⟨pW_blind X.2.2.2.2.2.2.2.2.2.1, hrv H locs hS, hpc (.ref b :: As)⟩ rfl hn hl.1 rfl (lv_room hW) d hf) hS (fun q _ h => hFc q h) (fun q h => hFc q h) (fun r' u t H1 locs1 ht hvm hpost hB hz1 hk1 hS => ?_)
  subst hpost
  obtain ⟨hP1, hK1, hD1⟩ := hB
  have hkk : ∀ q : Nat, q < H.size → H1[q]? = H[q]? := fun q hq => hk1 q hq (fun h => by
    rcases h with ⟨k, e2, h⟩ | h
    · simp at h
    · omega)
  exact K H1 locs1 ls (fun k q hq => (hP k q hq).kept (hkk q.1 (hP k q hq).lt)) hD hS hl
theorem v_callZi (X : vX p s m args meth c cc nL ret own Ts D tys G A) {y : MethodName} {wsy wsy' : List Cond} {rmy : Room} {bytes : ByteArray} {maxL index : Nat} {As rest : List Value} {r : Int32} {ty : FieldType} (hM : mI l y wsy rmy G D tys As [] [] 0 0 r []) (n : Nat) (hT : GoodIn Ts (va_wsS own index y wsy)) (hw : wsy = Cond.code y bytes maxL (some ty) :: wsy') (hrc : rmy.cells = 0) (hrs : rmy.slots = 0) (hd : y.cls ≠ "java/lang/invoke/MethodHandle" ∧ y.cls ≠ "java/lang/invoke/VarHandle" ∧ (parseMethodDescriptor y.desc).map (fun d => d.parameters.length) = some n) (hR : rmy.frames + 1 ≤ R.frames ∧ 8 + (maxL + 11) + rmy.locals ≤ R.locals)
    (hn : As.length = n) (hst : st = As.reverse ++ rest) (hW : (rest.map fun v => v.category).sum ≤ 8) (hf : cells ≤ R.cells ∧ slots ≤ R.slots) (d : decode cc pc = .ok (.invokestatic index, 3)) (q : Nat) (hq : pc + 3 = q) (K : vW p l e R s m args below meth c nL D A F cells slots Q ws q lv (.int r :: rest)) : vW p l e R s m args below meth c nL D A F cells slots Q ws pc lv st := by
  subst hq
  subst hst
  intro H locs ls hP hD hS hl
  have hFc : ∀ q, va_A ([] ++ []) H.size q → A q := fun q h => by
    rcases h with ⟨k, e2, h⟩ | h
    · simp at h
    · exact X.2.2.2.2.2.2.2.2.1 q (Nat.le_trans hS.1 h)
  have hpc : ∀ (av : List Value) (U : State), U.heap = H → s.WarmedH U.vm → va_Pc av (pW G D tys H.size ([] ++ [])) av.toArray U := fun av U hU hW => ⟨rfl, by rw [hU], fun k q h => by simp at h, va_K.moved hW.alike X.2.2.2.2.2.2.2.1, ⟨fun i j p q h => by simp at h, fun k q h => by simp at h⟩, by
    rw [hU]
    exact X.2.2.2.2.2.2.2.2.2.1.2.2.1 _ s U H hW (X.2.2.2.2.2.2.2.2.2.1.1 _ _ s H (X.2.2.2.2.2.2.2.2.2.1.2.1 _ s _ _ X.2.2.2.2.2.2.2.2.2.2 hS.2.1) hFc)⟩
  refine va_calli (va_runS ⟨X.1, X.2.1, X.2.2.2.1, X.2.2.2.2.1, X.2.2.2.2.2.1⟩ (hM H.size) (va_cwS n X.2.2.2.2.2.1 hT hw hrc hrs hd hR) ⟨pW_blind X.2.2.2.2.2.2.2.2.2.1, hpc As⟩ rfl hn hl.1 rfl (lv_room hW) d hf) hS (fun q _ h => hFc q h) (fun q h => hFc q h) (fun r' u t H1 locs1 ht hvm hpost hB hz1 hk1 hS => ?_)
  subst hpost
  obtain ⟨hP1, hK1, hD1⟩ := hB
  have hkk : ∀ q : Nat, q < H.size → H1[q]? = H[q]? := fun q hq => hk1 q hq (fun h => by
    rcases h with ⟨k, e2, h⟩ | h
    · simp at h
    · omega)
  exact K H1 locs1 ls (fun k q hq => (hP k q hq).kept (hkk q.1 (hP k q hq).lt)) hD hS hl
theorem v_callEv (X : vX p s m args meth c cc nL ret own Ts D tys G A) {y : MethodName} {wsy wsy' : List Cond} {rmy : Room} {bytes : ByteArray} {maxL index : Nat} {C : String} {b : Nat} {As rest : List Value} (hM : mV l y wsy rmy G D tys (.ref b :: As) [] [] 0 0 []) (n : Nat) (hT : GoodIn Ts (wsV own index C y wsy)) (hw : wsy = Cond.code y bytes maxL none :: wsy') (hrc : rmy.cells = 0) (hrs : rmy.slots = 0) (hd : y.cls = C ∧ y.cls ≠ "java/lang/invoke/MethodHandle" ∧ y.cls ≠ "java/lang/invoke/VarHandle" ∧ (parseMethodDescriptor y.desc).map (fun d => d.parameters.length) = some n) (hR : rmy.frames + 1 ≤ R.frames ∧ 8 + (maxL + 11) + rmy.locals ≤ R.locals)
    (hrv : ∀ (H : Heap) (locs : List Loc), va_S A s.heap H locs → ∃ cell : Cell, H[b]? = some cell ∧ cell.vm.isStatics = false ∧ s.vm.findClass C = some cell.cls) (hn : As.length = n) (hst : st = As.reverse ++ .ref b :: rest) (hW : (rest.map fun v => v.category).sum ≤ 8) (hf : cells ≤ R.cells ∧ slots ≤ R.slots) (d : decode cc pc = .ok (.invokevirtual index, 3)) (q : Nat) (hq : pc + 3 = q) (K : vW p l e R s m args below meth c nL D A F cells slots Q ws q lv rest) : vW p l e R s m args below meth c nL D A F cells slots Q ws pc lv st := by
  subst hq
  subst hst
  intro H locs ls hP hD hS hl
  have hFc : ∀ q, va_A ([] ++ []) H.size q → A q := fun q h => by
    rcases h with ⟨k, e2, h⟩ | h
    · simp at h
    · exact X.2.2.2.2.2.2.2.2.1 q (Nat.le_trans hS.1 h)
  have hpc : ∀ (av : List Value) (U : State), U.heap = H → s.WarmedH U.vm → va_Pc av (pW G D tys H.size ([] ++ [])) av.toArray U := fun av U hU hW => ⟨rfl, by rw [hU], fun k q h => by simp at h, va_K.moved hW.alike X.2.2.2.2.2.2.2.1, ⟨fun i j p q h => by simp at h, fun k q h => by simp at h⟩, by
    rw [hU]
    exact X.2.2.2.2.2.2.2.2.2.1.2.2.1 _ s U H hW (X.2.2.2.2.2.2.2.2.2.1.1 _ _ s H (X.2.2.2.2.2.2.2.2.2.1.2.1 _ s _ _ X.2.2.2.2.2.2.2.2.2.2 hS.2.1) hFc)⟩
  refine va_callv (va_runV ⟨X.1, X.2.1, X.2.2.2.1, X.2.2.2.2.1, X.2.2.2.2.2.1⟩ (hM H.size) (cwV n X.2.2.2.2.2.1 hT hw hrc hrs hd hR) ⟨pW_blind X.2.2.2.2.2.2.2.2.2.1, hrv H locs hS, hpc (.ref b :: As)⟩ rfl hn hl.1 rfl (lv_room hW) d hf) hS (fun q _ h => hFc q h) (fun q h => hFc q h) (fun u t H1 locs1 ht hvm hpost hB hz1 hk1 hS => ?_)
  obtain ⟨hP1, hK1, hD1⟩ := hB
  have hkk : ∀ q : Nat, q < H.size → H1[q]? = H[q]? := fun q hq => hk1 q hq (fun h => by
    rcases h with ⟨k, e2, h⟩ | h
    · simp at h
    · omega)
  exact K H1 locs1 ls (fun k q hq => (hP k q hq).kept (hkk q.1 (hP k q hq).lt)) hD hS hl
theorem v_callZv (X : vX p s m args meth c cc nL ret own Ts D tys G A) {y : MethodName} {wsy wsy' : List Cond} {rmy : Room} {bytes : ByteArray} {maxL index : Nat} {As rest : List Value} (hM : mV l y wsy rmy G D tys As [] [] 0 0 []) (n : Nat) (hT : GoodIn Ts (va_wsS own index y wsy)) (hw : wsy = Cond.code y bytes maxL none :: wsy') (hrc : rmy.cells = 0) (hrs : rmy.slots = 0) (hd : y.cls ≠ "java/lang/invoke/MethodHandle" ∧ y.cls ≠ "java/lang/invoke/VarHandle" ∧ (parseMethodDescriptor y.desc).map (fun d => d.parameters.length) = some n) (hR : rmy.frames + 1 ≤ R.frames ∧ 8 + (maxL + 11) + rmy.locals ≤ R.locals)
    (hn : As.length = n) (hst : st = As.reverse ++ rest) (hW : (rest.map fun v => v.category).sum ≤ 8) (hf : cells ≤ R.cells ∧ slots ≤ R.slots) (d : decode cc pc = .ok (.invokestatic index, 3)) (q : Nat) (hq : pc + 3 = q) (K : vW p l e R s m args below meth c nL D A F cells slots Q ws q lv rest) : vW p l e R s m args below meth c nL D A F cells slots Q ws pc lv st := by
  subst hq
  subst hst
  intro H locs ls hP hD hS hl
  have hFc : ∀ q, va_A ([] ++ []) H.size q → A q := fun q h => by
    rcases h with ⟨k, e2, h⟩ | h
    · simp at h
    · exact X.2.2.2.2.2.2.2.2.1 q (Nat.le_trans hS.1 h)
  have hpc : ∀ (av : List Value) (U : State), U.heap = H → s.WarmedH U.vm → va_Pc av (pW G D tys H.size ([] ++ [])) av.toArray U := fun av U hU hW => ⟨rfl, by rw [hU], fun k q h => by simp at h, va_K.moved hW.alike X.2.2.2.2.2.2.2.1, ⟨fun i j p q h => by simp at h, fun k q h => by simp at h⟩, by
    rw [hU]
    exact X.2.2.2.2.2.2.2.2.2.1.2.2.1 _ s U H hW (X.2.2.2.2.2.2.2.2.2.1.1 _ _ s H (X.2.2.2.2.2.2.2.2.2.1.2.1 _ s _ _ X.2.2.2.2.2.2.2.2.2.2 hS.2.1) hFc)⟩
  refine va_callv (va_runS ⟨X.1, X.2.1, X.2.2.2.1, X.2.2.2.2.1, X.2.2.2.2.2.1⟩ (hM H.size) (va_cwS n X.2.2.2.2.2.1 hT hw hrc hrs hd hR) ⟨pW_blind X.2.2.2.2.2.2.2.2.2.1, hpc As⟩ rfl hn hl.1 rfl (lv_room hW) d hf) hS (fun q _ h => hFc q h) (fun q h => hFc q h) (fun u t H1 locs1 ht hvm hpost hB hz1 hk1 hS => ?_)
  obtain ⟨hP1, hK1, hD1⟩ := hB
  have hkk : ∀ q : Nat, q < H.size → H1[q]? = H[q]? := fun q hq => hk1 q hq (fun h => by
    rcases h with ⟨k, e2, h⟩ | h
    · simp at h
    · omega)
  exact K H1 locs1 ls (fun k q hq => (hP k q hq).kept (hkk q.1 (hP k q hq).lt)) hD hS hl
end VJ
set_option maxRecDepth 100000 in
set_option maxHeartbeats 4000000 in
theorem c_J0_coder (l : Launch) {G : (Nat → Prop) → State → Heap → Prop} (hG : vG G) (D : va_G) (c9 : Nat → ClassId) {sk sv : Nat → Nat} (hGU : ∀ (A : Nat → Prop) (U : State) (H : Heap), G A U H → vU sk sv A U H) {i : Nat} (hi : i < nJS) : mI l yJ0_coder_7d493 (wq yJ0_coder_7d493 cJ0_coder_7d493 1 (some .byte)) { frames := 0, cells := 0, slots := 0, locals := 0 } G D (tyA c9) [.ref (sk i)] [] [] 0 0 0 [] := by
  refine mI_of hG (cc := cJ0_coder_7d493) (maxL := 1) (ty := .byte) (by decide) rfl (Nat.le_of_ble_eq_true rfl) ?_
  intro p e s m args below meth c A X
  have X : vX p s m args meth c cJ0_coder_7d493 1 (some .byte) RJ0 (wq yJ0_coder_7d493 cJ0_coder_7d493 1 (some .byte)) D (tyA c9) G A := X
  have U := hGU A s s.heap X.2.2.2.2.2.2.2.2.2.2
  refine v_eq (lv2 := [(0, .ref (sk i))]) rfl rfl rfl rfl ?_
  refine v_gets X dJ0_coder_7d493_0 U.2.2.1 (mw wj_20) rfl 3 rfl ?_
  refine v_if_eq X (tgt := 13) dJ0_coder_7d493_3 rfl 6 rfl (a := none) (b := some ()) (o := ()) (if_neg (by decide)) (fun h => nomatch h) (fun _ => ?_)
  refine v_aload_n X dJ0_coder_7d493_6 0 rfl rfl 7 rfl ?_
  refine v_kget X dJ0_coder_7d493_7 (U.1.1 i hi).2.1 (mw wj_21) rfl 10 rfl ?_
  refine v_goto X (tgt := 14) dJ0_coder_7d493_10 rfl ?_
  exact v_zret X (Nat.zero_le _) (Nat.zero_le _) rfl dJ0_coder_7d493_14
set_option maxRecDepth 100000 in
set_option maxHeartbeats 4000000 in
theorem c_J0_isLatin1 (l : Launch) {G : (Nat → Prop) → State → Heap → Prop} (hG : vG G) (D : va_G) (c9 : Nat → ClassId) {sk sv : Nat → Nat} (hGU : ∀ (A : Nat → Prop) (U : State) (H : Heap), G A U H → vU sk sv A U H) {i : Nat} (hi : i < nJS) : mI l yJ0_isLatin1_aae02 (wq yJ0_isLatin1_aae02 cJ0_isLatin1_aae02 1 (some .boolean)) { frames := 0, cells := 0, slots := 0, locals := 0 } G D (tyA c9) [.ref (sk i)] [] [] 0 0 1 [] := by
  refine mI_of hG (cc := cJ0_isLatin1_aae02) (maxL := 1) (ty := .boolean) (by decide) rfl (Nat.le_of_ble_eq_true rfl) ?_
  intro p e s m args below meth c A X
  have X : vX p s m args meth c cJ0_isLatin1_aae02 1 (some .boolean) RJ0 (wq yJ0_isLatin1_aae02 cJ0_isLatin1_aae02 1 (some .boolean)) D (tyA c9) G A := X
  have U := hGU A s s.heap X.2.2.2.2.2.2.2.2.2.2
  refine v_eq (lv2 := [(0, .ref (sk i))]) rfl rfl rfl rfl ?_
  refine v_gets X dJ0_isLatin1_aae02_0 U.2.2.1 (mw wj_20) rfl 3 rfl ?_
  refine v_if_eq X (tgt := 17) dJ0_isLatin1_aae02_3 rfl 6 rfl (a := none) (b := some ()) (o := ()) (if_neg (by decide)) (fun h => nomatch h) (fun _ => ?_)
  refine v_aload_n X dJ0_isLatin1_aae02_6 0 rfl rfl 7 rfl ?_
  refine v_kget X dJ0_isLatin1_aae02_7 (U.1.1 i hi).2.1 (mw wj_21) rfl 10 rfl ?_
  refine v_if_ne X (tgt := 17) dJ0_isLatin1_aae02_10 rfl 13 rfl (a := none) (b := some ()) (o := ()) (if_pos rfl) (fun h => nomatch h) (fun _ => ?_)
  refine v_iconst X (v := 1) dJ0_isLatin1_aae02_13 (by decide) 14 rfl ?_
  refine v_goto X (tgt := 18) dJ0_isLatin1_aae02_14 rfl ?_
  exact v_zret X (Nat.zero_le _) (Nat.zero_le _) rfl dJ0_isLatin1_aae02_18
theorem sl_small : ∀ i, i < nJS → (lenJS.getD i 0) < 2 ^ 31 := by decide +kernel
theorem sl_shr : ∀ i, i < nJS → Int32.ofNat (lenJS.getD i 0) >>> ((0 : Int32) &&& 31) = slen i := by decide +kernel
set_option maxRecDepth 100000 in
set_option maxHeartbeats 4000000 in
theorem c_J0_length (l : Launch) {G : (Nat → Prop) → State → Heap → Prop} (hG : vG G) (D : va_G) (c9 : Nat → ClassId) {sk sv : Nat → Nat} (hGU : ∀ (A : Nat → Prop) (U : State) (H : Heap), G A U H → vU sk sv A U H) {i : Nat} (hi : i < nJS) : mI l yJ0_length_8abf5 (wq yJ0_length_8abf5 cJ0_length_8abf5 1 (some .int)) { frames := 1, cells := 0, slots := 0, locals := 30 } G D (tyA c9) [.ref (sk i)] [] [] 0 0 (slen i) [] := by
  refine mI_of hG (cc := cJ0_length_8abf5) (maxL := 1) (ty := .int) (by decide) rfl (Nat.le_of_ble_eq_true rfl) ?_
  intro p e s m args below meth c A X
  have X : vX p s m args meth c cJ0_length_8abf5 1 (some .int) RJ0 (wq yJ0_length_8abf5 cJ0_length_8abf5 1 (some .int)) D (tyA c9) G A := X
  have U := hGU A s s.heap X.2.2.2.2.2.2.2.2.2.2
  refine v_eq (lv2 := [(0, .ref (sk i))]) rfl rfl rfl rfl ?_
  refine v_aload_n X dJ0_length_8abf5_0 0 rfl rfl 1 rfl ?_
  refine v_kget X dJ0_length_8abf5_1 (U.1.1 i hi).2.2.1 (mw wj_22) rfl 4 rfl ?_
  refine v_tlen X dJ0_length_8abf5_4 (U.1.1 i hi).2.2.2 rfl 5 rfl ?_
  refine v_aload_n X dJ0_length_8abf5_5 0 rfl rfl 6 rfl ?_
  refine v_callEi X (C := RJ0) (As := []) (rest := [.int (Int32.ofNat (lenJS.getD i 0))]) (c_J0_coder l hG D c9 hGU hi) 0 (gV wj_0 wj_1 wj_2 wj_3 wj_4) rfl rfl rfl ⟨rfl, by decide +kernel⟩ ⟨Nat.le_of_ble_eq_true rfl, Nat.le_of_ble_eq_true rfl⟩ (fun H locs hS => vk_recv U.1 hi hS) rfl rfl (Nat.le_of_ble_eq_true rfl) ⟨Nat.zero_le _, Nat.zero_le _⟩ dJ0_length_8abf5_6 9 rfl ?_
  refine v_ishr X dJ0_length_8abf5_9 10 rfl ?_
  rw [sl_shr i hi]
  exact v_iret X (Nat.zero_le _) (Nat.zero_le _) dJ0_length_8abf5_10
set_option maxRecDepth 100000 in
set_option maxHeartbeats 4000000 in
theorem c_J3_checkIndex (l : Launch) {G : (Nat → Prop) → State → Heap → Prop} (hG : vG G) (D : va_G) (c9 : Nat → ClassId) {k n : Int32} (h0 : ¬ k < 0) (h1 : k < n) {v : Value} (hv : v = .null ∨ ∃ t : Nat, v = .ref t) : mI l yJ3_checkIndex_8e157 (wq yJ3_checkIndex_8e157 cJ3_checkIndex_8e157 3 (some .int)) { frames := 0, cells := 0, slots := 0, locals := 0 } G D (tyA c9) [.int k, .int n, v] [] [] 0 0 k [] := by
  have hlen : (lg_sl [.int k, .int n, v]).length ≤ 3 := by rcases hv with rfl | ⟨t, rfl⟩ <;> exact Nat.le_of_ble_eq_true rfl
  have hlv : ∃ r, lv_args 0 [.int k, .int n, v] = (0, .int k) :: (1, .int n) :: r := ⟨_, rfl⟩
  refine mI_of hG (cc := cJ3_checkIndex_8e157) (maxL := 3) (ty := .int) (by decide) rfl hlen ?_
  intro p e s m args below meth c A X
  have X : vX p s m args meth c cJ3_checkIndex_8e157 3 (some .int) RJ3 (wq yJ3_checkIndex_8e157 cJ3_checkIndex_8e157 3 (some .int)) D (tyA c9) G A := X
  obtain ⟨r, hr⟩ := hlv
  rw [hr]
  refine v_sub (lv' := [(0, .int k), (1, .int n)]) [0, 1] rfl ?_
  refine v_iload_n X dJ3_checkIndex_8e157_0 0 rfl rfl 1 rfl ?_
  refine v_if_lt X (tgt := 9) dJ3_checkIndex_8e157_1 rfl 4 rfl (a := none) (b := some ()) (o := ()) (if_neg h0) (fun h => nomatch h) (fun _ => ?_)
  refine v_iload_n X dJ3_checkIndex_8e157_4 0 rfl rfl 5 rfl ?_
  refine v_iload_n X dJ3_checkIndex_8e157_5 1 rfl rfl 6 rfl ?_
  refine v_icmp_lt X (tgt := 16) dJ3_checkIndex_8e157_6 rfl 9 rfl (a := some ()) (b := none) (o := ()) (if_pos h1) (fun _ => ?_) (fun h => nomatch h)
  refine v_iload_n X dJ3_checkIndex_8e157_16 0 rfl rfl 17 rfl ?_
  exact v_iret X (Nat.zero_le _) (Nat.zero_le _) dJ3_checkIndex_8e157_17
set_option maxRecDepth 100000 in
set_option maxHeartbeats 4000000 in
theorem c_J0_checkIndex (l : Launch) {G : (Nat → Prop) → State → Heap → Prop} (hG : vG G) (D : va_G) (c9 : Nat → ClassId) {sk sv : Nat → Nat} (hGU : ∀ (A : Nat → Prop) (U : State) (H : Heap), G A U H → vU sk sv A U H) {i : Nat} (hi : i < nJS) {k n : Int32} (h0 : ¬ k < 0) (h1 : k < n) : mV l yJ0_checkIndex_df160 (wq yJ0_checkIndex_df160 cJ0_checkIndex_df160 2 none) { frames := 1, cells := 0, slots := 0, locals := 40 } G D (tyA c9) [.int k, .int n] [] [] 0 0 [] := by
  refine mV_of hG (cc := cJ0_checkIndex_df160) (maxL := 2) (by decide) rfl (Nat.le_of_ble_eq_true rfl) ?_
  intro p e s m args below meth c A hnm X
  have X : vX p s m args meth c cJ0_checkIndex_df160 2 none RJ0 (wq yJ0_checkIndex_df160 cJ0_checkIndex_df160 2 none) D (tyA c9) G A := X
  have U := hGU A s s.heap X.2.2.2.2.2.2.2.2.2.2
  refine v_eq (lv2 := [(0, .int k), (1, .int n)]) rfl rfl rfl rfl ?_
  have hq : ∃ v : Value, (v = .null ∨ ∃ t : Nat, v = .ref t) ∧ va_Z "jdk/internal/util/Preconditions" "SIOOBE_FORMATTER" "Ljava/util/function/BiFunction;" v A s s.heap := by
    rcases U.2.2.2.1 with h | ⟨t, h⟩
    · exact ⟨_, Or.inl rfl, h⟩
    · exact ⟨_, Or.inr ⟨t, rfl⟩, h⟩
  obtain ⟨v, hv, hZ⟩ := hq
  refine v_iload_n X dJ0_checkIndex_df160_0 0 rfl rfl 1 rfl ?_
  refine v_iload_n X dJ0_checkIndex_df160_1 1 rfl rfl 2 rfl ?_
  refine v_gets X dJ0_checkIndex_df160_2 hZ (mw wj_23) rfl 5 rfl ?_
  refine v_callZi X (As := [.int k, .int n, v]) (rest := []) (c_J3_checkIndex l hG D c9 h0 h1 hv) 3 (gS wj_5 wj_6 wj_7 wj_8) rfl rfl rfl (by decide +kernel) ⟨Nat.le_of_ble_eq_true rfl, Nat.le_of_ble_eq_true rfl⟩ rfl rfl (Nat.le_of_ble_eq_true rfl) ⟨Nat.zero_le _, Nat.zero_le _⟩ dJ0_checkIndex_df160_5 8 rfl ?_
  refine v_pop X dJ0_checkIndex_df160_8 rfl 9 rfl ?_
  exact v_vret X (Nat.zero_le _) (Nat.zero_le _) dJ0_checkIndex_df160_9
theorem sc_narS (i k : Nat) : narrow .char (.int (schv i k)) = .int (schv i k) := by
  unfold schv
  generalize (bytJS.getD i []).getD k 0 &&& 255 = x
  show Value.int _ = Value.int _
  congr 1
  simp
  rw [show x.toUInt32 % 65536 % 65536 = x.toUInt32 % 65536 from UInt32.toNat_inj.mp (by simp [UInt32.toNat_mod])]

set_option maxRecDepth 100000 in
set_option maxHeartbeats 4000000 in
theorem c_J1_charAt (l : Launch) {G : (Nat → Prop) → State → Heap → Prop} (hG : vG G) (D : va_G) (c9 : Nat → ClassId) {sk sv : Nat → Nat} (hGU : ∀ (A : Nat → Prop) (U : State) (H : Heap), G A U H → vU sk sv A U H) {i : Nat} (hi : i < nJS) {k : Int32} (h0 : ¬ k < 0) (hk : k.toNatClampNeg < lenJS.getD i 0) : mI l yJ1_charAt_3b067 (wq yJ1_charAt_3b067 cJ1_charAt_3b067 2 (some .char)) { frames := 2, cells := 0, slots := 0, locals := 80 } G D (tyA c9) [.ref (sv i), .int k] [] [] 0 0 (schv i k.toNatClampNeg) [] := by
  refine mI_of hG (cc := cJ1_charAt_3b067) (maxL := 2) (ty := .char) (by decide) rfl (Nat.le_of_ble_eq_true rfl) ?_
  intro p e s m args below meth c A X
  have X : vX p s m args meth c cJ1_charAt_3b067 2 (some .char) RJ1 (wq yJ1_charAt_3b067 cJ1_charAt_3b067 2 (some .char)) D (tyA c9) G A := X
  have U := hGU A s s.heap X.2.2.2.2.2.2.2.2.2.2
  refine v_eq (lv2 := [(0, .ref (sv i)), (1, .int k)]) rfl rfl rfl rfl ?_
  have hin : vp_in k (lenJS.getD i 0) := by rintro (h | h); exact h0 h; omega
  have h1 : k < Int32.ofNat (lenJS.getD i 0) := by obtain ⟨j, hj, rfl⟩ := vp_in_of hin (sl_small i hi); exact nI_lt hj (sl_small i hi)
  refine v_iload_n X dJ1_charAt_3b067_0 1 rfl rfl 1 rfl ?_
  refine v_aload_n X dJ1_charAt_3b067_1 0 rfl rfl 2 rfl ?_
  refine v_tlen X dJ1_charAt_3b067_2 (U.1.1 i hi).2.2.2 rfl 3 rfl ?_
  refine v_callZv X (As := [.int k, .int (Int32.ofNat (lenJS.getD i 0))]) (rest := []) (c_J0_checkIndex l hG D c9 hGU hi h0 h1) 2 (gS wj_9 wj_10 wj_3 wj_11) rfl rfl rfl (by decide +kernel) ⟨Nat.le_of_ble_eq_true rfl, Nat.le_of_ble_eq_true rfl⟩ rfl rfl (Nat.le_of_ble_eq_true rfl) ⟨Nat.zero_le _, Nat.zero_le _⟩ dJ1_charAt_3b067_3 6 rfl ?_
  refine v_aload_n X dJ1_charAt_3b067_6 0 rfl rfl 7 rfl ?_
  refine v_iload_n X dJ1_charAt_3b067_7 1 rfl rfl 8 rfl ?_
  refine v_tb X dJ1_charAt_3b067_8 (U.1.1 i hi).2.2.2 hin rfl 9 rfl ?_
  refine v_sipush X (v := 255) dJ1_charAt_3b067_9 (by decide) 12 rfl ?_
  refine v_iand X dJ1_charAt_3b067_12 13 rfl ?_
  refine v_i2c X dJ1_charAt_3b067_13 14 rfl ?_
  exact v_zret X (Nat.zero_le _) (Nat.zero_le _) (sc_narS _ _) dJ1_charAt_3b067_14
set_option maxRecDepth 100000 in
set_option maxHeartbeats 4000000 in
theorem c_J0_charAt (l : Launch) {G : (Nat → Prop) → State → Heap → Prop} (hG : vG G) (D : va_G) (c9 : Nat → ClassId) {sk sv : Nat → Nat} (hGU : ∀ (A : Nat → Prop) (U : State) (H : Heap), G A U H → vU sk sv A U H) {i : Nat} (hi : i < nJS) {k : Int32} (h0 : ¬ k < 0) (hk : k.toNatClampNeg < lenJS.getD i 0) : mI l yJ0_charAt_5068e (wq yJ0_charAt_5068e cJ0_charAt_5068e 2 (some .char)) { frames := 3, cells := 0, slots := 0, locals := 120 } G D (tyA c9) [.ref (sk i), .int k] [] [] 0 0 (schv i k.toNatClampNeg) [] := by
  refine mI_of hG (cc := cJ0_charAt_5068e) (maxL := 2) (ty := .char) (by decide) rfl (Nat.le_of_ble_eq_true rfl) ?_
  intro p e s m args below meth c A X
  have X : vX p s m args meth c cJ0_charAt_5068e 2 (some .char) RJ0 (wq yJ0_charAt_5068e cJ0_charAt_5068e 2 (some .char)) D (tyA c9) G A := X
  have U := hGU A s s.heap X.2.2.2.2.2.2.2.2.2.2
  refine v_eq (lv2 := [(0, .ref (sk i)), (1, .int k)]) rfl rfl rfl rfl ?_
  refine v_aload_n X dJ0_charAt_5068e_0 0 rfl rfl 1 rfl ?_
  refine v_callEi X (C := RJ0) (As := []) (rest := []) (c_J0_isLatin1 l hG D c9 hGU hi) 0 (gV wj_12 wj_13 wj_14 wj_3 wj_15) rfl rfl rfl ⟨rfl, by decide +kernel⟩ ⟨Nat.le_of_ble_eq_true rfl, Nat.le_of_ble_eq_true rfl⟩ (fun H locs hS => vk_recv U.1 hi hS) rfl rfl (Nat.le_of_ble_eq_true rfl) ⟨Nat.zero_le _, Nat.zero_le _⟩ dJ0_charAt_5068e_1 4 rfl ?_
  refine v_if_eq X (tgt := 16) dJ0_charAt_5068e_4 rfl 7 rfl (a := none) (b := some ()) (o := ()) (if_neg (by decide)) (fun h => nomatch h) (fun _ => ?_)
  refine v_aload_n X dJ0_charAt_5068e_7 0 rfl rfl 8 rfl ?_
  refine v_kget X dJ0_charAt_5068e_8 (U.1.1 i hi).2.2.1 (mw wj_22) rfl 11 rfl ?_
  refine v_iload_n X dJ0_charAt_5068e_11 1 rfl rfl 12 rfl ?_
  refine v_callZi X (As := [.ref (sv i), .int k]) (rest := []) (c_J1_charAt l hG D c9 hGU hi h0 hk) 2 (gS wj_16 wj_17 wj_18 wj_19) rfl rfl rfl (by decide +kernel) ⟨Nat.le_of_ble_eq_true rfl, Nat.le_of_ble_eq_true rfl⟩ rfl rfl (Nat.le_of_ble_eq_true rfl) ⟨Nat.zero_le _, Nat.zero_le _⟩ dJ0_charAt_5068e_12 15 rfl ?_
  exact v_zret X (Nat.zero_le _) (Nat.zero_le _) (sc_narS _ _) dJ0_charAt_5068e_15
section VJ2
variable {p : Program} {l : Launch} {e : Env} {R : Room} {s : State} {m : MethodId} {args : Array Value} {below : List Frame} {meth : Method} {c : Code} {cc : ByteArray} {nL : Nat} {ret : Option FieldType} {own : String} {Ts : List Cond} {D : va_G} {tys : List (ClassId × FieldType)} {G : (Nat → Prop) → State → Heap → Prop} {A : Nat → Prop} {F : va_W} {cells slots : Nat} {Q : State → Prop} {ws : va_W} {pc : Nat} {lv : List (Nat × Value)} {st : List Value}
theorem v_slen {c9 : Nat → ClassId} (X : vX p s m args meth c cc nL ret own Ts D (tyA c9) G A) {sk sv : Nat → Nat} (hGU : ∀ (A : Nat → Prop) (U : State) (H : Heap), G A U H → vU sk sv A U H) {i index : Nat} (hi : i < nJS) {rest : List Value} (hT : GoodIn Ts (wsV own index RJ0 yJ0_length_8abf5 (wq yJ0_length_8abf5 cJ0_length_8abf5 1 (some .int)))) (hR : 1 + 1 ≤ R.frames ∧ 8 + (1 + 11) + 30 ≤ R.locals) (hW : (rest.map fun v => v.category).sum ≤ 8) (hf : cells ≤ R.cells ∧ slots ≤ R.slots) (d : decode cc pc = .ok (.invokevirtual index, 3)) (q : Nat) (hq : pc + 3 = q) (K : vW p l e R s m args below meth c nL D A F cells slots Q ws q lv (.int (slen i) :: rest)) : vW p l e R s m args below meth c nL D A F cells slots Q ws pc lv (.ref (sk i) :: rest) := by
  have U := hGU A s s.heap X.2.2.2.2.2.2.2.2.2.2
  exact v_callEi X (C := RJ0) (As := []) (rest := rest) (c_J0_length l X.2.2.2.2.2.2.2.2.2.1 D c9 hGU hi) 0 hT rfl rfl rfl ⟨rfl, by decide +kernel⟩ hR (fun H locs hS => vk_recv U.1 hi hS) rfl rfl hW hf d q hq K
theorem v_sch {c9 : Nat → ClassId} (X : vX p s m args meth c cc nL ret own Ts D (tyA c9) G A) {sk sv : Nat → Nat} (hGU : ∀ (A : Nat → Prop) (U : State) (H : Heap), G A U H → vU sk sv A U H) {i index : Nat} (hi : i < nJS) {k x : Int32} (h : sch i k = some x) {rest : List Value} (hT : GoodIn Ts (wsV own index RJ0 yJ0_charAt_5068e (wq yJ0_charAt_5068e cJ0_charAt_5068e 2 (some .char)))) (hR : 3 + 1 ≤ R.frames ∧ 8 + (2 + 11) + 120 ≤ R.locals) (hW : (rest.map fun v => v.category).sum ≤ 8) (hf : cells ≤ R.cells ∧ slots ≤ R.slots) (d : decode cc pc = .ok (.invokevirtual index, 3)) (q : Nat) (hq : pc + 3 = q) (K : vW p l e R s m args below meth c nL D A F cells slots Q ws q lv (.int x :: rest)) : vW p l e R s m args below meth c nL D A F cells slots Q ws pc lv (.int k :: .ref (sk i) :: rest) := by
  have U := hGU A s s.heap X.2.2.2.2.2.2.2.2.2.2
  unfold sch at h
  split at h
  · cases h
  · rename_i h9
    cases h
    exact v_callEi X (C := RJ0) (As := [.int k]) (rest := rest) (c_J0_charAt l X.2.2.2.2.2.2.2.2.2.1 D c9 hGU hi (fun z => h9 (Or.inl z)) (Nat.lt_of_not_le fun z => h9 (Or.inr z))) 1 hT rfl rfl rfl ⟨rfl, by decide +kernel⟩ hR (fun H locs hS => vk_recv U.1 hi hS) rfl rfl hW hf d q hq K
end VJ2
