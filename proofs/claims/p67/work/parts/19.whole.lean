/-! A world's cells in another order, by their places; a call that takes the whole world and comes back with one of many; wider counts. -/
theorem perm_is {ws ws' : va_W} (is : List Nat) (h : is.map (fun i => ws[i]?) = ws'.map some) (n : Nat) (hl : ws.length = n) (hp : is.isPerm (List.range n) = true) : ws.Perm ws' := by
  subst hl
  have h1 : (List.range ws.length).map (fun i => ws[i]?) = ws.map some := by
    refine List.ext_getElem? (fun k => ?_)
    rw [List.getElem?_map, List.getElem?_map]
    by_cases hk : k < ws.length
    · rw [List.getElem?_range hk, List.getElem?_eq_getElem hk]
      show some ws[k]? = _
      rw [List.getElem?_eq_getElem hk]
      rfl
    · rw [List.getElem?_eq_none (by rw [List.length_range]; omega), List.getElem?_eq_none (by omega)]
      rfl
  have h2 := (List.isPerm_iff.mp hp).map (fun i => ws[i]?)
  rw [h, h1] at h2
  have h3 := h2.filterMap id
  rw [List.filterMap_map, List.filterMap_map] at h3
  have e : ∀ l : va_W, l.filterMap (id ∘ some) = l := fun l => by
    induction l with
    | nil => rfl
    | cons a l ih => rw [List.filterMap_cons]; show a :: _ = _; rw [ih]
  rw [e, e] at h3
  exact h3.symm
theorem perm_move {a b x y : va_W} : ((a ++ b) ++ (x ++ y)).Perm (a ++ (x ++ (y ++ b))) := by
  rw [List.append_assoc]
  refine List.Perm.append_left a ?_
  rw [← List.append_assoc x y b]
  exact List.perm_append_comm
section VP
variable {p : Program} {l : Launch} {e : Env} {R : Room} {s : State} {m : MethodId} {args : Array Value} {below : List Frame} {meth : Method} {c : Code} {cc : ByteArray} {nL : Nat} {ret : Option FieldType} {own : String} {Ts : List Cond} {D : va_G} {tys : List (ClassId × FieldType)} {G : (Nat → Prop) → State → Heap → Prop} {A : Nat → Prop} {F : va_W} {cells slots : Nat} {Q : State → Prop} {ws : va_W} {pc : Nat} {lv : List (Nat × Value)} {st : List Value}
theorem v_widen {k n : Nat} (h1 : cells ≤ k) (h2 : slots ≤ n) (K : vW p l e R s m args below meth c nL D A F k n Q ws pc lv st) : vW p l e R s m args below meth c nL D A F cells slots Q ws pc lv st := fun H locs ls hP hD hS hl => W.widen h1 h2 (K H locs ls hP hD hS hl)
theorem v_ncallV (X : vX p s m args meth c cc nL ret own Ts D tys G A) {S : Type} {post : S → Prop} {WSf ws' F' : S → va_W} {y : MethodName} {wsy wsy' : List Cond} {rmy : Room} {bytes : ByteArray} {maxL index : Nat} {mc ms : Nat} {As rest : List Value} {C : String} {ci : Nat} {T : u_T} {N b : Nat} {fs : List Value} (hM : mN l y wsy rmy G D tys (.ref b :: As) ws F mc ms post WSf) (n : Nat) (hT : GoodIn Ts (wsV own index C y wsy)) (hw : wsy = Cond.code y bytes maxL none :: wsy') (hrc : rmy.cells = mc) (hrs : rmy.slots = ms) (hd : y.cls = C ∧ y.cls ≠ "java/lang/invoke/MethodHandle" ∧ y.cls ≠ "java/lang/invoke/VarHandle" ∧ (parseMethodDescriptor y.desc).map (fun d => d.parameters.length) = some n) (hR : rmy.frames + 1 ≤ R.frames ∧ 8 + (maxL + 11) + rmy.locals ≤ R.locals)
    (q0 : Nat) (he : ws[q0]? = some (b, .inr (ci, fs))) (hci : vwCl[ci]? = some (C, T, N)) (hn : As.length = n) (hst : st = As.reverse ++ .ref b :: rest) (hW : (rest.map fun v => v.category).sum ≤ 8) (hf : cells + mc ≤ R.cells ∧ slots + ms ≤ R.slots) (hWS : ∀ u, WSf u = ws' u ++ F' u)
    (d : decode cc pc = .ok (.invokevirtual index, 3)) (q : Nat) (hq : pc + 3 = q) (K : ∀ u, post u → vW p l e R s m args below meth c nL D A (F' u) (cells + mc) (slots + ms) Q (ws' u) q lv rest) : vW p l e R s m args below meth c nL D A F cells slots Q ws pc lv st := by
  subst hq
  subst hst
  intro H locs ls hP hD hS hl
  have hFc := v_free X.2.2.2.2.2.2.2.2.1 hD hS
  refine va_callv (va_runV ⟨X.1, X.2.1, X.2.2.2.1, X.2.2.2.2.1, X.2.2.2.2.2.1⟩ (hM H.size) (cwV n X.2.2.2.2.2.1 hT hw hrc hrs hd hR) ⟨pW_blind X.2.2.2.2.2.2.2.2.2.1, va_recv X.2.2.2.2.2.2.2.1 (va_P_left hP) hci he, v_pcw X.2.2.2.2.2.2.2.2 hP hD hS X.2.2.2.2.2.2.2.1 hFc⟩ rfl hn hl.1 rfl (lv_room hW) d hf) hS (fun q _ h => hFc q h) (fun q h => hFc q h) (fun u t H1 locs1 ht hvm hpost hB hz1 hk1 hS => ?_)
  obtain ⟨hP1, hK1, hD1⟩ := hB
  rw [ht, hWS u] at hP1
  rw [hWS u] at hD1
  exact K u hpost H1 locs1 ls hP1 (hD1.weaken (fun _ _ _ h => hFc _ h)) hS hl
end VP
