/-! The Hand: its record, its rows, its methods. -/
abbrev Row : Type := Nat → Int32
abbrev FH : Type := Int32 × (Nat → Int32) × (Nat → Int32) × (Nat → Int32) × (Nat → Int32) × (Nat → Int32) × (Nat → Int32) × (Nat → Int32) × (Nat → Int32) × Int32 × Int32 × Int32
abbrev FH.tol (x : FH) : Int32 := x.1
abbrev FH.life (x : FH) : Nat → Int32 := x.2.1
abbrev FH.again (x : FH) : Nat → Int32 := x.2.2.1
abbrev FH.fast (x : FH) : Nat → Int32 := x.2.2.2.1
abbrev FH.home (x : FH) : Nat → Int32 := x.2.2.2.2.1
abbrev FH.own (x : FH) : Nat → Int32 := x.2.2.2.2.2.1
abbrev FH.had (x : FH) : Nat → Int32 := x.2.2.2.2.2.2.1
abbrev FH.place (x : FH) : Nat → Int32 := x.2.2.2.2.2.2.2.1
abbrev FH.left (x : FH) : Nat → Int32 := x.2.2.2.2.2.2.2.2.1
abbrev FH.seed (x : FH) : Int32 := x.2.2.2.2.2.2.2.2.2.1
abbrev FH.time (x : FH) : Int32 := x.2.2.2.2.2.2.2.2.2.2.1
abbrev FH.next (x : FH) : Int32 := x.2.2.2.2.2.2.2.2.2.2.2
abbrev rowC (c9 : Nat → ClassId) (n : Nat) (q : Nat × Row) : Nat × va_E := (q.1, .inl (c9 0, n, .inl q.2))
abbrev rowsW (c9 : Nat → ClassId) (n : Nat) (R : List (Nat × Row)) : va_W := R.map (rowC c9 n)
def outF (R : List (Nat × Row)) : Nat → Option Nat := fun i => (R[i]?).map Prod.fst
abbrev outW (c9 : Nat → ClassId) (a : Nat) (R : List (Nat × Row)) : Nat × va_E := (a, .inl (c9 4, R.length, .inr (.inr (.inr (.inr (outF R))))))
abbrev wH (ha : Nat → Nat) (c9 : Nat → ClassId) (ta ua : Nat) (h : FH) (R S : List (Nat × Row)) : va_W := [((ha 0), .inr (13, [.int (FH.tol h), .ref (ha 1), .ref (ha 2), .ref (ha 3), .ref (ha 4), .ref (ha 5), .ref (ha 6), .ref (ha 7), .ref (ha 8), .ref ta, .ref ua, .int (FH.seed h), .int (FH.time h), .int (FH.next h)])), ((ha 1), .inl (c9 0, 3, .inl (FH.life h))), ((ha 2), .inl (c9 0, 3, .inl (FH.again h))), ((ha 3), .inl (c9 0, 3, .inl (FH.fast h))), ((ha 4), .inl (c9 0, 3, .inl (FH.home h))), ((ha 5), .inl (c9 0, 3, .inl (FH.own h))), ((ha 6), .inl (c9 0, 3, .inl (FH.had h))), ((ha 7), .inl (c9 0, 2, .inl (FH.place h))), ((ha 8), .inl (c9 0, 2, .inl (FH.left h))), (ta, .inl (c9 4, R.length, .inr (.inr (.inr (.inr (outF R)))))), (ua, .inl (c9 4, S.length, .inr (.inr (.inr (.inr (outF S))))))]
abbrev wHF (c9 : Nat → ClassId) (R S : List (Nat × Row)) (F0 : va_W) : va_W := rowsW c9 10 R ++ (rowsW c9 4 S ++ F0)
theorem rd_v {f : Nat → Int32} {n : Nat} {u : Int32} (h : vp_in u n) : rd f n u = some (f u.toNatClampNeg) := if_neg h
theorem wr_v {f : Nat → Int32} {n : Nat} {u v : Int32} (h : vp_in u n) : wr f n u v = some (upd f u.toNatClampNeg v) := if_neg h
theorem out_some {R : List (Nat × Row)} {k a : Nat} {g : Row} (h : R[k]? = some (a, g)) : outF R k = some a := by
  unfold outF
  rw [h]
  rfl
theorem row_at {ws Y : va_W} {c9 : Nat → ClassId} {n k a : Nat} {g : Row} {R : List (Nat × Row)} (h : R[k]? = some (a, g)) : (ws ++ (rowsW c9 n R ++ Y))[ws.length + k]? = some (a, .inl (c9 0, n, .inl g)) := by
  refine app_at2 (app_at ?_)
  rw [List.getElem?_map, h]
  rfl
theorem row_at2 {ws Y Z : va_W} {c9 : Nat → ClassId} {n k a : Nat} {g : Row} {R : List (Nat × Row)} (h : R[k]? = some (a, g)) : (ws ++ (Z ++ (rowsW c9 n R ++ Y)))[ws.length + (Z.length + k)]? = some (a, .inl (c9 0, n, .inl g)) := by
  refine app_at2 (app_at2 (app_at ?_))
  rw [List.getElem?_map, h]
  rfl
theorem lst_perm {α : Type} : ∀ {R : List α} {k : Nat} {x : α}, R[k]? = some x → R.Perm (x :: R.eraseIdx k)
  | [], k, x, h => by simp at h
  | y :: R, 0, x, h => by
    obtain rfl : y = x := by simpa using h
    exact List.Perm.refl _
  | y :: R, k + 1, x, h => by
    have h1 : R[k]? = some x := by simpa using h
    exact ((lst_perm h1).cons y).trans (List.Perm.swap _ _ _)
theorem lst_perm2 {α : Type} : ∀ {R : List α} {k : Nat} {x y : α}, R[k]? = some x → (y :: R.eraseIdx k).Perm (R.set k y)
  | [], k, x, y, h => by simp at h
  | z :: R, 0, x, y, h => List.Perm.refl _
  | z :: R, k + 1, x, y, h => by
    have h1 : R[k]? = some x := by simpa using h
    exact (List.Perm.swap _ _ _).trans ((lst_perm2 h1).cons z)
theorem perm_w {ws rest R Y : va_W} {t x : Nat × va_E} (h : ws.Perm (t :: x :: rest)) : (ws ++ (R ++ Y)).Perm ([t] ++ (R ++ (x :: (rest ++ Y)))) := by
  refine (h.append_right _).trans ?_
  show (t :: ((x :: rest) ++ (R ++ Y))).Perm (t :: (R ++ ((x :: rest) ++ Y)))
  refine List.Perm.cons _ ?_
  rw [← List.append_assoc, ← List.append_assoc]
  exact (List.perm_append_comm).append_right _
theorem perm_w1 {ws rest R Y : va_W} {t : Nat × va_E} (h : ws.Perm (t :: rest)) : (ws ++ (R ++ Y)).Perm ([t] ++ (R ++ (rest ++ Y))) := by
  refine (h.append_right _).trans ?_
  show (t :: (rest ++ (R ++ Y))).Perm (t :: (R ++ (rest ++ Y)))
  refine List.Perm.cons _ ?_
  rw [← List.append_assoc, ← List.append_assoc]
  exact (List.perm_append_comm).append_right _
theorem perm_b {ws rest R Y : va_W} {t : Nat × va_E} (h : ws.Perm (t :: rest)) : ([t] ++ (R ++ (rest ++ Y))).Perm (ws ++ (R ++ Y)) := (perm_w1 h).symm
theorem perm_sw {ws A B Y : va_W} : (ws ++ (A ++ (B ++ Y))).Perm (ws ++ (B ++ (A ++ Y))) := by
  refine List.Perm.append_left _ ?_
  rw [← List.append_assoc, ← List.append_assoc]
  exact (List.perm_append_comm).append_right _
section VR
variable {p : Program} {l : Launch} {e : Env} {R : Room} {s : State} {m : MethodId} {args : Array Value} {below : List Frame} {meth : Method} {c : Code} {cc : ByteArray} {nL : Nat} {ret : Option FieldType} {own : String} {Ts : List Cond} {D : va_G} {tys : List (ClassId × FieldType)} {G : (Nat → Prop) → State → Heap → Prop} {A : Nat → Prop} {F : va_W} {cells slots : Nat} {Q : State → Prop} {ws : va_W} {pc : Nat} {lv : List (Nat × Value)} {st : List Value}
theorem v_ildF (X : vX p s m args meth c cc nL ret own Ts D tys G A) {a n : Nat} {cA : ClassId} {f : Nat → Int32} {i x : Int32} (d : decode cc pc = .ok (.iaload, 1)) (q0 t0 : Nat) (ha : (ws ++ F)[q0]? = some (a, .inl (cA, n, .inl f))) (ht : tys[t0]? = some (cA, .int)) (h : rd f n i = some x) (q : Nat) (hq : pc + 1 = q) (K : vW p l e R s m args below meth c nL D A F cells slots Q ws q lv (.int x :: st)) : vW p l e R s m args below meth c nL D A F cells slots Q ws pc lv (.int i :: .ref a :: st) := by
  subst hq
  exact fun H locs ls hP hD hS hl => by
    obtain ⟨h1, rfl⟩ := rd_in h
    exact va_iald X.1 X.2.1 X.2.2.2.2.2.2.2.1 hP q0 t0 ha ht h1 d (K H locs ls hP hD hS hl)
end VR
/-- the first k of the rows' references -/
def cpyF (R : List (Nat × Row)) (k : Nat) : Nat → Option Nat := fun i => if i < k then outF R i else none
theorem cpyF_up {R : List (Nat × Row)} {k a : Nat} {g : Row} (h : R[k]? = some (a, g)) : va_up (cpyF R k) k (some a) = cpyF R (k + 1) := by
  funext i
  unfold va_up cpyF
  by_cases h1 : i = k
  · subst h1
    rw [if_pos rfl, if_pos (by omega), out_some h]
  · rw [if_neg h1]
    by_cases h2 : i < k
    · rw [if_pos h2, if_pos (by omega)]
    · rw [if_neg h2, if_neg (by omega)]
theorem cpyF_zero {R : List (Nat × Row)} : (fun _ => none) = cpyF R 0 := by
  funext i
  unfold cpyF
  rw [if_neg (by omega)]
theorem cpyF_end {R : List (Nat × Row)} {a : Nat} {g : Row} : va_up (cpyF R R.length) R.length (some a) = outF (R ++ [(a, g)]) := by
  funext i
  unfold va_up cpyF outF
  by_cases h1 : i = R.length
  · subst h1
    simp
  · rw [if_neg h1]
    by_cases h2 : i < R.length
    · rw [if_pos h2, List.getElem?_append_left h2]
    · rw [if_neg h2, List.getElem?_eq_none (by simp; omega)]
      rfl
theorem with_at {c9 : Nat → ClassId} {wd rw : Nat} {f : Row} {R : List (Nat × Row)} {Z : va_W} (x y : Nat × va_E) : ([x, y] ++ (rowsW c9 wd R ++ (rowC c9 wd (rw, f) :: Z)))[2 + R.length]? = some (rowC c9 wd (rw, f)) := by
  have h8 := app_at2 (ws := [x, y]) (app_at2 (ws := rowsW c9 wd R) (F := rowC c9 wd (rw, f) :: Z) (k := 0) rfl)
  rw [List.length_map] at h8
  exact h8
theorem rows_app {c9 : Nat → ClassId} {wd : Nat} {q : Nat × Row} {R : List (Nat × Row)} {Z : va_W} : rowsW c9 wd (R ++ [q]) ++ Z = rowsW c9 wd R ++ (rowC c9 wd q :: Z) := by simp [rowsW]
theorem perm_we {c9 : Nat → ClassId} {wd rw na : Nat} {f : Row} {R : List (Nat × Row)} {Z : va_W} : ([(na, (.inl (c9 4, (R.length + 1), .inr (.inr (.inr (.inr (outF (R ++ [(rw, f)])))))) : va_E))] ++ (rowsW c9 wd R ++ (rowC c9 wd (rw, f) :: Z))).Perm ([outW c9 na (R ++ [(rw, f)])] ++ (rowsW c9 wd (R ++ [(rw, f)]) ++ Z)) := by
  rw [rows_app]
  have h : (R ++ [(rw, f)]).length = R.length + 1 := by simp
  rw [← h]
theorem cpyF_all {R : List (Nat × Row)} : cpyF R R.length = outF R := by
  funext i
  unfold cpyF outF
  by_cases h2 : i < R.length
  · rw [if_pos h2]
  · rw [if_neg h2, List.getElem?_eq_none (by omega)]
    rfl
theorem perm_woe {c9 : Nat → ClassId} {wd na at9 : Nat} {R : List (Nat × Row)} {x9 : Nat × Row} {Z : va_W} (hat : at9 < R.length) (hx9 : R[at9]? = some x9) : ([(na, (.inl (c9 4, (R.length - 1), .inr (.inr (.inr (.inr (cpyF (R.eraseIdx at9) (R.length - 1)))))) : va_E))] ++ (rowsW c9 wd R ++ Z)).Perm ([outW c9 na (R.eraseIdx at9)] ++ ((rowsW c9 wd (R.eraseIdx at9) ++ Z) ++ [rowC c9 wd x9])) := by
  have h : (R.eraseIdx at9).length = R.length - 1 := List.length_eraseIdx_of_lt hat
  rw [← h, cpyF_all]
  refine List.Perm.append_left _ ?_
  refine (((lst_perm hx9).map (rowC c9 wd)).append_right Z).trans ?_
  exact List.perm_append_comm (l₁ := [rowC c9 wd x9])
theorem whz_0 : Cond.classLink RX12 34 "[I" ∈ Wg := t4_in (List.mem_of_getElem? (i := 133) rfl) rfl
theorem whz_1 : Cond.fieldLink RX12 22 "TicketGateLaw$Hand" "own" "[I" ∈ Wg := t4_in (List.mem_of_getElem? (i := 147) rfl) rfl
theorem whz_2 : Cond.laysFinal RX12 "TicketGateLaw$Hand" "tolerance" "I" ∈ Wg := t4_in (List.mem_of_getElem? (i := 156) rfl) rfl
theorem whz_3 : Cond.laysFinal RX12 "TicketGateLaw$Hand" "life" "[I" ∈ Wg := t4_in (List.mem_of_getElem? (i := 158) rfl) rfl
theorem whz_4 : Cond.laysFinal RX12 "TicketGateLaw$Hand" "again" "[I" ∈ Wg := t4_in (List.mem_of_getElem? (i := 160) rfl) rfl
theorem whz_5 : Cond.laysFinal RX12 "TicketGateLaw$Hand" "fast" "[I" ∈ Wg := t4_in (List.mem_of_getElem? (i := 162) rfl) rfl
theorem whz_6 : Cond.laysFinal RX12 "TicketGateLaw$Hand" "home" "[I" ∈ Wg := t4_in (List.mem_of_getElem? (i := 164) rfl) rfl
theorem whz_7 : Cond.laysFinal RX12 "TicketGateLaw$Hand" "own" "[I" ∈ Wg := t4_in (List.mem_of_getElem? (i := 166) rfl) rfl
theorem whz_8 : Cond.laysFinal RX12 "TicketGateLaw$Hand" "had" "[I" ∈ Wg := t4_in (List.mem_of_getElem? (i := 168) rfl) rfl
theorem whz_9 : Cond.laysFinal RX12 "TicketGateLaw$Hand" "place" "[I" ∈ Wg := t4_in (List.mem_of_getElem? (i := 170) rfl) rfl
theorem whz_10 : Cond.laysFinal RX12 "TicketGateLaw$Hand" "left" "[I" ∈ Wg := t4_in (List.mem_of_getElem? (i := 172) rfl) rfl
theorem whz_11 : Cond.lays RX12 "TicketGateLaw$Hand" "ticket" "[[I" ∈ Wg := t4_in (List.mem_of_getElem? (i := 174) rfl) rfl
theorem whz_12 : Cond.lays RX12 "TicketGateLaw$Hand" "use" "[[I" ∈ Wg := t4_in (List.mem_of_getElem? (i := 176) rfl) rfl
theorem whz_13 : Cond.lays RX12 "TicketGateLaw$Hand" "seed" "I" ∈ Wg := t4_in (List.mem_of_getElem? (i := 178) rfl) rfl
theorem whz_14 : Cond.lays RX12 "TicketGateLaw$Hand" "time" "I" ∈ Wg := t4_in (List.mem_of_getElem? (i := 180) rfl) rfl
theorem whz_15 : Cond.lays RX12 "TicketGateLaw$Hand" "next" "I" ∈ Wg := t4_in (List.mem_of_getElem? (i := 182) rfl) rfl
theorem whz_16 : Cond.fieldLink RX12 16 "TicketGateLaw$Hand" "fast" "[I" ∈ Wg := t4_in (List.mem_of_getElem? (i := 145) rfl) rfl
theorem whz_17 : Cond.methodLink RX12 59 Lib.Math.abs.name ∈ Wg := t4_in (List.mem_of_getElem? (i := 193) rfl) rfl
theorem whz_18 : Cond.static Lib.Math.abs.name ∈ Wg := t3_in (List.mem_of_getElem? (i := 31) rfl) rfl
theorem whz_19 : Cond.initialized "java/lang/Math" ∈ Wg := t1_in (List.mem_of_getElem? (i := 3) rfl) rfl
theorem whz_20 : Cond.code Lib.Math.abs.name Lib.Math.abs.code 1 (some .int) ∈ Wg := t3_in (List.mem_of_getElem? (i := 32) rfl) rfl
theorem whz_21 : Cond.fieldLink RX12 48 "TicketGateLaw$Hand" "tolerance" "I" ∈ Wg := t4_in (List.mem_of_getElem? (i := 142) rfl) rfl
theorem whz_22 : Cond.fieldLink RX12 52 "TicketGateLaw$Hand" "seed" "I" ∈ Wg := t4_in (List.mem_of_getElem? (i := 153) rfl) rfl
theorem layhz_X12 : ∀ k, k < 14 → u_lay RX12 TX12 k ∈ Wg := fun k hk => match k, hk with
  | 0, _ => whz_2
  | 1, _ => whz_3
  | 2, _ => whz_4
  | 3, _ => whz_5
  | 4, _ => whz_6
  | 5, _ => whz_7
  | 6, _ => whz_8
  | 7, _ => whz_9
  | 8, _ => whz_10
  | 9, _ => whz_11
  | 10, _ => whz_12
  | 11, _ => whz_13
  | 12, _ => whz_14
  | 13, _ => whz_15
  | k + 14, h => absurd h (by omega)
set_option maxRecDepth 100000 in
set_option maxHeartbeats 400000 in
theorem h_with1 {p : Program} {l : Launch} {e : Env} {s : State} {m : MethodId} {args : Array Value} {below : List Frame} {meth : Method} {c : Code} {A : Nat → Prop} {Q : State → Prop} {G : (Nat → Prop) → State → Heap → Prop} (hG : vG G) (D : va_G) (c9 : Nat → ClassId) {sk sv : Nat → Nat} (hGU : ∀ (A : Nat → Prop) (U : State) (H : Heap), G A U H → vU sk sv A U H) (hGV : ∀ (A : Nat → Prop) (U : State) (H : Heap), G A U H → vV A U H) (X : vX p s m args meth c cX12_with 4 (some (.array (.array .int))) RX12 (wq yX12_with cX12_with 4 (some (.array (.array .int)))) D (tyA c9) G A) {wd ta na rw cells slots k b1 : Nat} {f g1 : Row} {R : List (Nat × Row)} {Z : va_W} (hl : R.length ≤ 31) (hk : k < R.length) (hk1 : R[k]? = some (b1, g1)) (K : vW p l e { frames := 0, cells := 1, slots := 40, locals := 0 } s m args below meth c 4 D A (rowsW c9 wd R ++ (rowC c9 wd (rw, f) :: Z)) cells slots Q [(ta, .inl (c9 4, R.length, .inr (.inr (.inr (.inr (outF R)))))), (na, .inl (c9 4, (R.length + 1), .inr (.inr (.inr (.inr (cpyF R (k + 1)))))))] 10 [(3, .int (nI (k + 1))), (2, .ref na), (1, .ref rw), (0, .ref ta)] []) : vW p l e { frames := 0, cells := 1, slots := 40, locals := 0 } s m args below meth c 4 D A (rowsW c9 wd R ++ (rowC c9 wd (rw, f) :: Z)) cells slots Q [(ta, .inl (c9 4, R.length, .inr (.inr (.inr (.inr (outF R)))))), (na, .inl (c9 4, (R.length + 1), .inr (.inr (.inr (.inr (cpyF R k))))))] 10 [(3, .int (nI k)), (2, .ref na), (1, .ref rw), (0, .ref ta)] [] := by
  have hov : va_AI s := (hGV A s s.heap X.2.2.2.2.2.2.2.2.2.2).2
  refine v_iload_n X dX12_with_10 0 rfl rfl 11 rfl ?_
  refine v_aload_n X dX12_with_11 3 rfl rfl 12 rfl ?_
  refine v_alen X dX12_with_12 0 4 rfl rfl rfl 13 rfl ?_
  refine v_icmp_ge X (tgt := 28) dX12_with_13 rfl 16 rfl (a := none) (b := some ()) (o := ()) (if_neg (nI_ge hk (by omega))) (fun h => nomatch h) (fun _ => ?_)
  refine v_aload_n X dX12_with_16 1 rfl rfl 17 rfl ?_
  refine v_iload_n X dX12_with_17 0 rfl rfl 18 rfl ?_
  refine v_aload_n X dX12_with_18 3 rfl rfl 19 rfl ?_
  refine v_iload_n X dX12_with_19 0 rfl rfl 20 rfl ?_
  refine v_aald X dX12_with_20 0 4 rfl rfl (vp_in_nI (show k < R.length by omega) (by omega)) 21 rfl ?_
  rw [nI_clamp (show k < 2 ^ 31 by omega), out_some hk1]
  refine v_eq (st2 := [.ref b1, .int (nI k), .ref na]) rfl rfl rfl rfl ?_
  refine v_aast X (ws' := [(ta, .inl (c9 4, R.length, .inr (.inr (.inr (.inr (outF R)))))), (na, .inl (c9 4, (R.length + 1), .inr (.inr (.inr (.inr (cpyF R (k + 1)))))))]) dX12_with_21 hov 1 4 0 (2 + k) rfl rfl (row_at (ws := [_, _]) hk1) rfl (vp_in_nI (show k < R.length + 1 by omega) (by omega)) (by rw [nI_clamp (show k < 2 ^ 31 by omega), cpyF_up hk1]; rfl) 22 rfl ?_
  refine v_iinc X (lv' := [(3, .int ((nI k) + 1)), (2, .ref na), (1, .ref rw), (0, .ref ta)]) dX12_with_22 0 rfl ic_1 (by decide) rfl 25 rfl ?_
  refine v_goto X (tgt := 10) dX12_with_25 rfl ?_
  refine v_eq (lv2 := [(3, .int (nI (k + 1))), (2, .ref na), (1, .ref rw), (0, .ref ta)]) rfl rfl (by rw [show nI k + 1 = nI (k + 1) from nI_1 _]) rfl ?_
  exact K
set_option maxRecDepth 100000 in
set_option maxHeartbeats 400000 in
theorem c_with (l : Launch) {G : (Nat → Prop) → State → Heap → Prop} (hG : vG G) (D : va_G) (c9 : Nat → ClassId) {sk sv : Nat → Nat} (hGU : ∀ (A : Nat → Prop) (U : State) (H : Heap), G A U H → vU sk sv A U H) (hGV : ∀ (A : Nat → Prop) (U : State) (H : Heap), G A U H → vV A U H) {wd ta rw : Nat} {f : Row} {R : List (Nat × Row)} {Z : va_W} (hl : R.length ≤ 31) : mR (S := Nat) l yX12_with (wq yX12_with cX12_with 4 (some (.array (.array .int)))) { frames := 0, cells := 1, slots := 40, locals := 0 } G D (tyA c9) [.ref ta, .ref rw] ([outW c9 ta R] ++ (rowsW c9 wd R ++ (rowC c9 wd (rw, f) :: Z))) 1 40 (fun _ => True) (fun u => u) (fun u => [outW c9 u (R ++ [(rw, f)])] ++ (rowsW c9 wd (R ++ [(rw, f)]) ++ Z)) := by
  refine mR_of hG (cc := cX12_with) (maxL := 4) (ty := (.array (.array .int))) (by decide) rfl (Nat.le_of_ble_eq_true rfl) ?_
  intro p e s m args below meth c A X
  have X : vX p s m args meth c cX12_with 4 (some (.array (.array .int))) RX12 (wq yX12_with cX12_with 4 (some (.array (.array .int)))) D (tyA c9) G A := X
  have hov : va_AI s := (hGV A s s.heap X.2.2.2.2.2.2.2.2.2.2).2
  refine v_eq (lv2 := [(0, .ref ta), (1, .ref rw)]) rfl rfl rfl rfl ?_
  refine v_aload_n X dX12_with_0 0 rfl rfl 1 rfl ?_
  refine v_alen X dX12_with_1 0 4 rfl rfl rfl 2 rfl ?_
  refine v_iconst X dX12_with_2 ic_1 3 rfl ?_
  refine v_iadd X dX12_with_3 4 rfl ?_
  rw [show Int32.ofNat R.length + 1 = nI (R.length + 1) from nI_1 R.length]
  refine v_newA X dX12_with_4 (mw whz_0) hov 4 rfl (nI_pos (by omega)) (nI_clamp (show (R.length + 1) < 2 ^ 31 by omega)) (by omega) (by first | exact Nat.le_of_ble_eq_true rfl | omega | (dsimp only; omega)) (by first | exact Nat.le_of_ble_eq_true rfl | omega | (dsimp only; omega)) 7 rfl (fun na => ?_)
  refine v_eq (ws2 := [(ta, .inl (c9 4, R.length, .inr (.inr (.inr (.inr (outF R)))))), (na, .inl (c9 4, (R.length + 1), .inr (.inr (.inr (.inr (fun _ => none))))))]) rfl rfl rfl rfl ?_
  refine v_astore_n X (lv' := [(2, .ref na), (0, .ref ta), (1, .ref rw)]) dX12_with_7 rfl (by decide) rfl 8 rfl ?_
  refine v_iconst X dX12_with_8 ic_0 9 rfl ?_
  refine v_istore_n X (lv' := [(3, .int 0), (2, .ref na), (0, .ref ta), (1, .ref rw)]) dX12_with_9 rfl (by decide) rfl 10 rfl ?_
  refine v_sub (lv' := [(3, .int 0), (2, .ref na), (1, .ref rw), (0, .ref ta)]) [0, 1, 3, 2] rfl ?_
  have hloop : ∀ k9 k, k + k9 = R.length → vW p l e { frames := 0, cells := 1, slots := 40, locals := 0 } s m args below meth c 4 D A (rowsW c9 wd R ++ (rowC c9 wd (rw, f) :: Z)) (0 + 1) (0 + (R.length + 1)) (MQ below (qR D (tyA c9) A (fun (_ : Nat) => True) (fun u => u) (fun u => [outW c9 u (R ++ [(rw, f)])] ++ (rowsW c9 wd (R ++ [(rw, f)]) ++ Z))) args s 1 40 A) [(ta, .inl (c9 4, R.length, .inr (.inr (.inr (.inr (outF R)))))), (na, .inl (c9 4, (R.length + 1), .inr (.inr (.inr (.inr (cpyF R k))))))] 10 [(3, .int (nI k)), (2, .ref na), (1, .ref rw), (0, .ref ta)] [] := by
    intro k9
    induction k9 with
    | zero =>
      intro k hk
      obtain rfl : k = R.length := by omega
      have h9 := @with_at c9 wd rw f R Z
      refine v_iload_n X dX12_with_10 0 rfl rfl 11 rfl ?_
      refine v_aload_n X dX12_with_11 3 rfl rfl 12 rfl ?_
      refine v_alen X dX12_with_12 0 4 rfl rfl rfl 13 rfl ?_
      refine v_icmp_ge X (tgt := 28) dX12_with_13 rfl 16 rfl (a := some ()) (b := none) (o := ()) (if_pos (nI_le (Nat.le_refl _) (by omega))) (fun _ => ?_) (fun h => nomatch h)
      refine v_aload_n X dX12_with_28 1 rfl rfl 29 rfl ?_
      refine v_aload_n X dX12_with_29 3 rfl rfl 30 rfl ?_
      refine v_alen X dX12_with_30 0 4 rfl rfl rfl 31 rfl ?_
      refine v_aload_n X dX12_with_31 2 rfl rfl 32 rfl ?_
      refine v_eq (st2 := [.ref rw, .int (nI R.length), .ref na]) rfl rfl rfl rfl ?_
      refine v_aast X (ws' := [(ta, .inl (c9 4, R.length, .inr (.inr (.inr (.inr (outF R)))))), (na, .inl (c9 4, (R.length + 1), .inr (.inr (.inr (.inr (outF (R ++ [(rw, f)])))))))]) dX12_with_32 hov 1 4 0 (2 + R.length) rfl rfl (h9 _ _) rfl (vp_in_nI (show R.length < R.length + 1 by omega) (by omega)) (by rw [nI_clamp (show R.length < 2 ^ 31 by omega), cpyF_end (g := f)]; rfl) 33 rfl ?_
      refine v_aload_n X dX12_with_33 1 rfl rfl 34 rfl ?_
      refine v_pick (ws' := [(na, .inl (c9 4, (R.length + 1), .inr (.inr (.inr (.inr (outF (R ++ [(rw, f)])))))))]) [1] rfl rfl ?_
      exact v_rret na trivial rfl perm_we X (Or.inr ⟨_, rfl⟩) (by first | exact Nat.le_of_ble_eq_true rfl | omega | (dsimp only; omega)) (by first | exact Nat.le_of_ble_eq_true rfl | omega | (dsimp only; omega)) dX12_with_34
    | succ k9 ih =>
      intro k hk
      obtain ⟨⟨b1, g1⟩, h1⟩ : ∃ x, R[k]? = some x := ⟨_, List.getElem?_eq_getElem (by omega)⟩
      exact h_with1 hG D c9 hGU hGV X hl (by omega) h1 (ih (k + 1) (by omega))
  refine v_eq (ws2 := [(ta, .inl (c9 4, R.length, .inr (.inr (.inr (.inr (outF R)))))), (na, .inl (c9 4, (R.length + 1), .inr (.inr (.inr (.inr (cpyF R 0))))))]) (lv2 := [(3, .int (nI 0)), (2, .ref na), (1, .ref rw), (0, .ref ta)]) (by rw [← cpyF_zero]) rfl rfl rfl (hloop R.length 0 (by omega))
theorem era_at {α : Type} {R : List α} {a k : Nat} : (R.eraseIdx a)[k]? = if k < a then R[k]? else R[k + 1]? := List.getElem?_eraseIdx
set_option maxRecDepth 100000 in
set_option maxHeartbeats 400000 in
theorem h_without1 {p : Program} {l : Launch} {e : Env} {s : State} {m : MethodId} {args : Array Value} {below : List Frame} {meth : Method} {c : Code} {A : Nat → Prop} {Q : State → Prop} {G : (Nat → Prop) → State → Heap → Prop} (hG : vG G) (D : va_G) (c9 : Nat → ClassId) {sk sv : Nat → Nat} (hGU : ∀ (A : Nat → Prop) (U : State) (H : Heap), G A U H → vU sk sv A U H) (hGV : ∀ (A : Nat → Prop) (U : State) (H : Heap), G A U H → vV A U H) (X : vX p s m args meth c cX12_without 4 (some (.array (.array .int))) RX12 (wq yX12_without cX12_without 4 (some (.array (.array .int)))) D (tyA c9) G A) {wd ta na cells slots k b1 at9 : Nat} {g1 : Row} {R : List (Nat × Row)} {Z : va_W} (hl : R.length ≤ 32) (hat : at9 < R.length) (hk : k < R.length - 1) (hk2 : (R.eraseIdx at9)[k]? = some (b1, g1)) (K : vW p l e { frames := 0, cells := 1, slots := 40, locals := 0 } s m args below meth c 4 D A (rowsW c9 wd R ++ Z) cells slots Q [(ta, .inl (c9 4, R.length, .inr (.inr (.inr (.inr (outF R)))))), (na, .inl (c9 4, (R.length - 1), .inr (.inr (.inr (.inr (cpyF (R.eraseIdx at9) (k + 1)))))))] 10 [(3, .int (nI (k + 1))), (2, .ref na), (1, .int (nI at9)), (0, .ref ta)] []) : vW p l e { frames := 0, cells := 1, slots := 40, locals := 0 } s m args below meth c 4 D A (rowsW c9 wd R ++ Z) cells slots Q [(ta, .inl (c9 4, R.length, .inr (.inr (.inr (.inr (outF R)))))), (na, .inl (c9 4, (R.length - 1), .inr (.inr (.inr (.inr (cpyF (R.eraseIdx at9) k))))))] 10 [(3, .int (nI k)), (2, .ref na), (1, .int (nI at9)), (0, .ref ta)] [] := by
  have hov : va_AI s := (hGV A s s.heap X.2.2.2.2.2.2.2.2.2.2).2
  by_cases hlt : k < at9
  · have hk1 : R[k]? = some (b1, g1) := by rw [era_at, if_pos hlt] at hk2; exact hk2
    refine v_iload_n X dX12_without_10 0 rfl rfl 11 rfl ?_
    refine v_aload_n X dX12_without_11 1 rfl rfl 12 rfl ?_
    refine v_alen X dX12_without_12 1 4 rfl rfl rfl 13 rfl ?_
    refine v_icmp_ge X (tgt := 39) dX12_without_13 rfl 16 rfl (a := none) (b := some ()) (o := ()) (if_neg (show ¬ nI (R.length - 1) ≤ nI k from nI_ge hk (by omega))) (fun h => nomatch h) (fun _ => ?_)
    refine v_aload_n X dX12_without_16 1 rfl rfl 17 rfl ?_
    refine v_iload_n X dX12_without_17 0 rfl rfl 18 rfl ?_
    refine v_aload_n X dX12_without_18 3 rfl rfl 19 rfl ?_
    refine v_iload_n X dX12_without_19 0 rfl rfl 20 rfl ?_
    refine v_iload_n X dX12_without_20 2 rfl rfl 21 rfl ?_
    refine v_icmp_ge X (tgt := 28) dX12_without_21 rfl 24 rfl (a := none) (b := some ()) (o := ()) (if_neg (nI_ge hlt (by omega))) (fun h => nomatch h) (fun _ => ?_)
    refine v_iload_n X dX12_without_24 0 rfl rfl 25 rfl ?_
    refine v_goto X (tgt := 31) dX12_without_25 rfl ?_
    refine v_aald X dX12_without_31 0 4 rfl rfl (vp_in_nI (show k < R.length by omega) (by omega)) 32 rfl ?_
    rw [nI_clamp (show k < 2 ^ 31 by omega), out_some hk1]
    refine v_eq (st2 := [.ref b1, .int (nI k), .ref na]) rfl rfl rfl rfl ?_
    refine v_aast X (ws' := [(ta, .inl (c9 4, R.length, .inr (.inr (.inr (.inr (outF R)))))), (na, .inl (c9 4, (R.length - 1), .inr (.inr (.inr (.inr (cpyF (R.eraseIdx at9) (k + 1)))))))]) dX12_without_32 hov 1 4 0 (2 + k) rfl rfl (row_at (ws := [_, _]) hk1) rfl (vp_in_nI (show k < R.length - 1 by omega) (by omega)) (by rw [nI_clamp (show k < 2 ^ 31 by omega), cpyF_up hk2]; rfl) 33 rfl ?_
    refine v_iinc X (lv' := [(3, .int ((nI k) + 1)), (2, .ref na), (1, .int (nI at9)), (0, .ref ta)]) dX12_without_33 0 rfl ic_1 (by decide) rfl 36 rfl ?_
    refine v_goto X (tgt := 10) dX12_without_36 rfl ?_
    refine v_eq (lv2 := [(3, .int (nI (k + 1))), (2, .ref na), (1, .int (nI at9)), (0, .ref ta)]) rfl rfl (by rw [show nI k + 1 = nI (k + 1) from nI_1 _]) rfl ?_
    exact K
  · have hk1 : R[k + 1]? = some (b1, g1) := by rw [era_at, if_neg hlt] at hk2; exact hk2
    refine v_iload_n X dX12_without_10 0 rfl rfl 11 rfl ?_
    refine v_aload_n X dX12_without_11 1 rfl rfl 12 rfl ?_
    refine v_alen X dX12_without_12 1 4 rfl rfl rfl 13 rfl ?_
    refine v_icmp_ge X (tgt := 39) dX12_without_13 rfl 16 rfl (a := none) (b := some ()) (o := ()) (if_neg (show ¬ nI (R.length - 1) ≤ nI k from nI_ge hk (by omega))) (fun h => nomatch h) (fun _ => ?_)
    refine v_aload_n X dX12_without_16 1 rfl rfl 17 rfl ?_
    refine v_iload_n X dX12_without_17 0 rfl rfl 18 rfl ?_
    refine v_aload_n X dX12_without_18 3 rfl rfl 19 rfl ?_
    refine v_iload_n X dX12_without_19 0 rfl rfl 20 rfl ?_
    refine v_iload_n X dX12_without_20 2 rfl rfl 21 rfl ?_
    refine v_icmp_ge X (tgt := 28) dX12_without_21 rfl 24 rfl (a := some ()) (b := none) (o := ()) (if_pos (nI_le (by omega) (by omega))) (fun _ => ?_) (fun h => nomatch h)
    refine v_iload_n X dX12_without_28 0 rfl rfl 29 rfl ?_
    refine v_iconst X dX12_without_29 ic_1 30 rfl ?_
    refine v_iadd X dX12_without_30 31 rfl ?_
    rw [nI_1 k]
    refine v_aald X dX12_without_31 0 4 rfl rfl (vp_in_nI (show (k + 1) < R.length by omega) (by omega)) 32 rfl ?_
    rw [nI_clamp (show (k + 1) < 2 ^ 31 by omega), out_some hk1]
    refine v_eq (st2 := [.ref b1, .int (nI k), .ref na]) rfl rfl rfl rfl ?_
    refine v_aast X (ws' := [(ta, .inl (c9 4, R.length, .inr (.inr (.inr (.inr (outF R)))))), (na, .inl (c9 4, (R.length - 1), .inr (.inr (.inr (.inr (cpyF (R.eraseIdx at9) (k + 1)))))))]) dX12_without_32 hov 1 4 0 (2 + (k + 1)) rfl rfl (row_at (ws := [_, _]) hk1) rfl (vp_in_nI (show k < R.length - 1 by omega) (by omega)) (by rw [nI_clamp (show k < 2 ^ 31 by omega), cpyF_up hk2]; rfl) 33 rfl ?_
    refine v_iinc X (lv' := [(3, .int ((nI k) + 1)), (2, .ref na), (1, .int (nI at9)), (0, .ref ta)]) dX12_without_33 0 rfl ic_1 (by decide) rfl 36 rfl ?_
    refine v_goto X (tgt := 10) dX12_without_36 rfl ?_
    refine v_eq (lv2 := [(3, .int (nI (k + 1))), (2, .ref na), (1, .int (nI at9)), (0, .ref ta)]) rfl rfl (by rw [show nI k + 1 = nI (k + 1) from nI_1 _]) rfl ?_
    exact K
set_option maxRecDepth 100000 in
set_option maxHeartbeats 400000 in
theorem c_without (l : Launch) {G : (Nat → Prop) → State → Heap → Prop} (hG : vG G) (D : va_G) (c9 : Nat → ClassId) {sk sv : Nat → Nat} (hGU : ∀ (A : Nat → Prop) (U : State) (H : Heap), G A U H → vU sk sv A U H) (hGV : ∀ (A : Nat → Prop) (U : State) (H : Heap), G A U H → vV A U H) {wd ta at9 : Nat} {R : List (Nat × Row)} {Z : va_W} (hl : R.length ≤ 32) (hat : at9 < R.length) : mR (S := Nat) l yX12_without (wq yX12_without cX12_without 4 (some (.array (.array .int)))) { frames := 0, cells := 1, slots := 40, locals := 0 } G D (tyA c9) [.ref ta, .int (nI at9)] ([outW c9 ta R] ++ (rowsW c9 wd R ++ Z)) 1 40 (fun _ => True) (fun u => u) (fun u => [outW c9 u (R.eraseIdx at9)] ++ (rowsW c9 wd (R.eraseIdx at9) ++ Z)) := by
  refine mR_of hG (cc := cX12_without) (maxL := 4) (ty := (.array (.array .int))) (by decide) rfl (Nat.le_of_ble_eq_true rfl) ?_
  intro p e s m args below meth c A X
  have X : vX p s m args meth c cX12_without 4 (some (.array (.array .int))) RX12 (wq yX12_without cX12_without 4 (some (.array (.array .int)))) D (tyA c9) G A := X
  have hov : va_AI s := (hGV A s s.heap X.2.2.2.2.2.2.2.2.2.2).2
  refine v_eq (lv2 := [(0, .ref ta), (1, .int (nI at9))]) rfl rfl rfl rfl ?_
  obtain ⟨x9, hx9⟩ : ∃ x, R[at9]? = some x := ⟨_, List.getElem?_eq_getElem hat⟩
  refine v_aload_n X dX12_without_0 0 rfl rfl 1 rfl ?_
  refine v_alen X dX12_without_1 0 4 rfl rfl rfl 2 rfl ?_
  refine v_iconst X dX12_without_2 ic_1 3 rfl ?_
  refine v_isub X dX12_without_3 4 rfl ?_
  rw [show Int32.ofNat R.length - 1 = nI (R.length - 1) from pk_sub (a := R.length) (b := 1) (by omega)]
  refine v_newA X dX12_without_4 (mw whz_0) hov 4 rfl (nI_pos (by omega)) (nI_clamp (show (R.length - 1) < 2 ^ 31 by omega)) (by omega) (by first | exact Nat.le_of_ble_eq_true rfl | omega | (dsimp only; omega)) (by first | exact Nat.le_of_ble_eq_true rfl | omega | (dsimp only; omega)) 7 rfl (fun na => ?_)
  refine v_eq (ws2 := [(ta, .inl (c9 4, R.length, .inr (.inr (.inr (.inr (outF R)))))), (na, .inl (c9 4, (R.length - 1), .inr (.inr (.inr (.inr (fun _ => none))))))]) rfl rfl rfl rfl ?_
  refine v_astore_n X (lv' := [(2, .ref na), (0, .ref ta), (1, .int (nI at9))]) dX12_without_7 rfl (by decide) rfl 8 rfl ?_
  refine v_iconst X dX12_without_8 ic_0 9 rfl ?_
  refine v_istore_n X (lv' := [(3, .int 0), (2, .ref na), (0, .ref ta), (1, .int (nI at9))]) dX12_without_9 rfl (by decide) rfl 10 rfl ?_
  refine v_sub (lv' := [(3, .int 0), (2, .ref na), (1, .int (nI at9)), (0, .ref ta)]) [0, 1, 3, 2] rfl ?_
  have hloop : ∀ k9 k, k + k9 = R.length - 1 → vW p l e { frames := 0, cells := 1, slots := 40, locals := 0 } s m args below meth c 4 D A (rowsW c9 wd R ++ Z) (0 + 1) (0 + (R.length - 1)) (MQ below (qR D (tyA c9) A (fun (_ : Nat) => True) (fun u => u) (fun u => [outW c9 u (R.eraseIdx at9)] ++ (rowsW c9 wd (R.eraseIdx at9) ++ Z))) args s 1 40 A) [(ta, .inl (c9 4, R.length, .inr (.inr (.inr (.inr (outF R)))))), (na, .inl (c9 4, (R.length - 1), .inr (.inr (.inr (.inr (cpyF (R.eraseIdx at9) k))))))] 10 [(3, .int (nI k)), (2, .ref na), (1, .int (nI at9)), (0, .ref ta)] [] := by
    intro k9
    induction k9 with
    | zero =>
      intro k hk
      obtain rfl : k = R.length - 1 := by omega
      refine v_iload_n X dX12_without_10 0 rfl rfl 11 rfl ?_
      refine v_aload_n X dX12_without_11 1 rfl rfl 12 rfl ?_
      refine v_alen X dX12_without_12 1 4 rfl rfl rfl 13 rfl ?_
      refine v_icmp_ge X (tgt := 39) dX12_without_13 rfl 16 rfl (a := some ()) (b := none) (o := ()) (if_pos (nI_le (Nat.le_refl _) (by omega))) (fun _ => ?_) (fun h => nomatch h)
      refine v_aload_n X dX12_without_39 1 rfl rfl 40 rfl ?_
      refine v_pick (ws' := [(na, .inl (c9 4, (R.length - 1), .inr (.inr (.inr (.inr (cpyF (R.eraseIdx at9) (R.length - 1)))))))]) [1] rfl rfl ?_
      refine v_perm (ws' := [outW c9 na (R.eraseIdx at9)]) (F' := (rowsW c9 wd (R.eraseIdx at9) ++ Z) ++ [rowC c9 wd x9]) ?_ ?_
      · exact perm_woe hat hx9
      refine v_dropF ?_
      exact v_rret na trivial rfl (List.Perm.refl _) X (Or.inr ⟨_, rfl⟩) (by first | exact Nat.le_of_ble_eq_true rfl | omega | (dsimp only; omega)) (by first | exact Nat.le_of_ble_eq_true rfl | omega | (dsimp only; omega)) dX12_without_40
    | succ k9 ih =>
      intro k hk
      obtain ⟨⟨b1, g1⟩, h1⟩ : ∃ x, (R.eraseIdx at9)[k]? = some x := ⟨_, List.getElem?_eq_getElem (by rw [List.length_eraseIdx_of_lt hat]; omega)⟩
      exact h_without1 hG D c9 hGU hGV X hl hat (by omega) h1 (ih (k + 1) (by omega))
  refine v_eq (ws2 := [(ta, .inl (c9 4, R.length, .inr (.inr (.inr (.inr (outF R)))))), (na, .inl (c9 4, (R.length - 1), .inr (.inr (.inr (.inr (cpyF (R.eraseIdx at9) 0))))))]) (lv2 := [(3, .int (nI 0)), (2, .ref na), (1, .int (nI at9)), (0, .ref ta)]) (by rw [← cpyF_zero]) rfl rfl rfl (hloop (R.length - 1) 0 (by omega))
/-- is a user's clock too far from a realm's -/
def hSk (h : FH) (u r : Int32) : Bool := !decide (iabs (FH.own h u.toNatClampNeg - FH.fast h r.toNatClampNeg) ≤ FH.tol h)
def hSeed (h : FH) : Int32 := irm (21 * FH.seed h + 7) 1024
set_option maxRecDepth 100000 in
set_option maxHeartbeats 400000 in
theorem c_skewed (l : Launch) {G : (Nat → Prop) → State → Heap → Prop} (hG : vG G) (D : va_G) (c9 : Nat → ClassId) {sk sv : Nat → Nat} (hGU : ∀ (A : Nat → Prop) (U : State) (H : Heap), G A U H → vU sk sv A U H) (hGV : ∀ (A : Nat → Prop) (U : State) (H : Heap), G A U H → vV A U H) {ha : Nat → Nat} {ta ua : Nat} {h : FH} {R S : List (Nat × Row)} {u rr : Int32} (hu : vp_in u 3) (hr : vp_in rr 3) : mI l yX12_skewed (wq yX12_skewed cX12_skewed 3 (some .boolean)) { frames := 1, cells := 0, slots := 0, locals := 30 } G D (tyA c9) [.ref (ha 0), .int u, .int rr] (wH ha c9 ta ua h R S) [] 0 0 (if hSk h u rr = true then 1 else 0) (wH ha c9 ta ua h R S) := by
  refine mI_of hG (cc := cX12_skewed) (maxL := 3) (ty := .boolean) (by decide) rfl (Nat.le_of_ble_eq_true rfl) ?_
  intro p e s m args below meth c A X
  have X : vX p s m args meth c cX12_skewed 3 (some .boolean) RX12 (wq yX12_skewed cX12_skewed 3 (some .boolean)) D (tyA c9) G A := X
  have hov : va_AI s := (hGV A s s.heap X.2.2.2.2.2.2.2.2.2.2).2
  refine v_eq (lv2 := [(0, .ref (ha 0)), (1, .int u), (2, .int rr)]) rfl rfl rfl rfl ?_
  refine v_aload_n X dX12_skewed_0 0 rfl rfl 1 rfl ?_
  refine v_get X (C := RX12) (T := TX12) (N := 14) (ci := 13) (v := _) dX12_skewed_1 (lay_of layhz_X12) 0 rfl rfl 5 (by decide) (mw whz_1) rfl rfl 4 rfl ?_
  refine v_iload_n X dX12_skewed_4 1 rfl rfl 5 rfl ?_
  refine v_iald X dX12_skewed_5 5 0 rfl rfl (rd_v (f := (FH.own h)) hu) 6 rfl ?_
  refine v_aload_n X dX12_skewed_6 0 rfl rfl 7 rfl ?_
  refine v_get X (C := RX12) (T := TX12) (N := 14) (ci := 13) (v := _) dX12_skewed_7 (lay_of layhz_X12) 0 rfl rfl 3 (by decide) (mw whz_16) rfl rfl 10 rfl ?_
  refine v_iload_n X dX12_skewed_10 2 rfl rfl 11 rfl ?_
  refine v_iald X dX12_skewed_11 3 0 rfl rfl (rd_v (f := (FH.fast h)) hr) 12 rfl ?_
  refine v_isub X dX12_skewed_12 13 rfl ?_
  refine v_mabs X dX12_skewed_13 (mw whz_17) (mw whz_18) (mw whz_19) (mw whz_20) (by first | exact Nat.le_of_ble_eq_true rfl | omega | (dsimp only; omega)) (by first | exact Nat.le_of_ble_eq_true rfl | omega | (dsimp only; omega)) (by first | exact Nat.le_of_ble_eq_true rfl | omega | (dsimp only; omega)) (by first | exact Nat.le_of_ble_eq_true rfl | omega | (dsimp only; omega)) 16 rfl ?_
  refine v_aload_n X dX12_skewed_16 0 rfl rfl 17 rfl ?_
  refine v_get X (C := RX12) (T := TX12) (N := 14) (ci := 13) (v := _) dX12_skewed_17 (lay_of layhz_X12) 0 rfl rfl 0 (by decide) (mw whz_21) rfl rfl 20 rfl ?_
  by_cases hc : iabs (FH.own h u.toNatClampNeg - FH.fast h rr.toNatClampNeg) ≤ FH.tol h
  · refine v_icmp_le X (tgt := 27) dX12_skewed_20 rfl 23 rfl (a := some ()) (b := none) (o := ()) (if_pos hc) (fun _ => ?_) (fun h => nomatch h)
    refine v_iconst X dX12_skewed_27 ic_0 28 rfl ?_
    refine v_eq (st2 := [.int (if hSk h u rr = true then 1 else 0)]) rfl rfl rfl (by rw [show hSk h u rr = false by unfold hSk; simp [hc]]; rfl) ?_
    exact v_zret X (by first | exact Nat.le_of_ble_eq_true rfl | omega | (dsimp only; omega)) (by first | exact Nat.le_of_ble_eq_true rfl | omega | (dsimp only; omega)) (by split <;> rfl) dX12_skewed_28
  · refine v_icmp_le X (tgt := 27) dX12_skewed_20 rfl 23 rfl (a := none) (b := some ()) (o := ()) (if_neg hc) (fun h => nomatch h) (fun _ => ?_)
    refine v_iconst X dX12_skewed_23 ic_1 24 rfl ?_
    refine v_goto X (tgt := 28) dX12_skewed_24 rfl ?_
    refine v_eq (st2 := [.int (if hSk h u rr = true then 1 else 0)]) rfl rfl rfl (by rw [show hSk h u rr = true by unfold hSk; simp [hc]]; rfl) ?_
    exact v_zret X (by first | exact Nat.le_of_ble_eq_true rfl | omega | (dsimp only; omega)) (by first | exact Nat.le_of_ble_eq_true rfl | omega | (dsimp only; omega)) (by split <;> rfl) dX12_skewed_28
set_option maxRecDepth 100000 in
set_option maxHeartbeats 400000 in
theorem c_draws (l : Launch) {G : (Nat → Prop) → State → Heap → Prop} (hG : vG G) (D : va_G) (c9 : Nat → ClassId) {sk sv : Nat → Nat} (hGU : ∀ (A : Nat → Prop) (U : State) (H : Heap), G A U H → vU sk sv A U H) (hGV : ∀ (A : Nat → Prop) (U : State) (H : Heap), G A U H → vV A U H) {ha : Nat → Nat} {ta ua : Nat} {h : FH} {R S : List (Nat × Row)} : mI l yX12_draws (wq yX12_draws cX12_draws 1 (some .int)) { frames := 0, cells := 0, slots := 0, locals := 0 } G D (tyA c9) [.ref (ha 0)] (wH ha c9 ta ua h R S) [] 0 0 (hSeed h) (wH ha c9 ta ua (FH.tol h, FH.life h, FH.again h, FH.fast h, FH.home h, FH.own h, FH.had h, FH.place h, FH.left h, hSeed h, FH.time h, FH.next h) R S) := by
  refine mI_of hG (cc := cX12_draws) (maxL := 1) (ty := .int) (by decide) rfl (Nat.le_of_ble_eq_true rfl) ?_
  intro p e s m args below meth c A X
  have X : vX p s m args meth c cX12_draws 1 (some .int) RX12 (wq yX12_draws cX12_draws 1 (some .int)) D (tyA c9) G A := X
  have hov : va_AI s := (hGV A s s.heap X.2.2.2.2.2.2.2.2.2.2).2
  refine v_eq (lv2 := [(0, .ref (ha 0))]) rfl rfl rfl rfl ?_
  refine v_aload_n X dX12_draws_0 0 rfl rfl 1 rfl ?_
  refine v_bipush X dX12_draws_1 bp_21 3 rfl ?_
  refine v_aload_n X dX12_draws_3 0 rfl rfl 4 rfl ?_
  refine v_get X (C := RX12) (T := TX12) (N := 14) (ci := 13) (v := _) dX12_draws_4 (lay_of layhz_X12) 0 rfl rfl 11 (by decide) (mw whz_22) rfl rfl 7 rfl ?_
  refine v_imul X dX12_draws_7 8 rfl ?_
  refine v_bipush X dX12_draws_8 bp_7 10 rfl ?_
  refine v_iadd X dX12_draws_10 11 rfl ?_
  refine v_sipush X dX12_draws_11 sp_1024 14 rfl ?_
  refine v_irem X dX12_draws_14 (by decide) 15 rfl ?_
  refine v_put X (C := RX12) (T := TX12) (N := 14) (ci := 13) (ty := tyX12 11) (ws' := [((ha 0), .inr (13, [.int (FH.tol h), .ref (ha 1), .ref (ha 2), .ref (ha 3), .ref (ha 4), .ref (ha 5), .ref (ha 6), .ref (ha 7), .ref (ha 8), .ref ta, .ref ua, .int (irm ((21 * (FH.seed h)) + 7) 1024), .int (FH.time h), .int (FH.next h)])), ((ha 1), .inl (c9 0, 3, .inl (FH.life h))), ((ha 2), .inl (c9 0, 3, .inl (FH.again h))), ((ha 3), .inl (c9 0, 3, .inl (FH.fast h))), ((ha 4), .inl (c9 0, 3, .inl (FH.home h))), ((ha 5), .inl (c9 0, 3, .inl (FH.own h))), ((ha 6), .inl (c9 0, 3, .inl (FH.had h))), ((ha 7), .inl (c9 0, 2, .inl (FH.place h))), ((ha 8), .inl (c9 0, 2, .inl (FH.left h))), (ta, .inl (c9 4, R.length, .inr (.inr (.inr (.inr (outF R)))))), (ua, .inl (c9 4, S.length, .inr (.inr (.inr (.inr (outF S))))))]) dX12_draws_15 (lay_of layhz_X12) 0 rfl rfl 11 (by decide) tyX12 tyX12_ok nmX12 (mw whz_22) rfl rfl (tyX12_ok 11 (by decide)) rfl rfl (Nat.le_of_ble_eq_true rfl) rfl 18 rfl ?_
  refine v_aload_n X dX12_draws_18 0 rfl rfl 19 rfl ?_
  refine v_get X (C := RX12) (T := TX12) (N := 14) (ci := 13) (v := _) dX12_draws_19 (lay_of layhz_X12) 0 rfl rfl 11 (by decide) (mw whz_22) rfl rfl 22 rfl ?_
  exact v_iret X (by first | exact Nat.le_of_ble_eq_true rfl | omega | (dsimp only; omega)) (by first | exact Nat.le_of_ble_eq_true rfl | omega | (dsimp only; omega)) dX12_draws_22
