/-! The Hand acts. -/
abbrev HA : Type := Int32 × FH × List Row × List Row
def hLogin (h : FH) (T E : List Row) (u z : Nat) : HA := if z % 8 = 0 ∨ hSk h (nI u) (FH.home h u) = true ∨ T.length = 24 then (-9, h, T, E) else
  ((hMakes h T (nI u) (FH.home h u) (-1) (FH.time h + FH.life h (FH.home h u).toNatClampNeg) (FH.time h + FH.again h (FH.home h u).toNatClampNeg) (if z / 8 % 2 = 0 then 1 else 0)).1, (hMakes h T (nI u) (FH.home h u) (-1) (FH.time h + FH.life h (FH.home h u).toNatClampNeg) (FH.time h + FH.again h (FH.home h u).toNatClampNeg) (if z / 8 % 2 = 0 then 1 else 0)).2.1, (hMakes h T (nI u) (FH.home h u) (-1) (FH.time h + FH.life h (FH.home h u).toNatClampNeg) (FH.time h + FH.again h (FH.home h u).toNatClampNeg) (if z / 8 % 2 = 0 then 1 else 0)).2.2, E)
def hRefer (tr : Nat) (h : FH) (T E : List Row) (g : Row) (z : Nat) : HA := if g 1 ≠ 0 ∨ g 6 ≤ FH.time h ∨ trB tr (g 3).toNatClampNeg (z % 3) = false then (-9, h, T, E) else ((hDer h T g (nI (z % 3)) (-1)).1, (hDer h T g (nI (z % 3)) (-1)).2.1, (hDer h T g (nI (z % 3)) (-1)).2.2, E)
def hRequest (h : FH) (T E : List Row) (g : Row) (z : Nat) : HA := if g 1 ≠ 0 ∨ g 6 ≤ FH.time h ∨ g 3 ≠ FH.place h (z % 2) then (-9, h, T, E) else ((hDer h T g (g 3) (nI (z % 2))).1, (hDer h T g (g 3) (nI (z % 2))).2.1, (hDer h T g (g 3) (nI (z % 2))).2.2, E)
def hEnd (h : FH) (g : Row) : Int32 := imin (FH.time h + FH.life h (g 3).toNatClampNeg) (g 7)
def hRenew (h : FH) (T E : List Row) (at9 : Nat) (g : Row) : HA := if g 9 ≠ 1 ∨ g 6 ≤ FH.time h ∨ hEnd h g ≤ g 6 then (-9, h, T, E) else (hEnd h g, (FH.tol h, FH.life h, FH.again h, FH.fast h, FH.home h, FH.own h, FH.had h, FH.place h, FH.left h, hSeed h, FH.time h, FH.next h), T.set at9 (upd (upd g 6 (hEnd h g)) 8 (hSeed h)), E)
def hCheese (h : FH) (T E : List Row) (g : Row) : HA := ((hGets h E g).1, (hGets h E g).2.1, T, (hGets h E g).2.2)
def hDrop (h : FH) (T E : List Row) (at9 : Nat) : HA := (nI (T.eraseIdx at9).length, h, T.eraseIdx at9, E)
def hSweep (h : FH) (T E : List Row) : HA := (nI T.length - nI (T.filter (live (FH.time h))).length, h, T.filter (live (FH.time h)), E)
def hClock (h : FH) (T E : List Row) (u z : Nat) : HA := (FH.own h u, (FH.tol h, FH.life h, FH.again h, FH.fast h, FH.home h, (upd (FH.own h) u (nI (z % 7) - 3)), FH.had h, FH.place h, FH.left h, FH.seed h, FH.time h, FH.next h), T, E)
def fresh (h : FH) (t : Int32) (w : Row) : Bool := decide (t - w 3 ≤ FH.tol h)
def hPass (h : FH) (T E : List Row) (n : Nat) : HA := (hVal h T - hVal (FH.tol h, FH.life h, FH.again h, FH.fast h, FH.home h, FH.own h, FH.had h, FH.place h, FH.left h, FH.seed h, (FH.time h + (1 + nI (n / 32 / 16 % (if n % 32 < 30 then 4 else 40)))), FH.next h) T, (FH.tol h, FH.life h, FH.again h, FH.fast h, FH.home h, FH.own h, FH.had h, FH.place h, FH.left h, FH.seed h, (FH.time h + (1 + nI (n / 32 / 16 % (if n % 32 < 30 then 4 else 40)))), FH.next h), T, E.filter (fresh h (FH.time h + (1 + nI (n / 32 / 16 % (if n % 32 < 30 then 4 else 40))))))
def hActG (tr : Nat) (h : FH) (T E : List Row) (n at9 : Nat) (g : Row) : HA :=
  if n % 32 < 7 then hLogin h T E (n / 32 % 3) (n / 32 / 16) else if n % 32 < 11 then hRefer tr h T E g (n / 32 / 16) else if n % 32 < 15 then hRequest h T E g (n / 32 / 16) else if n % 32 < 18 then hRenew h T E at9 g else if n % 32 < 24 then hCheese h T E g else if n % 32 < 25 then hDrop h T E at9 else if n % 32 < 26 then hSweep h T E else if n % 32 < 27 then hClock h T E (n / 32 % 3) (n / 32 / 16) else hPass h T E n
/-- an act of the Hand: its answer, what it becomes -/
def hAct (tr : Nat) (h : FH) (T E : List Row) (n : Nat) : HA := if 7 ≤ n % 32 ∧ n % 32 < 25 ∧ T.length = 0 then (-8, h, T, E) else hActG tr h T E n (if T.length = 0 then 0 else n / 32 % T.length) (if T.length = 0 then fun _ => 0 else T.getD (n / 32 % T.length) (fun _ => 0))
/-- what every ticket of the Hand keeps -/
def rowOK (g : Row) : Prop := vp_in (g 2) 3 ∧ (∃ x : Nat, x < 3 ∧ g 3 = nI x) ∧ (g 1 = 1 → vp_in (g 4) 2)
theorem era_mid {α : Type} {A B : List α} {x : α} : ((A ++ [x]) ++ B).eraseIdx A.length = A ++ B := by
  induction A with
  | nil => rfl
  | cons y A ih => exact congrArg (y :: ·) ih
theorem at_mid {α : Type} {A B : List α} {x : α} : ((A ++ [x]) ++ B)[A.length]? = some x := by simp
theorem map_set {α β : Type} {f : α → β} : ∀ {R : List α} {k : Nat} {x : α}, (R.set k x).map f = (R.map f).set k (f x)
  | [], k, x => rfl
  | y :: R, 0, x => rfl
  | y :: R, k + 1, x => congrArg (f y :: ·) map_set
theorem perm_row {ws Y : va_W} {c9 : Nat → ClassId} {n k : Nat} {x : Nat × Row} {R : List (Nat × Row)} (h : R[k]? = some x) : (ws ++ (rowsW c9 n R ++ Y)).Perm ((rowC c9 n x :: ws) ++ (rowsW c9 n (R.eraseIdx k) ++ Y)) := by
  refine (List.Perm.append_left ws (((lst_perm h).map (rowC c9 n)).append_right Y)).trans ?_
  exact List.perm_middle
theorem perm_row2 {ws Y : va_W} {c9 : Nat → ClassId} {n k : Nat} {x y : Nat × Row} {R : List (Nat × Row)} (h : R[k]? = some x) : ((rowC c9 n y :: ws) ++ (rowsW c9 n (R.eraseIdx k) ++ Y)).Perm (ws ++ (rowsW c9 n (R.set k y) ++ Y)) := by
  refine List.perm_middle.symm.trans ?_
  exact List.Perm.append_left ws (((lst_perm2 (y := y) h).map (rowC c9 n)).append_right Y)
theorem outF_set {R : List (Nat × Row)} {k a : Nat} {f g : Row} (h : R[k]? = some (a, g)) : outF (R.set k (a, f)) = outF R := by
  funext i
  unfold outF
  rw [List.getElem?_set]
  split
  · rename_i h1
    subst h1
    split
    · rw [h]; rfl
    · rename_i h2
      rw [List.getElem?_eq_none (by omega)]
  · rfl
section VN9
variable {p : Program} {l : Launch} {e : Env} {R : Room} {s : State} {m : MethodId} {args : Array Value} {below : List Frame} {meth : Method} {c : Code} {cc : ByteArray} {nL : Nat} {ret : Option FieldType} {own : String} {Ts : List Cond} {D : va_G} {tys : List (ClassId × FieldType)} {G : (Nat → Prop) → State → Heap → Prop} {A : Nat → Prop} {F : va_W} {cells slots : Nat} {Q : State → Prop} {ws : va_W} {pc : Nat} {lv : List (Nat × Value)} {st : List Value}
theorem v_callNi (X : vX p s m args meth c cc nL ret own Ts D tys G A) {y : MethodName} {wsy wsy' : List Cond} {rmy : Room} {bytes : ByteArray} {maxL index : Nat} {As rest : List Value} {r : Int32} {ty : FieldType} (hM : mI l y wsy rmy G D tys As [] [] 0 0 r []) (n : Nat) (hT : GoodIn Ts wsy) (hw : wsy = Cond.code y bytes maxL (some ty) :: wsy') (hrc : rmy.cells = 0) (hrs : rmy.slots = 0) {host : String} (hlk : Cond.methodLinkNest own index y host ∈ nestW) (hini : Cond.initialized y.cls ∈ Ts) (hst2 : Cond.static y ∈ Ts) (hd : y.cls ≠ "java/lang/invoke/MethodHandle" ∧ y.cls ≠ "java/lang/invoke/VarHandle" ∧ (parseMethodDescriptor y.desc).map (fun d => d.parameters.length) = some n) (hR : rmy.frames + 1 ≤ R.frames ∧ 8 + (maxL + 11) + rmy.locals ≤ R.locals)
    (hn : As.length = n) (hst : st = As.reverse ++ rest) (hW : (rest.map fun v => v.category).sum ≤ 8) (hf : cells ≤ R.cells ∧ slots ≤ R.slots) (d : decode cc pc = .ok (.invokestatic index, 3)) (q : Nat) (hq : pc + 3 = q) (K : vW p l e R s m args below meth c nL D A F cells slots Q ws q lv (.int r :: rest)) : vW p l e R s m args below meth c nL D A F cells slots Q ws pc lv st := by
  subst hq
  subst hst
  intro H locs ls hP hD hS hl
  have hFc : ∀ q, va_A ([] ++ []) H.size q → A q := fun q h => by
    rcases h with ⟨k, e2, h⟩ | h
    · simp at h
    · exact X.2.2.2.2.2.2.2.2.1 q (Nat.le_trans hS.1 h)
  have hpc : ∀ (av : List Value) (U : State), U.heap = H → s.WarmedH U.vm → va_Pc av (pW G D tys H.size ([] ++ [])) av.toArray U := fun av U hU hW => ⟨rfl, by rw [hU], fun k q h => by simp at h, va_K.moved hW.alike X.2.2.2.2.2.2.2.1, ⟨fun i j p q h => by simp at h, fun k q h => by simp at h⟩, by
    rw [hU]
    exact X.2.2.2.2.2.2.2.2.2.1.2.2.1 _ s U H hW (X.2.2.2.2.2.2.2.2.2.1.1 _ _ s H (X.2.2.2.2.2.2.2.2.2.1.2.1 _ s _ _ X.2.2.2.2.2.2.2.2.2.2 hS.2.1) hFc)⟩
  refine va_calli (va_runSN ⟨X.1, X.2.1, X.2.2.2.1, X.2.2.2.2.1, X.2.2.2.2.2.1⟩ (hM H.size) ⟨va_cnB n X.2.2.2.2.2.1 hT hw hrc hrs (vN_use X hlk) (X.2.2.2.2.2.1 _ hini) hd hR, X.2.2.2.2.2.1 _ hst2, trivial⟩ ⟨pW_blind X.2.2.2.2.2.2.2.2.2.1, hpc As⟩ rfl hn hl.1 rfl (lv_room hW) d hf) hS (fun q _ h => hFc q h) (fun q h => hFc q h) (fun r' u t H1 locs1 ht hvm hpost hB hz1 hk1 hS => ?_)
  subst hpost
  obtain ⟨hP1, hK1, hD1⟩ := hB
  have hkk : ∀ q : Nat, q < H.size → H1[q]? = H[q]? := fun q hq => hk1 q hq (fun h => by
    rcases h with ⟨k, e2, h⟩ | h
    · simp at h
    · omega)
  exact K H1 locs1 ls (fun k q hq => (hP k q hq).kept (hkk q.1 (hP k q hq).lt)) hD hS hl
end VN9
theorem whw_0 : Cond.fieldLink RX12 19 "TicketGateLaw$Hand" "home" "[I" ∈ Wg := t4_in (List.mem_of_getElem? (i := 146) rfl) rfl
theorem whw_1 : Cond.laysFinal RX12 "TicketGateLaw$Hand" "tolerance" "I" ∈ Wg := t4_in (List.mem_of_getElem? (i := 156) rfl) rfl
theorem whw_2 : Cond.laysFinal RX12 "TicketGateLaw$Hand" "life" "[I" ∈ Wg := t4_in (List.mem_of_getElem? (i := 158) rfl) rfl
theorem whw_3 : Cond.laysFinal RX12 "TicketGateLaw$Hand" "again" "[I" ∈ Wg := t4_in (List.mem_of_getElem? (i := 160) rfl) rfl
theorem whw_4 : Cond.laysFinal RX12 "TicketGateLaw$Hand" "fast" "[I" ∈ Wg := t4_in (List.mem_of_getElem? (i := 162) rfl) rfl
theorem whw_5 : Cond.laysFinal RX12 "TicketGateLaw$Hand" "home" "[I" ∈ Wg := t4_in (List.mem_of_getElem? (i := 164) rfl) rfl
theorem whw_6 : Cond.laysFinal RX12 "TicketGateLaw$Hand" "own" "[I" ∈ Wg := t4_in (List.mem_of_getElem? (i := 166) rfl) rfl
theorem whw_7 : Cond.laysFinal RX12 "TicketGateLaw$Hand" "had" "[I" ∈ Wg := t4_in (List.mem_of_getElem? (i := 168) rfl) rfl
theorem whw_8 : Cond.laysFinal RX12 "TicketGateLaw$Hand" "place" "[I" ∈ Wg := t4_in (List.mem_of_getElem? (i := 170) rfl) rfl
theorem whw_9 : Cond.laysFinal RX12 "TicketGateLaw$Hand" "left" "[I" ∈ Wg := t4_in (List.mem_of_getElem? (i := 172) rfl) rfl
theorem whw_10 : Cond.lays RX12 "TicketGateLaw$Hand" "ticket" "[[I" ∈ Wg := t4_in (List.mem_of_getElem? (i := 174) rfl) rfl
theorem whw_11 : Cond.lays RX12 "TicketGateLaw$Hand" "use" "[[I" ∈ Wg := t4_in (List.mem_of_getElem? (i := 176) rfl) rfl
theorem whw_12 : Cond.lays RX12 "TicketGateLaw$Hand" "seed" "I" ∈ Wg := t4_in (List.mem_of_getElem? (i := 178) rfl) rfl
theorem whw_13 : Cond.lays RX12 "TicketGateLaw$Hand" "time" "I" ∈ Wg := t4_in (List.mem_of_getElem? (i := 180) rfl) rfl
theorem whw_14 : Cond.lays RX12 "TicketGateLaw$Hand" "next" "I" ∈ Wg := t4_in (List.mem_of_getElem? (i := 182) rfl) rfl
theorem whw_15 : Cond.methodLink RX12 82 yX12_skewed ∈ Wg := t4_in (List.mem_of_getElem? (i := 189) rfl) rfl
theorem whw_16 : Cond.instanceMethod yX12_skewed ∈ Wg := t4_in (List.mem_of_getElem? (i := 191) rfl) rfl
theorem whw_17 : Cond.selects RX12 yX12_skewed yX12_skewed ∈ Wg := p2_in (q := (⟨"TicketGateLaw$Hand", "skewed", "(II)Z"⟩, 14)) (List.mem_of_getElem? (i := 14) rfl)
theorem whw_18 : Cond.initialized RX12 ∈ Wg := t1_in (List.mem_of_getElem? (i := 29) rfl) rfl
theorem whw_19 : Cond.code yX12_skewed cX12_skewed 3 (some .boolean) ∈ Wg := t4_in (List.mem_of_getElem? (i := 192) rfl) rfl
theorem whw_20 : Cond.fieldLink RX12 35 "TicketGateLaw$Hand" "ticket" "[[I" ∈ Wg := t4_in (List.mem_of_getElem? (i := 151) rfl) rfl
theorem whw_21 : Cond.fieldLink RX12 67 "TicketGateLaw$Hand" "time" "I" ∈ Wg := t4_in (List.mem_of_getElem? (i := 154) rfl) rfl
theorem whw_22 : Cond.fieldLink RX12 7 "TicketGateLaw$Hand" "life" "[I" ∈ Wg := t4_in (List.mem_of_getElem? (i := 143) rfl) rfl
theorem whw_23 : Cond.fieldLink RX12 13 "TicketGateLaw$Hand" "again" "[I" ∈ Wg := t4_in (List.mem_of_getElem? (i := 144) rfl) rfl
theorem whw_24 : Cond.methodLink RX12 89 yX12_makes ∈ Wg := t4_in (List.mem_of_getElem? (i := 194) rfl) rfl
theorem whw_25 : Cond.instanceMethod yX12_makes ∈ Wg := t4_in (List.mem_of_getElem? (i := 196) rfl) rfl
theorem whw_26 : Cond.selects RX12 yX12_makes yX12_makes ∈ Wg := p2_in (q := (⟨"TicketGateLaw$Hand", "makes", "(IIIIII)I"⟩, 14)) (List.mem_of_getElem? (i := 15) rfl)
theorem whw_27 : Cond.code yX12_makes cX12_makes 7 (some .int) ∈ Wg := t4_in (List.mem_of_getElem? (i := 197) rfl) rfl
theorem whw_28 : Cond.code yL_isTrusted cL_isTrusted 3 (some .boolean) ∈ Wg := t4_in (List.mem_of_getElem? (i := 208) rfl) rfl
theorem whw_29 : Cond.initialized RL ∈ Wg := t1_in (List.mem_of_getElem? (i := 0) rfl) rfl
theorem whw_30 : Cond.static yL_isTrusted ∈ Wg := t4_in (List.mem_of_getElem? (i := 207) rfl) rfl
theorem whw_31 : Cond.methodLink RX12 101 yX12_derives ∈ Wg := t4_in (List.mem_of_getElem? (i := 210) rfl) rfl
theorem whw_32 : Cond.instanceMethod yX12_derives ∈ Wg := t4_in (List.mem_of_getElem? (i := 212) rfl) rfl
theorem whw_33 : Cond.selects RX12 yX12_derives yX12_derives ∈ Wg := p3_in (q := (⟨"TicketGateLaw$Hand", "derives", "([III)I"⟩, 14)) (List.mem_of_getElem? (i := 1) rfl)
theorem whw_34 : Cond.code yX12_derives cX12_derives 4 (some .int) ∈ Wg := t4_in (List.mem_of_getElem? (i := 213) rfl) rfl
theorem whw_35 : Cond.fieldLink RX12 28 "TicketGateLaw$Hand" "place" "[I" ∈ Wg := t4_in (List.mem_of_getElem? (i := 149) rfl) rfl
theorem whw_36 : Cond.methodLink RX12 86 Lib.Math.min.name ∈ Wg := t4_in (List.mem_of_getElem? (i := 214) rfl) rfl
theorem whw_37 : Cond.static Lib.Math.min.name ∈ Wg := t2_in (List.mem_of_getElem? (i := 76) rfl) rfl
theorem whw_38 : Cond.initialized "java/lang/Math" ∈ Wg := t1_in (List.mem_of_getElem? (i := 3) rfl) rfl
theorem whw_39 : Cond.code Lib.Math.min.name Lib.Math.min.code 2 (some .int) ∈ Wg := t2_in (List.mem_of_getElem? (i := 77) rfl) rfl
theorem whw_40 : Cond.methodLink RX12 74 yX12_draws ∈ Wg := t4_in (List.mem_of_getElem? (i := 199) rfl) rfl
theorem whw_41 : Cond.instanceMethod yX12_draws ∈ Wg := t4_in (List.mem_of_getElem? (i := 201) rfl) rfl
theorem whw_42 : Cond.selects RX12 yX12_draws yX12_draws ∈ Wg := p3_in (q := (⟨"TicketGateLaw$Hand", "draws", "()I"⟩, 14)) (List.mem_of_getElem? (i := 0) rfl)
theorem whw_43 : Cond.code yX12_draws cX12_draws 1 (some .int) ∈ Wg := t4_in (List.mem_of_getElem? (i := 202) rfl) rfl
theorem whw_44 : Cond.methodLink RX12 105 yX12_gets ∈ Wg := t4_in (List.mem_of_getElem? (i := 215) rfl) rfl
theorem whw_45 : Cond.instanceMethod yX12_gets ∈ Wg := t4_in (List.mem_of_getElem? (i := 217) rfl) rfl
theorem whw_46 : Cond.selects RX12 yX12_gets yX12_gets ∈ Wg := p3_in (q := (⟨"TicketGateLaw$Hand", "gets", "([I)I"⟩, 14)) (List.mem_of_getElem? (i := 2) rfl)
theorem whw_47 : Cond.code yX12_gets cX12_gets 6 (some .int) ∈ Wg := t4_in (List.mem_of_getElem? (i := 218) rfl) rfl
theorem whw_48 : Cond.methodLink RX12 93 yX12_without ∈ Wg := t4_in (List.mem_of_getElem? (i := 219) rfl) rfl
theorem whw_49 : Cond.static yX12_without ∈ Wg := t4_in (List.mem_of_getElem? (i := 220) rfl) rfl
theorem whw_50 : Cond.code yX12_without cX12_without 4 (some (.array (.array .int))) ∈ Wg := t4_in (List.mem_of_getElem? (i := 221) rfl) rfl
theorem whw_51 : Cond.fieldLink RX12 22 "TicketGateLaw$Hand" "own" "[I" ∈ Wg := t4_in (List.mem_of_getElem? (i := 147) rfl) rfl
theorem whw_52 : Cond.code yL_offset cL_offset 1 (some .int) ∈ Wg := t4_in (List.mem_of_getElem? (i := 141) rfl) rfl
theorem whw_53 : Cond.static yL_offset ∈ Wg := t4_in (List.mem_of_getElem? (i := 140) rfl) rfl
theorem whw_54 : Cond.methodLink RX12 109 yX12_valid ∈ Wg := t4_in (List.mem_of_getElem? (i := 222) rfl) rfl
theorem whw_55 : Cond.instanceMethod yX12_valid ∈ Wg := t4_in (List.mem_of_getElem? (i := 223) rfl) rfl
theorem whw_56 : Cond.selects RX12 yX12_valid yX12_valid ∈ Wg := t4_in (List.mem_of_getElem? (i := 224) rfl) rfl
theorem whw_57 : Cond.code yX12_valid cX12_valid 6 (some .int) ∈ Wg := t4_in (List.mem_of_getElem? (i := 225) rfl) rfl
theorem whw_58 : Cond.fieldLink RX12 39 "TicketGateLaw$Hand" "use" "[[I" ∈ Wg := t4_in (List.mem_of_getElem? (i := 152) rfl) rfl
theorem whw_59 : Cond.fieldLink RX12 48 "TicketGateLaw$Hand" "tolerance" "I" ∈ Wg := t4_in (List.mem_of_getElem? (i := 142) rfl) rfl
theorem layhw_X12 : ∀ k, k < 14 → u_lay RX12 TX12 k ∈ Wg := fun k hk => match k, hk with
  | 0, _ => whw_1
  | 1, _ => whw_2
  | 2, _ => whw_3
  | 3, _ => whw_4
  | 4, _ => whw_5
  | 5, _ => whw_6
  | 6, _ => whw_7
  | 7, _ => whw_8
  | 8, _ => whw_9
  | 9, _ => whw_10
  | 10, _ => whw_11
  | 11, _ => whw_12
  | 12, _ => whw_13
  | 13, _ => whw_14
  | k + 14, h => absurd h (by omega)
set_option maxRecDepth 100000 in
set_option maxHeartbeats 400000 in
theorem x_login {p : Program} {l : Launch} {e : Env} {s : State} {m : MethodId} {args : Array Value} {below : List Frame} {meth : Method} {c : Code} {A : Nat → Prop} {G : (Nat → Prop) → State → Heap → Prop} (hG : vG G) (D : va_G) (c9 : Nat → ClassId) {sk sv : Nat → Nat} (hGU : ∀ (A : Nat → Prop) (U : State) (H : Heap), G A U H → vU sk sv A U H) (hGV : ∀ (A : Nat → Prop) (U : State) (H : Heap), G A U H → vV A U H) (X : vX p s m args meth c cX12_acts 11 (some .int) RX12 (wq yX12_acts cX12_acts 11 (some .int)) D (tyA c9) G A) {ha : Nat → Nat} {ta ua : Nat} {h : FH} {R S : List (Nat × Row)} {F0 : va_W} {bs Ls : Nat} {xs : Nat → Int32} (hGS : ∀ (A : Nat → Prop) (U : State) (H : Heap), G A U H → va_T .int bs Ls (fun j => .int (xs j)) A U H) (hLs : Ls < 2 ^ 31) {n : Nat} {o : HA} (hn : n < 2 ^ 31) (hl : R.length ≤ 24) (hl2 : S.length ≤ 30) (hhm : ∀ u, u < 3 → vp_in (FH.home h u) 3) {at9 a8 : Nat} {cells slots : Nat} (hcc : cells ≤ 1) (hss : slots ≤ 10) (ho : hLogin h (R.map Prod.snd) (S.map Prod.snd) (n / 32 % 3) (n / 32 / 16) = o) : vW p l e { frames := 3, cells := 40, slots := 1300, locals := 77 } s m args below meth c 11 D A (wHF c9 R S F0) cells slots (MQ below (qJ D (tyA c9) A o.1 (fun (u : HS) => u.2.2.1.map Prod.snd = o.2.2.1 ∧ u.2.2.2.map Prod.snd = o.2.2.2) (fun (u : HS) => wH ha c9 u.1 u.2.1 o.2.1 u.2.2.1 u.2.2.2 ++ wHF c9 u.2.2.1 u.2.2.2 F0)) args s 40 1300 A) [((ha 0), .inr (13, [.int (FH.tol h), .ref (ha 1), .ref (ha 2), .ref (ha 3), .ref (ha 4), .ref (ha 5), .ref (ha 6), .ref (ha 7), .ref (ha 8), .ref ta, .ref ua, .int (FH.seed h), .int (FH.time h), .int (FH.next h)])), ((ha 1), .inl (c9 0, 3, .inl (FH.life h))), ((ha 2), .inl (c9 0, 3, .inl (FH.again h))), ((ha 3), .inl (c9 0, 3, .inl (FH.fast h))), ((ha 4), .inl (c9 0, 3, .inl (FH.home h))), ((ha 5), .inl (c9 0, 3, .inl (FH.own h))), ((ha 6), .inl (c9 0, 3, .inl (FH.had h))), ((ha 7), .inl (c9 0, 2, .inl (FH.place h))), ((ha 8), .inl (c9 0, 2, .inl (FH.left h))), (ta, .inl (c9 4, R.length, .inr (.inr (.inr (.inr (outF R)))))), (ua, .inl (c9 4, S.length, .inr (.inr (.inr (.inr (outF S))))))] 228 [(8, .ref a8), (7, .int (nI at9)), (5, .int (nI (n / 32 / 16))), (4, .int (nI (n / 32 % 3))), (3, .int (nI (n / 32))), (2, .int (nI n)), (1, .ref bs), (0, .ref (ha 0))] [] := by
  have hov : va_AI s := (hGV A s s.heap X.2.2.2.2.2.2.2.2.2.2).2
  have TS := hGS A s s.heap X.2.2.2.2.2.2.2.2.2.2
  refine v_iload X dX12_acts_228 2 rfl 230 rfl ?_
  refine v_bipush X dX12_acts_230 bp_8 232 rfl ?_
  refine v_irem X dX12_acts_232 (by decide) 233 rfl ?_
  rw [show irm (nI (n / 32 / 16)) 8 = nI ((n / 32 / 16) % 8) from irm_nI (by omega) (by decide) (by decide)]
  by_cases hz8 : n / 32 / 16 % 8 = 0
  · refine v_if_eq X (tgt := 262) dX12_acts_233 rfl 236 rfl (a := some ()) (b := none) (o := ()) (if_pos (by rw [hz8]; rfl)) (fun _ => ?_) (fun h => nomatch h)
    have e : hLogin h (R.map Prod.snd) (S.map Prod.snd) (n / 32 % 3) (n / 32 / 16) = (-9, h, (R.map Prod.snd), (S.map Prod.snd)) := if_pos (Or.inl hz8)
    rw [e] at ho
    subst ho
    refine v_bipush X dX12_acts_262 bp_m9 264 rfl ?_
    exact v_jret (ta, ua, R, S) ⟨rfl, rfl⟩ rfl (List.Perm.refl _) X (by first | exact Nat.le_of_ble_eq_true rfl | omega | (dsimp only; omega)) (by first | exact Nat.le_of_ble_eq_true rfl | omega | (dsimp only; omega)) dX12_acts_264
  · refine v_if_eq X (tgt := 262) dX12_acts_233 rfl 236 rfl (a := none) (b := some ()) (o := ()) (if_neg (fun z9 => hz8 ((nI_eq (a := n / 32 / 16 % 8) (b := 0) (by omega) (by decide)).mp z9))) (fun h => nomatch h) (fun _ => ?_)
    refine v_aload_n X dX12_acts_236 7 rfl rfl 237 rfl ?_
    refine v_iload X dX12_acts_237 3 rfl 239 rfl ?_
    refine v_aload_n X dX12_acts_239 7 rfl rfl 240 rfl ?_
    refine v_get X (C := RX12) (T := TX12) (N := 14) (ci := 13) (v := _) dX12_acts_240 (lay_of layhw_X12) 0 rfl rfl 4 (by decide) (mw whw_0) rfl rfl 243 rfl ?_
    refine v_iload X dX12_acts_243 3 rfl 245 rfl ?_
    refine v_iald X dX12_acts_245 4 0 rfl rfl (rd_nI9 (f := (FH.home h)) (k := (n / 32 % 3)) (show _ < 3 by omega) (by decide)) 246 rfl ?_
    refine v_callVi X (C := RX12) (ci := 13) (T := TX12) (As := [.int (nI (n / 32 % 3)), .int ((FH.home h) (n / 32 % 3))]) (rest := []) (ws' := [((ha 0), .inr (13, [.int (FH.tol h), .ref (ha 1), .ref (ha 2), .ref (ha 3), .ref (ha 4), .ref (ha 5), .ref (ha 6), .ref (ha 7), .ref (ha 8), .ref ta, .ref ua, .int (FH.seed h), .int (FH.time h), .int (FH.next h)])), ((ha 1), .inl (c9 0, 3, .inl (FH.life h))), ((ha 2), .inl (c9 0, 3, .inl (FH.again h))), ((ha 3), .inl (c9 0, 3, .inl (FH.fast h))), ((ha 4), .inl (c9 0, 3, .inl (FH.home h))), ((ha 5), .inl (c9 0, 3, .inl (FH.own h))), ((ha 6), .inl (c9 0, 3, .inl (FH.had h))), ((ha 7), .inl (c9 0, 2, .inl (FH.place h))), ((ha 8), .inl (c9 0, 2, .inl (FH.left h))), (ta, .inl (c9 4, R.length, .inr (.inr (.inr (.inr (outF R)))))), (ua, .inl (c9 4, S.length, .inr (.inr (.inr (.inr (outF S))))))]) (c_skewed l hG D c9 hGU hGV (ha := ha) (ta := ta) (ua := ua) (h := h) (R := R) (S := S) (vp_in_nI (show n / 32 % 3 < 3 by omega) (by decide)) (hhm _ (by omega))) 2 (gV whw_15 whw_16 whw_17 whw_18 whw_19) rfl rfl rfl ⟨rfl, by decide +kernel⟩ ⟨Nat.le_of_ble_eq_true rfl, Nat.le_of_ble_eq_true rfl⟩ 0 rfl rfl rfl rfl (Nat.le_of_ble_eq_true rfl) ⟨(by first | exact Nat.le_of_ble_eq_true rfl | omega | (dsimp only; omega)), (by first | exact Nat.le_of_ble_eq_true rfl | omega | (dsimp only; omega))⟩ [0, 1, 2, 3, 4, 5, 6, 7, 8, 9, 10] [] [0, 1, 2, 3, 4, 5, 6, 7, 8, 9, 10] rfl rfl rfl rfl dX12_acts_246 249 rfl ?_
    by_cases hsk : hSk h (nI (n / 32 % 3)) (FH.home h (n / 32 % 3)) = true
    · refine v_if_ne X (tgt := 262) dX12_acts_249 rfl 252 rfl (a := some ()) (b := none) (o := ()) (if_neg (by rw [if_pos hsk]; decide)) (fun _ => ?_) (fun h => nomatch h)
      have e : hLogin h (R.map Prod.snd) (S.map Prod.snd) (n / 32 % 3) (n / 32 / 16) = (-9, h, (R.map Prod.snd), (S.map Prod.snd)) := if_pos (Or.inr (Or.inl hsk))
      rw [e] at ho
      subst ho
      refine v_bipush X dX12_acts_262 bp_m9 264 rfl ?_
      exact v_jret (ta, ua, R, S) ⟨rfl, rfl⟩ rfl (List.Perm.refl _) X (by first | exact Nat.le_of_ble_eq_true rfl | omega | (dsimp only; omega)) (by first | exact Nat.le_of_ble_eq_true rfl | omega | (dsimp only; omega)) dX12_acts_264
    · refine v_if_ne X (tgt := 262) dX12_acts_249 rfl 252 rfl (a := none) (b := some ()) (o := ()) (if_pos (if_neg hsk)) (fun h => nomatch h) (fun _ => ?_)
      refine v_aload_n X dX12_acts_252 7 rfl rfl 253 rfl ?_
      refine v_get X (C := RX12) (T := TX12) (N := 14) (ci := 13) (v := _) dX12_acts_253 (lay_of layhw_X12) 0 rfl rfl 9 (by decide) (mw whw_20) rfl rfl 256 rfl ?_
      refine v_alen X dX12_acts_256 9 4 rfl rfl rfl 257 rfl ?_
      refine v_bipush X dX12_acts_257 bp_24 259 rfl ?_
      by_cases h24 : R.length = 24
      · refine v_icmp_ne X (tgt := 265) dX12_acts_259 rfl 262 rfl (a := none) (b := some ()) (o := ()) (if_pos (by rw [h24]; rfl)) (fun h => nomatch h) (fun _ => ?_)
        have e : hLogin h (R.map Prod.snd) (S.map Prod.snd) (n / 32 % 3) (n / 32 / 16) = (-9, h, (R.map Prod.snd), (S.map Prod.snd)) := if_pos (Or.inr (Or.inr (by rw [List.length_map]; exact h24)))
        rw [e] at ho
        subst ho
        refine v_bipush X dX12_acts_262 bp_m9 264 rfl ?_
        exact v_jret (ta, ua, R, S) ⟨rfl, rfl⟩ rfl (List.Perm.refl _) X (by first | exact Nat.le_of_ble_eq_true rfl | omega | (dsimp only; omega)) (by first | exact Nat.le_of_ble_eq_true rfl | omega | (dsimp only; omega)) dX12_acts_264
      · refine v_icmp_ne X (tgt := 265) dX12_acts_259 rfl 262 rfl (a := some ()) (b := none) (o := ()) (if_neg (fun z => h24 ((nI_eq (a := R.length) (b := 24) (by omega) (by decide)).mp z))) (fun _ => ?_) (fun h => nomatch h)
        have e : hLogin h (R.map Prod.snd) (S.map Prod.snd) (n / 32 % 3) (n / 32 / 16) = ((hMakes h (R.map Prod.snd) (nI (n / 32 % 3)) (FH.home h (n / 32 % 3)) (-1) (FH.time h + FH.life h (FH.home h (n / 32 % 3)).toNatClampNeg) (FH.time h + FH.again h (FH.home h (n / 32 % 3)).toNatClampNeg) (if (n / 32 / 16) / 8 % 2 = 0 then 1 else 0)).1, (hMakes h (R.map Prod.snd) (nI (n / 32 % 3)) (FH.home h (n / 32 % 3)) (-1) (FH.time h + FH.life h (FH.home h (n / 32 % 3)).toNatClampNeg) (FH.time h + FH.again h (FH.home h (n / 32 % 3)).toNatClampNeg) (if (n / 32 / 16) / 8 % 2 = 0 then 1 else 0)).2.1, (hMakes h (R.map Prod.snd) (nI (n / 32 % 3)) (FH.home h (n / 32 % 3)) (-1) (FH.time h + FH.life h (FH.home h (n / 32 % 3)).toNatClampNeg) (FH.time h + FH.again h (FH.home h (n / 32 % 3)).toNatClampNeg) (if (n / 32 / 16) / 8 % 2 = 0 then 1 else 0)).2.2, (S.map Prod.snd)) := if_neg (by rw [List.length_map]; exact fun z => z.elim hz8 (fun z => z.elim hsk h24))
        rw [e] at ho
        subst ho
        refine v_aload_n X dX12_acts_265 7 rfl rfl 266 rfl ?_
        refine v_iload X dX12_acts_266 3 rfl 268 rfl ?_
        refine v_aload_n X dX12_acts_268 7 rfl rfl 269 rfl ?_
        refine v_get X (C := RX12) (T := TX12) (N := 14) (ci := 13) (v := _) dX12_acts_269 (lay_of layhw_X12) 0 rfl rfl 4 (by decide) (mw whw_0) rfl rfl 272 rfl ?_
        refine v_iload X dX12_acts_272 3 rfl 274 rfl ?_
        refine v_iald X dX12_acts_274 4 0 rfl rfl (rd_nI9 (f := (FH.home h)) (k := (n / 32 % 3)) (show _ < 3 by omega) (by decide)) 275 rfl ?_
        refine v_iconst X dX12_acts_275 ic_m1 276 rfl ?_
        refine v_aload_n X dX12_acts_276 7 rfl rfl 277 rfl ?_
        refine v_get X (C := RX12) (T := TX12) (N := 14) (ci := 13) (v := _) dX12_acts_277 (lay_of layhw_X12) 0 rfl rfl 12 (by decide) (mw whw_21) rfl rfl 280 rfl ?_
        refine v_aload_n X dX12_acts_280 7 rfl rfl 281 rfl ?_
        refine v_get X (C := RX12) (T := TX12) (N := 14) (ci := 13) (v := _) dX12_acts_281 (lay_of layhw_X12) 0 rfl rfl 1 (by decide) (mw whw_22) rfl rfl 284 rfl ?_
        refine v_aload_n X dX12_acts_284 7 rfl rfl 285 rfl ?_
        refine v_get X (C := RX12) (T := TX12) (N := 14) (ci := 13) (v := _) dX12_acts_285 (lay_of layhw_X12) 0 rfl rfl 4 (by decide) (mw whw_0) rfl rfl 288 rfl ?_
        refine v_iload X dX12_acts_288 3 rfl 290 rfl ?_
        refine v_iald X dX12_acts_290 4 0 rfl rfl (rd_nI9 (f := (FH.home h)) (k := (n / 32 % 3)) (show _ < 3 by omega) (by decide)) 291 rfl ?_
        refine v_iald X dX12_acts_291 1 0 rfl rfl (rd_v (f := (FH.life h)) (hhm _ (by omega))) 292 rfl ?_
        refine v_iadd X dX12_acts_292 293 rfl ?_
        refine v_aload_n X dX12_acts_293 7 rfl rfl 294 rfl ?_
        refine v_get X (C := RX12) (T := TX12) (N := 14) (ci := 13) (v := _) dX12_acts_294 (lay_of layhw_X12) 0 rfl rfl 12 (by decide) (mw whw_21) rfl rfl 297 rfl ?_
        refine v_aload_n X dX12_acts_297 7 rfl rfl 298 rfl ?_
        refine v_get X (C := RX12) (T := TX12) (N := 14) (ci := 13) (v := _) dX12_acts_298 (lay_of layhw_X12) 0 rfl rfl 2 (by decide) (mw whw_23) rfl rfl 301 rfl ?_
        refine v_aload_n X dX12_acts_301 7 rfl rfl 302 rfl ?_
        refine v_get X (C := RX12) (T := TX12) (N := 14) (ci := 13) (v := _) dX12_acts_302 (lay_of layhw_X12) 0 rfl rfl 4 (by decide) (mw whw_0) rfl rfl 305 rfl ?_
        refine v_iload X dX12_acts_305 3 rfl 307 rfl ?_
        refine v_iald X dX12_acts_307 4 0 rfl rfl (rd_nI9 (f := (FH.home h)) (k := (n / 32 % 3)) (show _ < 3 by omega) (by decide)) 308 rfl ?_
        refine v_iald X dX12_acts_308 2 0 rfl rfl (rd_v (f := (FH.again h)) (hhm _ (by omega))) 309 rfl ?_
        refine v_iadd X dX12_acts_309 310 rfl ?_
        refine v_iload X dX12_acts_310 2 rfl 312 rfl ?_
        refine v_bipush X dX12_acts_312 bp_8 314 rfl ?_
        refine v_idiv X dX12_acts_314 (by decide) 315 rfl ?_
        rw [show nI (n / 32 / 16) / 8 = nI ((n / 32 / 16) / 8) from pk_div (by omega) (by decide) (by decide)]
        refine v_iconst X dX12_acts_315 ic_2 316 rfl ?_
        refine v_irem X dX12_acts_316 (by decide) 317 rfl ?_
        rw [show irm (nI ((n / 32 / 16) / 8)) 2 = nI (((n / 32 / 16) / 8) % 2) from irm_nI (by omega) (by decide) (by decide)]
        by_cases he : n / 32 / 16 / 8 % 2 = 0
        · refine v_if_ne X (tgt := 324) dX12_acts_317 rfl 320 rfl (a := none) (b := some ()) (o := ()) (if_pos (by rw [he]; rfl)) (fun h => nomatch h) (fun _ => ?_)
          refine v_iconst X dX12_acts_320 ic_1 321 rfl ?_
          refine v_goto X (tgt := 325) dX12_acts_321 rfl ?_
          refine v_eq (st2 := [.int (if (n / 32 / 16) / 8 % 2 = 0 then 1 else 0), .int ((FH.time h) + ((FH.again h) ((FH.home h) (n / 32 % 3)).toNatClampNeg)), .int ((FH.time h) + ((FH.life h) ((FH.home h) (n / 32 % 3)).toNatClampNeg)), .int (-1), .int ((FH.home h) (n / 32 % 3)), .int (nI (n / 32 % 3)), .ref (ha 0)]) rfl rfl rfl (by rw [if_pos he]) ?_
          refine v_gj X (S := HS) (ws' := fun u => wH ha c9 u.1 u.2.1 (hMakes h (R.map Prod.snd) (nI (n / 32 % 3)) ((FH.home h) (n / 32 % 3)) (-1) ((FH.time h) + ((FH.life h) ((FH.home h) (n / 32 % 3)).toNatClampNeg)) ((FH.time h) + ((FH.again h) ((FH.home h) (n / 32 % 3)).toNatClampNeg)) (if (n / 32 / 16) / 8 % 2 = 0 then 1 else 0)).2.1 u.2.2.1 u.2.2.2) (F' := fun u => wHF c9 u.2.2.1 u.2.2.2 F0) (r_V X (C := RX12) (As := [.int (nI (n / 32 % 3)), .int ((FH.home h) (n / 32 % 3)), .int (-1), .int ((FH.time h) + ((FH.life h) ((FH.home h) (n / 32 % 3)).toNatClampNeg)), .int ((FH.time h) + ((FH.again h) ((FH.home h) (n / 32 % 3)).toNatClampNeg)), .int (if (n / 32 / 16) / 8 % 2 = 0 then 1 else 0)]) (rest := []) (r_pc X) (c_makes l hG D c9 hGU hGV (ha := ha) (ta := ta) (ua := ua) (h := h) (R := R) (S := S) (F0 := F0) (by omega)) 6 (gV whw_24 whw_25 whw_26 whw_18 whw_27) rfl rfl rfl ⟨rfl, by decide +kernel⟩ ⟨Nat.le_of_ble_eq_true rfl, Nat.le_of_ble_eq_true rfl⟩ (r_recv X (ci := 13) 0 rfl rfl) rfl rfl (Nat.le_of_ble_eq_true rfl) ⟨(by first | exact Nat.le_of_ble_eq_true rfl | omega | (dsimp only; omega)), (by first | exact Nat.le_of_ble_eq_true rfl | omega | (dsimp only; omega))⟩ dX12_acts_325) (fun _ => rfl) 328 rfl (fun u hu => ?_)
          exact v_jret u hu rfl (List.Perm.refl _) X (by first | exact Nat.le_of_ble_eq_true rfl | omega | (dsimp only; omega)) (by first | exact Nat.le_of_ble_eq_true rfl | omega | (dsimp only; omega)) dX12_acts_328
        · refine v_if_ne X (tgt := 324) dX12_acts_317 rfl 320 rfl (a := some ()) (b := none) (o := ()) (if_neg (by rw [show n / 32 / 16 / 8 % 2 = 1 by omega]; decide)) (fun _ => ?_) (fun h => nomatch h)
          refine v_iconst X dX12_acts_324 ic_0 325 rfl ?_
          refine v_eq (st2 := [.int (if (n / 32 / 16) / 8 % 2 = 0 then 1 else 0), .int ((FH.time h) + ((FH.again h) ((FH.home h) (n / 32 % 3)).toNatClampNeg)), .int ((FH.time h) + ((FH.life h) ((FH.home h) (n / 32 % 3)).toNatClampNeg)), .int (-1), .int ((FH.home h) (n / 32 % 3)), .int (nI (n / 32 % 3)), .ref (ha 0)]) rfl rfl rfl (by rw [if_neg he]) ?_
          refine v_gj X (S := HS) (ws' := fun u => wH ha c9 u.1 u.2.1 (hMakes h (R.map Prod.snd) (nI (n / 32 % 3)) ((FH.home h) (n / 32 % 3)) (-1) ((FH.time h) + ((FH.life h) ((FH.home h) (n / 32 % 3)).toNatClampNeg)) ((FH.time h) + ((FH.again h) ((FH.home h) (n / 32 % 3)).toNatClampNeg)) (if (n / 32 / 16) / 8 % 2 = 0 then 1 else 0)).2.1 u.2.2.1 u.2.2.2) (F' := fun u => wHF c9 u.2.2.1 u.2.2.2 F0) (r_V X (C := RX12) (As := [.int (nI (n / 32 % 3)), .int ((FH.home h) (n / 32 % 3)), .int (-1), .int ((FH.time h) + ((FH.life h) ((FH.home h) (n / 32 % 3)).toNatClampNeg)), .int ((FH.time h) + ((FH.again h) ((FH.home h) (n / 32 % 3)).toNatClampNeg)), .int (if (n / 32 / 16) / 8 % 2 = 0 then 1 else 0)]) (rest := []) (r_pc X) (c_makes l hG D c9 hGU hGV (ha := ha) (ta := ta) (ua := ua) (h := h) (R := R) (S := S) (F0 := F0) (by omega)) 6 (gV whw_24 whw_25 whw_26 whw_18 whw_27) rfl rfl rfl ⟨rfl, by decide +kernel⟩ ⟨Nat.le_of_ble_eq_true rfl, Nat.le_of_ble_eq_true rfl⟩ (r_recv X (ci := 13) 0 rfl rfl) rfl rfl (Nat.le_of_ble_eq_true rfl) ⟨(by first | exact Nat.le_of_ble_eq_true rfl | omega | (dsimp only; omega)), (by first | exact Nat.le_of_ble_eq_true rfl | omega | (dsimp only; omega))⟩ dX12_acts_325) (fun _ => rfl) 328 rfl (fun u hu => ?_)
          exact v_jret u hu rfl (List.Perm.refl _) X (by first | exact Nat.le_of_ble_eq_true rfl | omega | (dsimp only; omega)) (by first | exact Nat.le_of_ble_eq_true rfl | omega | (dsimp only; omega)) dX12_acts_328
set_option maxRecDepth 100000 in
set_option maxHeartbeats 400000 in
theorem x_refer {p : Program} {l : Launch} {e : Env} {s : State} {m : MethodId} {args : Array Value} {below : List Frame} {meth : Method} {c : Code} {A : Nat → Prop} {G : (Nat → Prop) → State → Heap → Prop} (hG : vG G) (D : va_G) (c9 : Nat → ClassId) {sk sv : Nat → Nat} (hGU : ∀ (A : Nat → Prop) (U : State) (H : Heap), G A U H → vU sk sv A U H) (hGV : ∀ (A : Nat → Prop) (U : State) (H : Heap), G A U H → vV A U H) (X : vX p s m args meth c cX12_acts 11 (some .int) RX12 (wq yX12_acts cX12_acts 11 (some .int)) D (tyA c9) G A) {ha : Nat → Nat} {ta ua : Nat} {h : FH} {R S : List (Nat × Row)} {F0 : va_W} {bs Ls : Nat} {xs : Nat → Int32} (hGS : ∀ (A : Nat → Prop) (U : State) (H : Heap), G A U H → va_T .int bs Ls (fun j => .int (xs j)) A U H) (hLs : Ls < 2 ^ 31) {n : Nat} {o : HA} (hn : n < 2 ^ 31) (hl : R.length ≤ 24) (hl2 : S.length ≤ 30) (hhm : ∀ u, u < 3 → vp_in (FH.home h u) 3) {at9 a8 : Nat} {g : Row} (hRi : R[at9]? = some (a8, g)) (hok : rowOK g) {cells slots : Nat} (hcc : cells ≤ 1) (hss : slots ≤ 10) (ho : hRefer (scel xs Ls 4) h (R.map Prod.snd) (S.map Prod.snd) g (n / 32 / 16) = o) : vW p l e { frames := 3, cells := 40, slots := 1300, locals := 77 } s m args below meth c 11 D A (wHF c9 R S F0) cells slots (MQ below (qJ D (tyA c9) A o.1 (fun (u : HS) => u.2.2.1.map Prod.snd = o.2.2.1 ∧ u.2.2.2.map Prod.snd = o.2.2.2) (fun (u : HS) => wH ha c9 u.1 u.2.1 o.2.1 u.2.2.1 u.2.2.2 ++ wHF c9 u.2.2.1 u.2.2.2 F0)) args s 40 1300 A) [((ha 0), .inr (13, [.int (FH.tol h), .ref (ha 1), .ref (ha 2), .ref (ha 3), .ref (ha 4), .ref (ha 5), .ref (ha 6), .ref (ha 7), .ref (ha 8), .ref ta, .ref ua, .int (FH.seed h), .int (FH.time h), .int (FH.next h)])), ((ha 1), .inl (c9 0, 3, .inl (FH.life h))), ((ha 2), .inl (c9 0, 3, .inl (FH.again h))), ((ha 3), .inl (c9 0, 3, .inl (FH.fast h))), ((ha 4), .inl (c9 0, 3, .inl (FH.home h))), ((ha 5), .inl (c9 0, 3, .inl (FH.own h))), ((ha 6), .inl (c9 0, 3, .inl (FH.had h))), ((ha 7), .inl (c9 0, 2, .inl (FH.place h))), ((ha 8), .inl (c9 0, 2, .inl (FH.left h))), (ta, .inl (c9 4, R.length, .inr (.inr (.inr (.inr (outF R)))))), (ua, .inl (c9 4, S.length, .inr (.inr (.inr (.inr (outF S))))))] 329 [(8, .ref a8), (7, .int (nI at9)), (5, .int (nI (n / 32 / 16))), (4, .int (nI (n / 32 % 3))), (3, .int (nI (n / 32))), (2, .int (nI n)), (1, .ref bs), (0, .ref (ha 0))] [] := by
  have hov : va_AI s := (hGV A s s.heap X.2.2.2.2.2.2.2.2.2.2).2
  have TS := hGS A s s.heap X.2.2.2.2.2.2.2.2.2.2
  obtain ⟨x3, hx3, hg3e⟩ := hok.2.1
  have hg3 : vp_in (g 3) 3 := by rw [hg3e]; exact vp_in_nI hx3 (by decide)
  refine v_aload X dX12_acts_329 0 rfl 331 rfl ?_
  refine v_iconst X dX12_acts_331 ic_1 332 rfl ?_
  refine v_ildF X dX12_acts_332 (11 + at9) 0 (row_at (ws := [_, _, _, _, _, _, _, _, _, _, _]) hRi) rfl (rd_nI9 (f := g) (k := 1) (show 1 < 10 by decide) (by decide)) 333 rfl ?_
  by_cases h1 : g 1 = 0
  · refine v_if_ne X (tgt := 363) dX12_acts_333 rfl 336 rfl (a := none) (b := some ()) (o := ()) (if_pos h1) (fun h => nomatch h) (fun _ => ?_)
    refine v_aload_n X dX12_acts_336 7 rfl rfl 337 rfl ?_
    refine v_get X (C := RX12) (T := TX12) (N := 14) (ci := 13) (v := _) dX12_acts_337 (lay_of layhw_X12) 0 rfl rfl 12 (by decide) (mw whw_21) rfl rfl 340 rfl ?_
    refine v_aload X dX12_acts_340 0 rfl 342 rfl ?_
    refine v_bipush X dX12_acts_342 bp_6 344 rfl ?_
    refine v_ildF X dX12_acts_344 (11 + at9) 0 (row_at (ws := [_, _, _, _, _, _, _, _, _, _, _]) hRi) rfl (rd_nI9 (f := g) (k := 6) (show 6 < 10 by decide) (by decide)) 345 rfl ?_
    by_cases h6 : g 6 ≤ FH.time h
    · refine v_icmp_ge X (tgt := 363) dX12_acts_345 rfl 348 rfl (a := some ()) (b := none) (o := ()) (if_pos h6) (fun _ => ?_) (fun h => nomatch h)
      have e : hRefer (scel xs Ls 4) h (R.map Prod.snd) (S.map Prod.snd) g (n / 32 / 16) = (-9, h, (R.map Prod.snd), (S.map Prod.snd)) := if_pos (Or.inr (Or.inl h6))
      rw [e] at ho
      subst ho
      refine v_bipush X dX12_acts_363 bp_m9 365 rfl ?_
      refine v_goto X (tgt := 379) dX12_acts_365 rfl ?_
      exact v_jret (ta, ua, R, S) ⟨rfl, rfl⟩ rfl (List.Perm.refl _) X (by first | exact Nat.le_of_ble_eq_true rfl | omega | (dsimp only; omega)) (by first | exact Nat.le_of_ble_eq_true rfl | omega | (dsimp only; omega)) dX12_acts_379
    · refine v_icmp_ge X (tgt := 363) dX12_acts_345 rfl 348 rfl (a := none) (b := some ()) (o := ()) (if_neg h6) (fun h => nomatch h) (fun _ => ?_)
      refine v_aload_n X dX12_acts_348 6 rfl rfl 349 rfl ?_
      refine v_aload X dX12_acts_349 0 rfl 351 rfl ?_
      refine v_iconst X dX12_acts_351 ic_3 352 rfl ?_
      refine v_ildF X dX12_acts_352 (11 + at9) 0 (row_at (ws := [_, _, _, _, _, _, _, _, _, _, _]) hRi) rfl (rd_nI9 (f := g) (k := 3) (show 3 < 10 by decide) (by decide)) 353 rfl ?_
      refine v_iload X dX12_acts_353 2 rfl 355 rfl ?_
      refine v_iconst X dX12_acts_355 ic_3 356 rfl ?_
      refine v_irem X dX12_acts_356 (by decide) 357 rfl ?_
      rw [show irm (nI (n / 32 / 16)) 3 = nI ((n / 32 / 16) % 3) from irm_nI (by omega) (by decide) (by decide)]
      refine v_eq (st2 := [.int (nI ((n / 32 / 16) % 3)), .int (nI x3), .ref bs]) rfl rfl rfl (by rw [hg3e]) ?_
      refine v_callNi X (As := [.ref bs, .int (nI x3), .int (nI ((n / 32 / 16) % 3))]) (rest := []) (c_isTrusted l hG D c9 hGU hGS hLs (x := x3) (z := (n / 32 / 16) % 3) hx3 (by omega)) 3 (wg_sub _ whw_28 _) rfl rfl rfl nest_RX12_97 (mw whw_29) (mw whw_30) (by decide +kernel) ⟨Nat.le_of_ble_eq_true rfl, Nat.le_of_ble_eq_true rfl⟩ rfl rfl (Nat.le_of_ble_eq_true rfl) ⟨(by first | exact Nat.le_of_ble_eq_true rfl | omega | (dsimp only; omega)), (by first | exact Nat.le_of_ble_eq_true rfl | omega | (dsimp only; omega))⟩ dX12_acts_357 360 rfl ?_
      have hx3c : (g 3).toNatClampNeg = x3 := by rw [hg3e]; exact nI_clamp (by omega)
      by_cases htr : trB (scel xs Ls 4) x3 ((n / 32 / 16) % 3) = false
      · refine v_if_ne X (tgt := 368) dX12_acts_360 rfl 363 rfl (a := none) (b := some ()) (o := ()) (if_pos (if_neg (by rw [htr]; decide))) (fun h => nomatch h) (fun _ => ?_)
        have e : hRefer (scel xs Ls 4) h (R.map Prod.snd) (S.map Prod.snd) g (n / 32 / 16) = (-9, h, (R.map Prod.snd), (S.map Prod.snd)) := if_pos (Or.inr (Or.inr (by rw [hx3c]; exact htr)))
        rw [e] at ho
        subst ho
        refine v_bipush X dX12_acts_363 bp_m9 365 rfl ?_
        refine v_goto X (tgt := 379) dX12_acts_365 rfl ?_
        exact v_jret (ta, ua, R, S) ⟨rfl, rfl⟩ rfl (List.Perm.refl _) X (by first | exact Nat.le_of_ble_eq_true rfl | omega | (dsimp only; omega)) (by first | exact Nat.le_of_ble_eq_true rfl | omega | (dsimp only; omega)) dX12_acts_379
      · refine v_if_ne X (tgt := 368) dX12_acts_360 rfl 363 rfl (a := some ()) (b := none) (o := ()) (if_neg (by rw [if_pos (by rw [Bool.not_eq_false] at htr; exact htr)]; decide)) (fun _ => ?_) (fun h => nomatch h)
        have e : hRefer (scel xs Ls 4) h (R.map Prod.snd) (S.map Prod.snd) g (n / 32 / 16) = ((hDer h (R.map Prod.snd) g (nI ((n / 32 / 16) % 3)) (-1)).1, (hDer h (R.map Prod.snd) g (nI ((n / 32 / 16) % 3)) (-1)).2.1, (hDer h (R.map Prod.snd) g (nI ((n / 32 / 16) % 3)) (-1)).2.2, (S.map Prod.snd)) := if_neg (by rw [hx3c]; exact fun z => z.elim (fun z => z h1) (fun z => z.elim h6 htr))
        rw [e] at ho
        subst ho
        refine v_aload_n X dX12_acts_368 7 rfl rfl 369 rfl ?_
        refine v_aload X dX12_acts_369 0 rfl 371 rfl ?_
        refine v_iload X dX12_acts_371 2 rfl 373 rfl ?_
        refine v_iconst X dX12_acts_373 ic_3 374 rfl ?_
        refine v_irem X dX12_acts_374 (by decide) 375 rfl ?_
        rw [show irm (nI (n / 32 / 16)) 3 = nI ((n / 32 / 16) % 3) from irm_nI (by omega) (by decide) (by decide)]
        refine v_iconst X dX12_acts_375 ic_m1 376 rfl ?_
        refine v_gj X (S := HS) (ws' := fun u => wH ha c9 u.1 u.2.1 (hDer h (R.map Prod.snd) g (nI ((n / 32 / 16) % 3)) (-1)).2.1 u.2.2.1 u.2.2.2) (F' := fun u => wHF c9 u.2.2.1 u.2.2.2 F0) (r_V X (C := RX12) (As := [.ref a8, .int (nI ((n / 32 / 16) % 3)), .int (-1)]) (rest := []) (r_pc X) (c_derives l hG D c9 hGU hGV (ha := ha) (ta := ta) (ua := ua) (h := h) (R := R) (S := S) (F0 := F0) (o := (hDer h (R.map Prod.snd) g (nI ((n / 32 / 16) % 3)) (-1))) rfl (by omega) hRi hok.1 hg3 (vp_in_nI (by omega) (by decide))) 3 (gV whw_31 whw_32 whw_33 whw_18 whw_34) rfl rfl rfl ⟨rfl, by decide +kernel⟩ ⟨Nat.le_of_ble_eq_true rfl, Nat.le_of_ble_eq_true rfl⟩ (r_recv X (ci := 13) 0 rfl rfl) rfl rfl (Nat.le_of_ble_eq_true rfl) ⟨(by first | exact Nat.le_of_ble_eq_true rfl | omega | (dsimp only; omega)), (by first | exact Nat.le_of_ble_eq_true rfl | omega | (dsimp only; omega))⟩ dX12_acts_376) (fun _ => rfl) 379 rfl (fun u hu => ?_)
        exact v_jret u hu rfl (List.Perm.refl _) X (by first | exact Nat.le_of_ble_eq_true rfl | omega | (dsimp only; omega)) (by first | exact Nat.le_of_ble_eq_true rfl | omega | (dsimp only; omega)) dX12_acts_379
  · refine v_if_ne X (tgt := 363) dX12_acts_333 rfl 336 rfl (a := some ()) (b := none) (o := ()) (if_neg h1) (fun _ => ?_) (fun h => nomatch h)
    have e : hRefer (scel xs Ls 4) h (R.map Prod.snd) (S.map Prod.snd) g (n / 32 / 16) = (-9, h, (R.map Prod.snd), (S.map Prod.snd)) := if_pos (Or.inl h1)
    rw [e] at ho
    subst ho
    refine v_bipush X dX12_acts_363 bp_m9 365 rfl ?_
    refine v_goto X (tgt := 379) dX12_acts_365 rfl ?_
    exact v_jret (ta, ua, R, S) ⟨rfl, rfl⟩ rfl (List.Perm.refl _) X (by first | exact Nat.le_of_ble_eq_true rfl | omega | (dsimp only; omega)) (by first | exact Nat.le_of_ble_eq_true rfl | omega | (dsimp only; omega)) dX12_acts_379
set_option maxRecDepth 100000 in
set_option maxHeartbeats 400000 in
theorem x_request {p : Program} {l : Launch} {e : Env} {s : State} {m : MethodId} {args : Array Value} {below : List Frame} {meth : Method} {c : Code} {A : Nat → Prop} {G : (Nat → Prop) → State → Heap → Prop} (hG : vG G) (D : va_G) (c9 : Nat → ClassId) {sk sv : Nat → Nat} (hGU : ∀ (A : Nat → Prop) (U : State) (H : Heap), G A U H → vU sk sv A U H) (hGV : ∀ (A : Nat → Prop) (U : State) (H : Heap), G A U H → vV A U H) (X : vX p s m args meth c cX12_acts 11 (some .int) RX12 (wq yX12_acts cX12_acts 11 (some .int)) D (tyA c9) G A) {ha : Nat → Nat} {ta ua : Nat} {h : FH} {R S : List (Nat × Row)} {F0 : va_W} {bs Ls : Nat} {xs : Nat → Int32} (hGS : ∀ (A : Nat → Prop) (U : State) (H : Heap), G A U H → va_T .int bs Ls (fun j => .int (xs j)) A U H) (hLs : Ls < 2 ^ 31) {n : Nat} {o : HA} (hn : n < 2 ^ 31) (hl : R.length ≤ 24) (hl2 : S.length ≤ 30) (hhm : ∀ u, u < 3 → vp_in (FH.home h u) 3) {at9 a8 : Nat} {g : Row} (hRi : R[at9]? = some (a8, g)) (hok : rowOK g) {cells slots : Nat} (hcc : cells ≤ 1) (hss : slots ≤ 10) (ho : hRequest h (R.map Prod.snd) (S.map Prod.snd) g (n / 32 / 16) = o) : vW p l e { frames := 3, cells := 40, slots := 1300, locals := 77 } s m args below meth c 11 D A (wHF c9 R S F0) cells slots (MQ below (qJ D (tyA c9) A o.1 (fun (u : HS) => u.2.2.1.map Prod.snd = o.2.2.1 ∧ u.2.2.2.map Prod.snd = o.2.2.2) (fun (u : HS) => wH ha c9 u.1 u.2.1 o.2.1 u.2.2.1 u.2.2.2 ++ wHF c9 u.2.2.1 u.2.2.2 F0)) args s 40 1300 A) [((ha 0), .inr (13, [.int (FH.tol h), .ref (ha 1), .ref (ha 2), .ref (ha 3), .ref (ha 4), .ref (ha 5), .ref (ha 6), .ref (ha 7), .ref (ha 8), .ref ta, .ref ua, .int (FH.seed h), .int (FH.time h), .int (FH.next h)])), ((ha 1), .inl (c9 0, 3, .inl (FH.life h))), ((ha 2), .inl (c9 0, 3, .inl (FH.again h))), ((ha 3), .inl (c9 0, 3, .inl (FH.fast h))), ((ha 4), .inl (c9 0, 3, .inl (FH.home h))), ((ha 5), .inl (c9 0, 3, .inl (FH.own h))), ((ha 6), .inl (c9 0, 3, .inl (FH.had h))), ((ha 7), .inl (c9 0, 2, .inl (FH.place h))), ((ha 8), .inl (c9 0, 2, .inl (FH.left h))), (ta, .inl (c9 4, R.length, .inr (.inr (.inr (.inr (outF R)))))), (ua, .inl (c9 4, S.length, .inr (.inr (.inr (.inr (outF S))))))] 380 [(8, .ref a8), (7, .int (nI at9)), (5, .int (nI (n / 32 / 16))), (4, .int (nI (n / 32 % 3))), (3, .int (nI (n / 32))), (2, .int (nI n)), (1, .ref bs), (0, .ref (ha 0))] [] := by
  have hov : va_AI s := (hGV A s s.heap X.2.2.2.2.2.2.2.2.2.2).2
  have TS := hGS A s s.heap X.2.2.2.2.2.2.2.2.2.2
  obtain ⟨x3, hx3, hg3e⟩ := hok.2.1
  have hg3 : vp_in (g 3) 3 := by rw [hg3e]; exact vp_in_nI hx3 (by decide)
  refine v_aload X dX12_acts_380 0 rfl 382 rfl ?_
  refine v_iconst X dX12_acts_382 ic_1 383 rfl ?_
  refine v_ildF X dX12_acts_383 (11 + at9) 0 (row_at (ws := [_, _, _, _, _, _, _, _, _, _, _]) hRi) rfl (rd_nI9 (f := g) (k := 1) (show 1 < 10 by decide) (by decide)) 384 rfl ?_
  by_cases h1 : g 1 = 0
  · refine v_if_ne X (tgt := 415) dX12_acts_384 rfl 387 rfl (a := none) (b := some ()) (o := ()) (if_pos h1) (fun h => nomatch h) (fun _ => ?_)
    refine v_aload_n X dX12_acts_387 7 rfl rfl 388 rfl ?_
    refine v_get X (C := RX12) (T := TX12) (N := 14) (ci := 13) (v := _) dX12_acts_388 (lay_of layhw_X12) 0 rfl rfl 12 (by decide) (mw whw_21) rfl rfl 391 rfl ?_
    refine v_aload X dX12_acts_391 0 rfl 393 rfl ?_
    refine v_bipush X dX12_acts_393 bp_6 395 rfl ?_
    refine v_ildF X dX12_acts_395 (11 + at9) 0 (row_at (ws := [_, _, _, _, _, _, _, _, _, _, _]) hRi) rfl (rd_nI9 (f := g) (k := 6) (show 6 < 10 by decide) (by decide)) 396 rfl ?_
    by_cases h6 : g 6 ≤ FH.time h
    · refine v_icmp_ge X (tgt := 415) dX12_acts_396 rfl 399 rfl (a := some ()) (b := none) (o := ()) (if_pos h6) (fun _ => ?_) (fun h => nomatch h)
      have e : hRequest h (R.map Prod.snd) (S.map Prod.snd) g (n / 32 / 16) = (-9, h, (R.map Prod.snd), (S.map Prod.snd)) := if_pos (Or.inr (Or.inl h6))
      rw [e] at ho
      subst ho
      refine v_bipush X dX12_acts_415 bp_m9 417 rfl ?_
      refine v_goto X (tgt := 434) dX12_acts_417 rfl ?_
      exact v_jret (ta, ua, R, S) ⟨rfl, rfl⟩ rfl (List.Perm.refl _) X (by first | exact Nat.le_of_ble_eq_true rfl | omega | (dsimp only; omega)) (by first | exact Nat.le_of_ble_eq_true rfl | omega | (dsimp only; omega)) dX12_acts_434
    · refine v_icmp_ge X (tgt := 415) dX12_acts_396 rfl 399 rfl (a := none) (b := some ()) (o := ()) (if_neg h6) (fun h => nomatch h) (fun _ => ?_)
      refine v_aload X dX12_acts_399 0 rfl 401 rfl ?_
      refine v_iconst X dX12_acts_401 ic_3 402 rfl ?_
      refine v_ildF X dX12_acts_402 (11 + at9) 0 (row_at (ws := [_, _, _, _, _, _, _, _, _, _, _]) hRi) rfl (rd_nI9 (f := g) (k := 3) (show 3 < 10 by decide) (by decide)) 403 rfl ?_
      refine v_aload_n X dX12_acts_403 7 rfl rfl 404 rfl ?_
      refine v_get X (C := RX12) (T := TX12) (N := 14) (ci := 13) (v := _) dX12_acts_404 (lay_of layhw_X12) 0 rfl rfl 7 (by decide) (mw whw_35) rfl rfl 407 rfl ?_
      refine v_iload X dX12_acts_407 2 rfl 409 rfl ?_
      refine v_iconst X dX12_acts_409 ic_2 410 rfl ?_
      refine v_irem X dX12_acts_410 (by decide) 411 rfl ?_
      rw [show irm (nI (n / 32 / 16)) 2 = nI ((n / 32 / 16) % 2) from irm_nI (by omega) (by decide) (by decide)]
      refine v_iald X dX12_acts_411 7 0 rfl rfl (rd_nI9 (f := (FH.place h)) (k := ((n / 32 / 16) % 2)) (show _ < 2 by omega) (by decide)) 412 rfl ?_
      by_cases hpl : g 3 = FH.place h ((n / 32 / 16) % 2)
      · refine v_icmp_eq X (tgt := 420) dX12_acts_412 rfl 415 rfl (a := some ()) (b := none) (o := ()) (if_pos hpl) (fun _ => ?_) (fun h => nomatch h)
        have e : hRequest h (R.map Prod.snd) (S.map Prod.snd) g (n / 32 / 16) = ((hDer h (R.map Prod.snd) g (g 3) (nI ((n / 32 / 16) % 2))).1, (hDer h (R.map Prod.snd) g (g 3) (nI ((n / 32 / 16) % 2))).2.1, (hDer h (R.map Prod.snd) g (g 3) (nI ((n / 32 / 16) % 2))).2.2, (S.map Prod.snd)) := if_neg (fun z => z.elim (fun z => z h1) (fun z => z.elim h6 (fun z => z hpl)))
        rw [e] at ho
        subst ho
        refine v_aload_n X dX12_acts_420 7 rfl rfl 421 rfl ?_
        refine v_aload X dX12_acts_421 0 rfl 423 rfl ?_
        refine v_aload X dX12_acts_423 0 rfl 425 rfl ?_
        refine v_iconst X dX12_acts_425 ic_3 426 rfl ?_
        refine v_ildF X dX12_acts_426 (11 + at9) 0 (row_at (ws := [_, _, _, _, _, _, _, _, _, _, _]) hRi) rfl (rd_nI9 (f := g) (k := 3) (show 3 < 10 by decide) (by decide)) 427 rfl ?_
        refine v_iload X dX12_acts_427 2 rfl 429 rfl ?_
        refine v_iconst X dX12_acts_429 ic_2 430 rfl ?_
        refine v_irem X dX12_acts_430 (by decide) 431 rfl ?_
        rw [show irm (nI (n / 32 / 16)) 2 = nI ((n / 32 / 16) % 2) from irm_nI (by omega) (by decide) (by decide)]
        refine v_gj X (S := HS) (ws' := fun u => wH ha c9 u.1 u.2.1 (hDer h (R.map Prod.snd) g (g 3) (nI ((n / 32 / 16) % 2))).2.1 u.2.2.1 u.2.2.2) (F' := fun u => wHF c9 u.2.2.1 u.2.2.2 F0) (r_V X (C := RX12) (As := [.ref a8, .int (g 3), .int (nI ((n / 32 / 16) % 2))]) (rest := []) (r_pc X) (c_derives l hG D c9 hGU hGV (ha := ha) (ta := ta) (ua := ua) (h := h) (R := R) (S := S) (F0 := F0) (o := (hDer h (R.map Prod.snd) g (g 3) (nI ((n / 32 / 16) % 2)))) rfl (by omega) hRi hok.1 hg3 hg3) 3 (gV whw_31 whw_32 whw_33 whw_18 whw_34) rfl rfl rfl ⟨rfl, by decide +kernel⟩ ⟨Nat.le_of_ble_eq_true rfl, Nat.le_of_ble_eq_true rfl⟩ (r_recv X (ci := 13) 0 rfl rfl) rfl rfl (Nat.le_of_ble_eq_true rfl) ⟨(by first | exact Nat.le_of_ble_eq_true rfl | omega | (dsimp only; omega)), (by first | exact Nat.le_of_ble_eq_true rfl | omega | (dsimp only; omega))⟩ dX12_acts_431) (fun _ => rfl) 434 rfl (fun u hu => ?_)
        exact v_jret u hu rfl (List.Perm.refl _) X (by first | exact Nat.le_of_ble_eq_true rfl | omega | (dsimp only; omega)) (by first | exact Nat.le_of_ble_eq_true rfl | omega | (dsimp only; omega)) dX12_acts_434
      · refine v_icmp_eq X (tgt := 420) dX12_acts_412 rfl 415 rfl (a := none) (b := some ()) (o := ()) (if_neg hpl) (fun h => nomatch h) (fun _ => ?_)
        have e : hRequest h (R.map Prod.snd) (S.map Prod.snd) g (n / 32 / 16) = (-9, h, (R.map Prod.snd), (S.map Prod.snd)) := if_pos (Or.inr (Or.inr hpl))
        rw [e] at ho
        subst ho
        refine v_bipush X dX12_acts_415 bp_m9 417 rfl ?_
        refine v_goto X (tgt := 434) dX12_acts_417 rfl ?_
        exact v_jret (ta, ua, R, S) ⟨rfl, rfl⟩ rfl (List.Perm.refl _) X (by first | exact Nat.le_of_ble_eq_true rfl | omega | (dsimp only; omega)) (by first | exact Nat.le_of_ble_eq_true rfl | omega | (dsimp only; omega)) dX12_acts_434
  · refine v_if_ne X (tgt := 415) dX12_acts_384 rfl 387 rfl (a := some ()) (b := none) (o := ()) (if_neg h1) (fun _ => ?_) (fun h => nomatch h)
    have e : hRequest h (R.map Prod.snd) (S.map Prod.snd) g (n / 32 / 16) = (-9, h, (R.map Prod.snd), (S.map Prod.snd)) := if_pos (Or.inl h1)
    rw [e] at ho
    subst ho
    refine v_bipush X dX12_acts_415 bp_m9 417 rfl ?_
    refine v_goto X (tgt := 434) dX12_acts_417 rfl ?_
    exact v_jret (ta, ua, R, S) ⟨rfl, rfl⟩ rfl (List.Perm.refl _) X (by first | exact Nat.le_of_ble_eq_true rfl | omega | (dsimp only; omega)) (by first | exact Nat.le_of_ble_eq_true rfl | omega | (dsimp only; omega)) dX12_acts_434
set_option maxRecDepth 100000 in
set_option maxHeartbeats 400000 in
theorem x_renew {p : Program} {l : Launch} {e : Env} {s : State} {m : MethodId} {args : Array Value} {below : List Frame} {meth : Method} {c : Code} {A : Nat → Prop} {G : (Nat → Prop) → State → Heap → Prop} (hG : vG G) (D : va_G) (c9 : Nat → ClassId) {sk sv : Nat → Nat} (hGU : ∀ (A : Nat → Prop) (U : State) (H : Heap), G A U H → vU sk sv A U H) (hGV : ∀ (A : Nat → Prop) (U : State) (H : Heap), G A U H → vV A U H) (X : vX p s m args meth c cX12_acts 11 (some .int) RX12 (wq yX12_acts cX12_acts 11 (some .int)) D (tyA c9) G A) {ha : Nat → Nat} {ta ua : Nat} {h : FH} {R S : List (Nat × Row)} {F0 : va_W} {bs Ls : Nat} {xs : Nat → Int32} (hGS : ∀ (A : Nat → Prop) (U : State) (H : Heap), G A U H → va_T .int bs Ls (fun j => .int (xs j)) A U H) (hLs : Ls < 2 ^ 31) {n : Nat} {o : HA} (hn : n < 2 ^ 31) (hl : R.length ≤ 24) (hl2 : S.length ≤ 30) (hhm : ∀ u, u < 3 → vp_in (FH.home h u) 3) {at9 a8 : Nat} {g : Row} (hRi : R[at9]? = some (a8, g)) (hok : rowOK g) {cells slots : Nat} (hcc : cells ≤ 1) (hss : slots ≤ 10) (ho : hRenew h (R.map Prod.snd) (S.map Prod.snd) at9 g = o) : vW p l e { frames := 3, cells := 40, slots := 1300, locals := 77 } s m args below meth c 11 D A (wHF c9 R S F0) cells slots (MQ below (qJ D (tyA c9) A o.1 (fun (u : HS) => u.2.2.1.map Prod.snd = o.2.2.1 ∧ u.2.2.2.map Prod.snd = o.2.2.2) (fun (u : HS) => wH ha c9 u.1 u.2.1 o.2.1 u.2.2.1 u.2.2.2 ++ wHF c9 u.2.2.1 u.2.2.2 F0)) args s 40 1300 A) [((ha 0), .inr (13, [.int (FH.tol h), .ref (ha 1), .ref (ha 2), .ref (ha 3), .ref (ha 4), .ref (ha 5), .ref (ha 6), .ref (ha 7), .ref (ha 8), .ref ta, .ref ua, .int (FH.seed h), .int (FH.time h), .int (FH.next h)])), ((ha 1), .inl (c9 0, 3, .inl (FH.life h))), ((ha 2), .inl (c9 0, 3, .inl (FH.again h))), ((ha 3), .inl (c9 0, 3, .inl (FH.fast h))), ((ha 4), .inl (c9 0, 3, .inl (FH.home h))), ((ha 5), .inl (c9 0, 3, .inl (FH.own h))), ((ha 6), .inl (c9 0, 3, .inl (FH.had h))), ((ha 7), .inl (c9 0, 2, .inl (FH.place h))), ((ha 8), .inl (c9 0, 2, .inl (FH.left h))), (ta, .inl (c9 4, R.length, .inr (.inr (.inr (.inr (outF R)))))), (ua, .inl (c9 4, S.length, .inr (.inr (.inr (.inr (outF S))))))] 435 [(8, .ref a8), (7, .int (nI at9)), (5, .int (nI (n / 32 / 16))), (4, .int (nI (n / 32 % 3))), (3, .int (nI (n / 32))), (2, .int (nI n)), (1, .ref bs), (0, .ref (ha 0))] [] := by
  have hov : va_AI s := (hGV A s s.heap X.2.2.2.2.2.2.2.2.2.2).2
  have TS := hGS A s s.heap X.2.2.2.2.2.2.2.2.2.2
  obtain ⟨x3, hx3, hg3e⟩ := hok.2.1
  have hg3 : vp_in (g 3) 3 := by rw [hg3e]; exact vp_in_nI hx3 (by decide)
  refine v_aload_n X dX12_acts_435 7 rfl rfl 436 rfl ?_
  refine v_get X (C := RX12) (T := TX12) (N := 14) (ci := 13) (v := _) dX12_acts_436 (lay_of layhw_X12) 0 rfl rfl 12 (by decide) (mw whw_21) rfl rfl 439 rfl ?_
  refine v_aload_n X dX12_acts_439 7 rfl rfl 440 rfl ?_
  refine v_get X (C := RX12) (T := TX12) (N := 14) (ci := 13) (v := _) dX12_acts_440 (lay_of layhw_X12) 0 rfl rfl 1 (by decide) (mw whw_22) rfl rfl 443 rfl ?_
  refine v_aload X dX12_acts_443 0 rfl 445 rfl ?_
  refine v_iconst X dX12_acts_445 ic_3 446 rfl ?_
  refine v_ildF X dX12_acts_446 (11 + at9) 0 (row_at (ws := [_, _, _, _, _, _, _, _, _, _, _]) hRi) rfl (rd_nI9 (f := g) (k := 3) (show 3 < 10 by decide) (by decide)) 447 rfl ?_
  refine v_iald X dX12_acts_447 1 0 rfl rfl (rd_v (f := (FH.life h)) hg3) 448 rfl ?_
  refine v_iadd X dX12_acts_448 449 rfl ?_
  refine v_aload X dX12_acts_449 0 rfl 451 rfl ?_
  refine v_bipush X dX12_acts_451 bp_7 453 rfl ?_
  refine v_ildF X dX12_acts_453 (11 + at9) 0 (row_at (ws := [_, _, _, _, _, _, _, _, _, _, _]) hRi) rfl (rd_nI9 (f := g) (k := 7) (show 7 < 10 by decide) (by decide)) 454 rfl ?_
  refine v_mmin X dX12_acts_454 (mw whw_36) (mw whw_37) (mw whw_38) (mw whw_39) (by first | exact Nat.le_of_ble_eq_true rfl | omega | (dsimp only; omega)) (by first | exact Nat.le_of_ble_eq_true rfl | omega | (dsimp only; omega)) (by first | exact Nat.le_of_ble_eq_true rfl | omega | (dsimp only; omega)) (by first | exact Nat.le_of_ble_eq_true rfl | omega | (dsimp only; omega)) 457 rfl ?_
  refine v_eq (st2 := [.int (hEnd h g)]) rfl rfl rfl rfl ?_
  refine v_istore X (lv' := [(9, .int (hEnd h g)), (8, .ref a8), (7, .int (nI at9)), (5, .int (nI (n / 32 / 16))), (4, .int (nI (n / 32 % 3))), (3, .int (nI (n / 32))), (2, .int (nI n)), (1, .ref bs), (0, .ref (ha 0))]) dX12_acts_457 (by decide) rfl 459 rfl ?_
  refine v_aload X dX12_acts_459 1 rfl 461 rfl ?_
  refine v_bipush X dX12_acts_461 bp_9 463 rfl ?_
  refine v_ildF X dX12_acts_463 (11 + at9) 0 (row_at (ws := [_, _, _, _, _, _, _, _, _, _, _]) hRi) rfl (rd_nI9 (f := g) (k := 9) (show 9 < 10 by decide) (by decide)) 464 rfl ?_
  refine v_iconst X dX12_acts_464 ic_1 465 rfl ?_
  by_cases h9 : g 9 = 1
  · refine v_icmp_ne X (tgt := 490) dX12_acts_465 rfl 468 rfl (a := none) (b := some ()) (o := ()) (if_pos h9) (fun h => nomatch h) (fun _ => ?_)
    refine v_aload_n X dX12_acts_468 8 rfl rfl 469 rfl ?_
    refine v_get X (C := RX12) (T := TX12) (N := 14) (ci := 13) (v := _) dX12_acts_469 (lay_of layhw_X12) 0 rfl rfl 12 (by decide) (mw whw_21) rfl rfl 472 rfl ?_
    refine v_aload X dX12_acts_472 1 rfl 474 rfl ?_
    refine v_bipush X dX12_acts_474 bp_6 476 rfl ?_
    refine v_ildF X dX12_acts_476 (11 + at9) 0 (row_at (ws := [_, _, _, _, _, _, _, _, _, _, _]) hRi) rfl (rd_nI9 (f := g) (k := 6) (show 6 < 10 by decide) (by decide)) 477 rfl ?_
    by_cases h6 : g 6 ≤ FH.time h
    · refine v_icmp_ge X (tgt := 490) dX12_acts_477 rfl 480 rfl (a := some ()) (b := none) (o := ()) (if_pos h6) (fun _ => ?_) (fun h => nomatch h)
      have e : hRenew h (R.map Prod.snd) (S.map Prod.snd) at9 g = (-9, h, (R.map Prod.snd), (S.map Prod.snd)) := if_pos (Or.inr (Or.inl h6))
      rw [e] at ho
      subst ho
      refine v_bipush X dX12_acts_490 bp_m9 492 rfl ?_
      exact v_jret (ta, ua, R, S) ⟨rfl, rfl⟩ rfl (List.Perm.refl _) X (by first | exact Nat.le_of_ble_eq_true rfl | omega | (dsimp only; omega)) (by first | exact Nat.le_of_ble_eq_true rfl | omega | (dsimp only; omega)) dX12_acts_492
    · refine v_icmp_ge X (tgt := 490) dX12_acts_477 rfl 480 rfl (a := none) (b := some ()) (o := ()) (if_neg h6) (fun h => nomatch h) (fun _ => ?_)
      refine v_iload X dX12_acts_480 0 rfl 482 rfl ?_
      refine v_aload X dX12_acts_482 1 rfl 484 rfl ?_
      refine v_bipush X dX12_acts_484 bp_6 486 rfl ?_
      refine v_ildF X dX12_acts_486 (11 + at9) 0 (row_at (ws := [_, _, _, _, _, _, _, _, _, _, _]) hRi) rfl (rd_nI9 (f := g) (k := 6) (show 6 < 10 by decide) (by decide)) 487 rfl ?_
      by_cases hen : hEnd h g ≤ g 6
      · refine v_icmp_gt X (tgt := 493) dX12_acts_487 rfl 490 rfl (a := none) (b := some ()) (o := ()) (if_neg (Int32.not_lt.mpr hen)) (fun h => nomatch h) (fun _ => ?_)
        have e : hRenew h (R.map Prod.snd) (S.map Prod.snd) at9 g = (-9, h, (R.map Prod.snd), (S.map Prod.snd)) := if_pos (Or.inr (Or.inr hen))
        rw [e] at ho
        subst ho
        refine v_bipush X dX12_acts_490 bp_m9 492 rfl ?_
        exact v_jret (ta, ua, R, S) ⟨rfl, rfl⟩ rfl (List.Perm.refl _) X (by first | exact Nat.le_of_ble_eq_true rfl | omega | (dsimp only; omega)) (by first | exact Nat.le_of_ble_eq_true rfl | omega | (dsimp only; omega)) dX12_acts_492
      · refine v_icmp_gt X (tgt := 493) dX12_acts_487 rfl 490 rfl (a := some ()) (b := none) (o := ()) (if_pos (Int32.not_le.mp hen)) (fun _ => ?_) (fun h => nomatch h)
        have e : hRenew h (R.map Prod.snd) (S.map Prod.snd) at9 g = (hEnd h g, (FH.tol h, FH.life h, FH.again h, FH.fast h, FH.home h, FH.own h, FH.had h, FH.place h, FH.left h, hSeed h, FH.time h, FH.next h), (R.map Prod.snd).set at9 (upd (upd g 6 (hEnd h g)) 8 (hSeed h)), (S.map Prod.snd)) := if_neg (fun z => z.elim (fun z => z h9) (fun z => z.elim h6 hen))
        rw [e] at ho
        subst ho
        refine v_perm (ws' := [(a8, .inl (c9 0, 10, .inl g)), ((ha 0), .inr (13, [.int (FH.tol h), .ref (ha 1), .ref (ha 2), .ref (ha 3), .ref (ha 4), .ref (ha 5), .ref (ha 6), .ref (ha 7), .ref (ha 8), .ref ta, .ref ua, .int (FH.seed h), .int (FH.time h), .int (FH.next h)])), ((ha 1), .inl (c9 0, 3, .inl (FH.life h))), ((ha 2), .inl (c9 0, 3, .inl (FH.again h))), ((ha 3), .inl (c9 0, 3, .inl (FH.fast h))), ((ha 4), .inl (c9 0, 3, .inl (FH.home h))), ((ha 5), .inl (c9 0, 3, .inl (FH.own h))), ((ha 6), .inl (c9 0, 3, .inl (FH.had h))), ((ha 7), .inl (c9 0, 2, .inl (FH.place h))), ((ha 8), .inl (c9 0, 2, .inl (FH.left h))), (ta, .inl (c9 4, R.length, .inr (.inr (.inr (.inr (outF R)))))), (ua, .inl (c9 4, S.length, .inr (.inr (.inr (.inr (outF S))))))]) (F' := rowsW c9 10 (R.eraseIdx at9) ++ (rowsW c9 4 S ++ F0)) (perm_row hRi) ?_
        refine v_aload X dX12_acts_493 1 rfl 495 rfl ?_
        refine v_bipush X dX12_acts_495 bp_6 497 rfl ?_
        refine v_iload X dX12_acts_497 0 rfl 499 rfl ?_
        refine v_iast X (ws' := [(a8, .inl (c9 0, 10, .inl (upd g 6 (hEnd h g)))), ((ha 0), .inr (13, [.int (FH.tol h), .ref (ha 1), .ref (ha 2), .ref (ha 3), .ref (ha 4), .ref (ha 5), .ref (ha 6), .ref (ha 7), .ref (ha 8), .ref ta, .ref ua, .int (FH.seed h), .int (FH.time h), .int (FH.next h)])), ((ha 1), .inl (c9 0, 3, .inl (FH.life h))), ((ha 2), .inl (c9 0, 3, .inl (FH.again h))), ((ha 3), .inl (c9 0, 3, .inl (FH.fast h))), ((ha 4), .inl (c9 0, 3, .inl (FH.home h))), ((ha 5), .inl (c9 0, 3, .inl (FH.own h))), ((ha 6), .inl (c9 0, 3, .inl (FH.had h))), ((ha 7), .inl (c9 0, 2, .inl (FH.place h))), ((ha 8), .inl (c9 0, 2, .inl (FH.left h))), (ta, .inl (c9 4, R.length, .inr (.inr (.inr (.inr (outF R)))))), (ua, .inl (c9 4, S.length, .inr (.inr (.inr (.inr (outF S))))))]) dX12_acts_499 0 0 rfl rfl (wr_nI9 (f := g) (k := 6) (show 6 < 10 by decide) (by decide)) rfl 500 rfl ?_
        refine v_aload X dX12_acts_500 1 rfl 502 rfl ?_
        refine v_bipush X dX12_acts_502 bp_8 504 rfl ?_
        refine v_aload_n X dX12_acts_504 8 rfl rfl 505 rfl ?_
        refine v_callVi X (C := RX12) (ci := 13) (T := TX12) (As := []) (rest := [.int 8, .ref a8]) (ws' := [(a8, .inl (c9 0, 10, .inl (upd g 6 (hEnd h g)))), ((ha 0), .inr (13, [.int (FH.tol h), .ref (ha 1), .ref (ha 2), .ref (ha 3), .ref (ha 4), .ref (ha 5), .ref (ha 6), .ref (ha 7), .ref (ha 8), .ref ta, .ref ua, .int (hSeed h), .int (FH.time h), .int (FH.next h)])), ((ha 1), .inl (c9 0, 3, .inl (FH.life h))), ((ha 2), .inl (c9 0, 3, .inl (FH.again h))), ((ha 3), .inl (c9 0, 3, .inl (FH.fast h))), ((ha 4), .inl (c9 0, 3, .inl (FH.home h))), ((ha 5), .inl (c9 0, 3, .inl (FH.own h))), ((ha 6), .inl (c9 0, 3, .inl (FH.had h))), ((ha 7), .inl (c9 0, 2, .inl (FH.place h))), ((ha 8), .inl (c9 0, 2, .inl (FH.left h))), (ta, .inl (c9 4, R.length, .inr (.inr (.inr (.inr (outF R)))))), (ua, .inl (c9 4, S.length, .inr (.inr (.inr (.inr (outF S))))))]) (c_draws l hG D c9 hGU hGV (ha := ha) (ta := ta) (ua := ua) (h := h) (R := R) (S := S)) 0 (gV whw_40 whw_41 whw_42 whw_18 whw_43) rfl rfl rfl ⟨rfl, by decide +kernel⟩ ⟨Nat.le_of_ble_eq_true rfl, Nat.le_of_ble_eq_true rfl⟩ 1 rfl rfl rfl rfl (Nat.le_of_ble_eq_true rfl) ⟨(by first | exact Nat.le_of_ble_eq_true rfl | omega | (dsimp only; omega)), (by first | exact Nat.le_of_ble_eq_true rfl | omega | (dsimp only; omega))⟩ [1, 2, 3, 4, 5, 6, 7, 8, 9, 10, 11] [0] [0, 1, 2, 3, 4, 5, 6, 7, 8, 9, 10, 11] rfl rfl rfl rfl dX12_acts_505 508 rfl ?_
        refine v_iast X (ws' := [(a8, .inl (c9 0, 10, .inl (upd (upd g 6 (hEnd h g)) 8 (hSeed h)))), ((ha 0), .inr (13, [.int (FH.tol h), .ref (ha 1), .ref (ha 2), .ref (ha 3), .ref (ha 4), .ref (ha 5), .ref (ha 6), .ref (ha 7), .ref (ha 8), .ref ta, .ref ua, .int (hSeed h), .int (FH.time h), .int (FH.next h)])), ((ha 1), .inl (c9 0, 3, .inl (FH.life h))), ((ha 2), .inl (c9 0, 3, .inl (FH.again h))), ((ha 3), .inl (c9 0, 3, .inl (FH.fast h))), ((ha 4), .inl (c9 0, 3, .inl (FH.home h))), ((ha 5), .inl (c9 0, 3, .inl (FH.own h))), ((ha 6), .inl (c9 0, 3, .inl (FH.had h))), ((ha 7), .inl (c9 0, 2, .inl (FH.place h))), ((ha 8), .inl (c9 0, 2, .inl (FH.left h))), (ta, .inl (c9 4, R.length, .inr (.inr (.inr (.inr (outF R)))))), (ua, .inl (c9 4, S.length, .inr (.inr (.inr (.inr (outF S))))))]) dX12_acts_508 0 0 rfl rfl (wr_nI9 (f := (upd g 6 (hEnd h g))) (k := 8) (show 8 < 10 by decide) (by decide)) rfl 509 rfl ?_
        refine v_iload X dX12_acts_509 0 rfl 511 rfl ?_
        refine v_perm (ws' := [((ha 0), .inr (13, [.int (FH.tol h), .ref (ha 1), .ref (ha 2), .ref (ha 3), .ref (ha 4), .ref (ha 5), .ref (ha 6), .ref (ha 7), .ref (ha 8), .ref ta, .ref ua, .int (hSeed h), .int (FH.time h), .int (FH.next h)])), ((ha 1), .inl (c9 0, 3, .inl (FH.life h))), ((ha 2), .inl (c9 0, 3, .inl (FH.again h))), ((ha 3), .inl (c9 0, 3, .inl (FH.fast h))), ((ha 4), .inl (c9 0, 3, .inl (FH.home h))), ((ha 5), .inl (c9 0, 3, .inl (FH.own h))), ((ha 6), .inl (c9 0, 3, .inl (FH.had h))), ((ha 7), .inl (c9 0, 2, .inl (FH.place h))), ((ha 8), .inl (c9 0, 2, .inl (FH.left h))), (ta, .inl (c9 4, R.length, .inr (.inr (.inr (.inr (outF R)))))), (ua, .inl (c9 4, S.length, .inr (.inr (.inr (.inr (outF S))))))]) (F' := rowsW c9 10 (R.set at9 (a8, (upd (upd g 6 (hEnd h g)) 8 (hSeed h)))) ++ (rowsW c9 4 S ++ F0)) (perm_row2 (y := (a8, (upd (upd g 6 (hEnd h g)) 8 (hSeed h)))) hRi) ?_
        refine v_eq (ws2 := [((ha 0), .inr (13, [.int (FH.tol h), .ref (ha 1), .ref (ha 2), .ref (ha 3), .ref (ha 4), .ref (ha 5), .ref (ha 6), .ref (ha 7), .ref (ha 8), .ref ta, .ref ua, .int (hSeed h), .int (FH.time h), .int (FH.next h)])), ((ha 1), .inl (c9 0, 3, .inl (FH.life h))), ((ha 2), .inl (c9 0, 3, .inl (FH.again h))), ((ha 3), .inl (c9 0, 3, .inl (FH.fast h))), ((ha 4), .inl (c9 0, 3, .inl (FH.home h))), ((ha 5), .inl (c9 0, 3, .inl (FH.own h))), ((ha 6), .inl (c9 0, 3, .inl (FH.had h))), ((ha 7), .inl (c9 0, 2, .inl (FH.place h))), ((ha 8), .inl (c9 0, 2, .inl (FH.left h))), (ta, .inl (c9 4, (R.set at9 (a8, (upd (upd g 6 (hEnd h g)) 8 (hSeed h)))).length, .inr (.inr (.inr (.inr (outF (R.set at9 (a8, (upd (upd g 6 (hEnd h g)) 8 (hSeed h)))))))))), (ua, .inl (c9 4, S.length, .inr (.inr (.inr (.inr (outF S))))))]) (by rw [outF_set hRi, List.length_set]) rfl rfl rfl ?_
        exact v_jret (ta, ua, R.set at9 (a8, (upd (upd g 6 (hEnd h g)) 8 (hSeed h))), S) ⟨map_set, rfl⟩ rfl (List.Perm.refl _) X (by first | exact Nat.le_of_ble_eq_true rfl | omega | (dsimp only; omega)) (by first | exact Nat.le_of_ble_eq_true rfl | omega | (dsimp only; omega)) dX12_acts_511
  · refine v_icmp_ne X (tgt := 490) dX12_acts_465 rfl 468 rfl (a := some ()) (b := none) (o := ()) (if_neg h9) (fun _ => ?_) (fun h => nomatch h)
    have e : hRenew h (R.map Prod.snd) (S.map Prod.snd) at9 g = (-9, h, (R.map Prod.snd), (S.map Prod.snd)) := if_pos (Or.inl h9)
    rw [e] at ho
    subst ho
    refine v_bipush X dX12_acts_490 bp_m9 492 rfl ?_
    exact v_jret (ta, ua, R, S) ⟨rfl, rfl⟩ rfl (List.Perm.refl _) X (by first | exact Nat.le_of_ble_eq_true rfl | omega | (dsimp only; omega)) (by first | exact Nat.le_of_ble_eq_true rfl | omega | (dsimp only; omega)) dX12_acts_492
set_option maxRecDepth 100000 in
set_option maxHeartbeats 400000 in
theorem x_cheese {p : Program} {l : Launch} {e : Env} {s : State} {m : MethodId} {args : Array Value} {below : List Frame} {meth : Method} {c : Code} {A : Nat → Prop} {G : (Nat → Prop) → State → Heap → Prop} (hG : vG G) (D : va_G) (c9 : Nat → ClassId) {sk sv : Nat → Nat} (hGU : ∀ (A : Nat → Prop) (U : State) (H : Heap), G A U H → vU sk sv A U H) (hGV : ∀ (A : Nat → Prop) (U : State) (H : Heap), G A U H → vV A U H) (X : vX p s m args meth c cX12_acts 11 (some .int) RX12 (wq yX12_acts cX12_acts 11 (some .int)) D (tyA c9) G A) {ha : Nat → Nat} {ta ua : Nat} {h : FH} {R S : List (Nat × Row)} {F0 : va_W} {bs Ls : Nat} {xs : Nat → Int32} (hGS : ∀ (A : Nat → Prop) (U : State) (H : Heap), G A U H → va_T .int bs Ls (fun j => .int (xs j)) A U H) (hLs : Ls < 2 ^ 31) {n : Nat} {o : HA} (hn : n < 2 ^ 31) (hl : R.length ≤ 24) (hl2 : S.length ≤ 30) (hhm : ∀ u, u < 3 → vp_in (FH.home h u) 3) {at9 a8 : Nat} {g : Row} (hRi : R[at9]? = some (a8, g)) (hok : rowOK g) {cells slots : Nat} (hcc : cells ≤ 1) (hss : slots ≤ 10) (ho : hCheese h (R.map Prod.snd) (S.map Prod.snd) g = o) : vW p l e { frames := 3, cells := 40, slots := 1300, locals := 77 } s m args below meth c 11 D A (wHF c9 R S F0) cells slots (MQ below (qJ D (tyA c9) A o.1 (fun (u : HS) => u.2.2.1.map Prod.snd = o.2.2.1 ∧ u.2.2.2.map Prod.snd = o.2.2.2) (fun (u : HS) => wH ha c9 u.1 u.2.1 o.2.1 u.2.2.1 u.2.2.2 ++ wHF c9 u.2.2.1 u.2.2.2 F0)) args s 40 1300 A) [((ha 0), .inr (13, [.int (FH.tol h), .ref (ha 1), .ref (ha 2), .ref (ha 3), .ref (ha 4), .ref (ha 5), .ref (ha 6), .ref (ha 7), .ref (ha 8), .ref ta, .ref ua, .int (FH.seed h), .int (FH.time h), .int (FH.next h)])), ((ha 1), .inl (c9 0, 3, .inl (FH.life h))), ((ha 2), .inl (c9 0, 3, .inl (FH.again h))), ((ha 3), .inl (c9 0, 3, .inl (FH.fast h))), ((ha 4), .inl (c9 0, 3, .inl (FH.home h))), ((ha 5), .inl (c9 0, 3, .inl (FH.own h))), ((ha 6), .inl (c9 0, 3, .inl (FH.had h))), ((ha 7), .inl (c9 0, 2, .inl (FH.place h))), ((ha 8), .inl (c9 0, 2, .inl (FH.left h))), (ta, .inl (c9 4, R.length, .inr (.inr (.inr (.inr (outF R)))))), (ua, .inl (c9 4, S.length, .inr (.inr (.inr (.inr (outF S))))))] 512 [(8, .ref a8), (7, .int (nI at9)), (5, .int (nI (n / 32 / 16))), (4, .int (nI (n / 32 % 3))), (3, .int (nI (n / 32))), (2, .int (nI n)), (1, .ref bs), (0, .ref (ha 0))] [] := by
  have hov : va_AI s := (hGV A s s.heap X.2.2.2.2.2.2.2.2.2.2).2
  have TS := hGS A s s.heap X.2.2.2.2.2.2.2.2.2.2
  obtain ⟨x3, hx3, hg3e⟩ := hok.2.1
  have hg3 : vp_in (g 3) 3 := by rw [hg3e]; exact vp_in_nI hx3 (by decide)
  refine v_aload_n X dX12_acts_512 7 rfl rfl 513 rfl ?_
  refine v_aload X dX12_acts_513 0 rfl 515 rfl ?_
  have e : hCheese h (R.map Prod.snd) (S.map Prod.snd) g = ((hGets h (S.map Prod.snd) g).1, (hGets h (S.map Prod.snd) g).2.1, (R.map Prod.snd), (hGets h (S.map Prod.snd) g).2.2) := rfl
  rw [e] at ho
  subst ho
  refine v_gj X (S := HS) (ws' := fun u => wH ha c9 u.1 u.2.1 (hGets h (S.map Prod.snd) g).2.1 u.2.2.1 u.2.2.2) (F' := fun u => wHF c9 u.2.2.1 u.2.2.2 F0) (r_V X (C := RX12) (As := [.ref a8]) (rest := []) (r_pc X) (c_gets l hG D c9 hGU hGV (ha := ha) (ta := ta) (ua := ua) (h := h) (R := R) (S := S) (F0 := F0) (o := (hGets h (S.map Prod.snd) g)) rfl hl2 hRi hok.1 hg3 hok.2.2) 1 (gV whw_44 whw_45 whw_46 whw_18 whw_47) rfl rfl rfl ⟨rfl, by decide +kernel⟩ ⟨Nat.le_of_ble_eq_true rfl, Nat.le_of_ble_eq_true rfl⟩ (r_recv X (ci := 13) 0 rfl rfl) rfl rfl (Nat.le_of_ble_eq_true rfl) ⟨(by first | exact Nat.le_of_ble_eq_true rfl | omega | (dsimp only; omega)), (by first | exact Nat.le_of_ble_eq_true rfl | omega | (dsimp only; omega))⟩ dX12_acts_515) (fun _ => rfl) 518 rfl (fun u hu => ?_)
  exact v_jret u hu rfl (List.Perm.refl _) X (by first | exact Nat.le_of_ble_eq_true rfl | omega | (dsimp only; omega)) (by first | exact Nat.le_of_ble_eq_true rfl | omega | (dsimp only; omega)) dX12_acts_518
set_option maxRecDepth 100000 in
set_option maxHeartbeats 400000 in
theorem x_drop {p : Program} {l : Launch} {e : Env} {s : State} {m : MethodId} {args : Array Value} {below : List Frame} {meth : Method} {c : Code} {A : Nat → Prop} {G : (Nat → Prop) → State → Heap → Prop} (hG : vG G) (D : va_G) (c9 : Nat → ClassId) {sk sv : Nat → Nat} (hGU : ∀ (A : Nat → Prop) (U : State) (H : Heap), G A U H → vU sk sv A U H) (hGV : ∀ (A : Nat → Prop) (U : State) (H : Heap), G A U H → vV A U H) (X : vX p s m args meth c cX12_acts 11 (some .int) RX12 (wq yX12_acts cX12_acts 11 (some .int)) D (tyA c9) G A) {ha : Nat → Nat} {ta ua : Nat} {h : FH} {R S : List (Nat × Row)} {F0 : va_W} {bs Ls : Nat} {xs : Nat → Int32} (hGS : ∀ (A : Nat → Prop) (U : State) (H : Heap), G A U H → va_T .int bs Ls (fun j => .int (xs j)) A U H) (hLs : Ls < 2 ^ 31) {n : Nat} {o : HA} (hn : n < 2 ^ 31) (hl : R.length ≤ 24) (hl2 : S.length ≤ 30) (hhm : ∀ u, u < 3 → vp_in (FH.home h u) 3) {at9 a8 : Nat} {g : Row} (hRi : R[at9]? = some (a8, g)) (hok : rowOK g) {cells slots : Nat} (hcc : cells ≤ 1) (hss : slots ≤ 10) (ho : hDrop h (R.map Prod.snd) (S.map Prod.snd) at9 = o) : vW p l e { frames := 3, cells := 40, slots := 1300, locals := 77 } s m args below meth c 11 D A (wHF c9 R S F0) cells slots (MQ below (qJ D (tyA c9) A o.1 (fun (u : HS) => u.2.2.1.map Prod.snd = o.2.2.1 ∧ u.2.2.2.map Prod.snd = o.2.2.2) (fun (u : HS) => wH ha c9 u.1 u.2.1 o.2.1 u.2.2.1 u.2.2.2 ++ wHF c9 u.2.2.1 u.2.2.2 F0)) args s 40 1300 A) [((ha 0), .inr (13, [.int (FH.tol h), .ref (ha 1), .ref (ha 2), .ref (ha 3), .ref (ha 4), .ref (ha 5), .ref (ha 6), .ref (ha 7), .ref (ha 8), .ref ta, .ref ua, .int (FH.seed h), .int (FH.time h), .int (FH.next h)])), ((ha 1), .inl (c9 0, 3, .inl (FH.life h))), ((ha 2), .inl (c9 0, 3, .inl (FH.again h))), ((ha 3), .inl (c9 0, 3, .inl (FH.fast h))), ((ha 4), .inl (c9 0, 3, .inl (FH.home h))), ((ha 5), .inl (c9 0, 3, .inl (FH.own h))), ((ha 6), .inl (c9 0, 3, .inl (FH.had h))), ((ha 7), .inl (c9 0, 2, .inl (FH.place h))), ((ha 8), .inl (c9 0, 2, .inl (FH.left h))), (ta, .inl (c9 4, R.length, .inr (.inr (.inr (.inr (outF R)))))), (ua, .inl (c9 4, S.length, .inr (.inr (.inr (.inr (outF S))))))] 519 [(8, .ref a8), (7, .int (nI at9)), (5, .int (nI (n / 32 / 16))), (4, .int (nI (n / 32 % 3))), (3, .int (nI (n / 32))), (2, .int (nI n)), (1, .ref bs), (0, .ref (ha 0))] [] := by
  have hov : va_AI s := (hGV A s s.heap X.2.2.2.2.2.2.2.2.2.2).2
  have TS := hGS A s s.heap X.2.2.2.2.2.2.2.2.2.2
  refine v_aload_n X dX12_acts_519 7 rfl rfl 520 rfl ?_
  refine v_aload_n X dX12_acts_520 7 rfl rfl 521 rfl ?_
  refine v_get X (C := RX12) (T := TX12) (N := 14) (ci := 13) (v := _) dX12_acts_521 (lay_of layhw_X12) 0 rfl rfl 9 (by decide) (mw whw_20) rfl rfl 524 rfl ?_
  refine v_iload X dX12_acts_524 1 rfl 526 rfl ?_
  refine v_perm (ws' := [(ta, .inl (c9 4, R.length, .inr (.inr (.inr (.inr (outF R))))))]) (F' := rowsW c9 10 R ++ (([((ha 0), .inr (13, [.int (FH.tol h), .ref (ha 1), .ref (ha 2), .ref (ha 3), .ref (ha 4), .ref (ha 5), .ref (ha 6), .ref (ha 7), .ref (ha 8), .ref ta, .ref ua, .int (FH.seed h), .int (FH.time h), .int (FH.next h)])), ((ha 1), .inl (c9 0, 3, .inl (FH.life h))), ((ha 2), .inl (c9 0, 3, .inl (FH.again h))), ((ha 3), .inl (c9 0, 3, .inl (FH.fast h))), ((ha 4), .inl (c9 0, 3, .inl (FH.home h))), ((ha 5), .inl (c9 0, 3, .inl (FH.own h))), ((ha 6), .inl (c9 0, 3, .inl (FH.had h))), ((ha 7), .inl (c9 0, 2, .inl (FH.place h))), ((ha 8), .inl (c9 0, 2, .inl (FH.left h))), (ua, .inl (c9 4, S.length, .inr (.inr (.inr (.inr (outF S))))))] : va_W) ++ (rowsW c9 4 S ++ F0))) (perm_w1 (perm_is (ws' := [(ta, .inl (c9 4, R.length, .inr (.inr (.inr (.inr (outF R)))))), ((ha 0), .inr (13, [.int (FH.tol h), .ref (ha 1), .ref (ha 2), .ref (ha 3), .ref (ha 4), .ref (ha 5), .ref (ha 6), .ref (ha 7), .ref (ha 8), .ref ta, .ref ua, .int (FH.seed h), .int (FH.time h), .int (FH.next h)])), ((ha 1), .inl (c9 0, 3, .inl (FH.life h))), ((ha 2), .inl (c9 0, 3, .inl (FH.again h))), ((ha 3), .inl (c9 0, 3, .inl (FH.fast h))), ((ha 4), .inl (c9 0, 3, .inl (FH.home h))), ((ha 5), .inl (c9 0, 3, .inl (FH.own h))), ((ha 6), .inl (c9 0, 3, .inl (FH.had h))), ((ha 7), .inl (c9 0, 2, .inl (FH.place h))), ((ha 8), .inl (c9 0, 2, .inl (FH.left h))), (ua, .inl (c9 4, S.length, .inr (.inr (.inr (.inr (outF S))))))]) [9, 0, 1, 2, 3, 4, 5, 6, 7, 8, 10] rfl 11 rfl rfl)) ?_
  refine v_gr X (S := Nat) (ws' := fun ta2 => [outW c9 ta2 (R.eraseIdx at9)]) (F' := fun _ => rowsW c9 10 (R.eraseIdx at9) ++ (([((ha 0), .inr (13, [.int (FH.tol h), .ref (ha 1), .ref (ha 2), .ref (ha 3), .ref (ha 4), .ref (ha 5), .ref (ha 6), .ref (ha 7), .ref (ha 8), .ref ta, .ref ua, .int (FH.seed h), .int (FH.time h), .int (FH.next h)])), ((ha 1), .inl (c9 0, 3, .inl (FH.life h))), ((ha 2), .inl (c9 0, 3, .inl (FH.again h))), ((ha 3), .inl (c9 0, 3, .inl (FH.fast h))), ((ha 4), .inl (c9 0, 3, .inl (FH.home h))), ((ha 5), .inl (c9 0, 3, .inl (FH.own h))), ((ha 6), .inl (c9 0, 3, .inl (FH.had h))), ((ha 7), .inl (c9 0, 2, .inl (FH.place h))), ((ha 8), .inl (c9 0, 2, .inl (FH.left h))), (ua, .inl (c9 4, S.length, .inr (.inr (.inr (.inr (outF S))))))] : va_W) ++ (rowsW c9 4 S ++ F0))) (r_S X (As := [.ref ta, .int (nI at9)]) (rest := [.ref (ha 0)]) (r_pc X) (c_without l hG D c9 hGU hGV (wd := 10) (at9 := at9) (R := R) (Z := ([((ha 0), .inr (13, [.int (FH.tol h), .ref (ha 1), .ref (ha 2), .ref (ha 3), .ref (ha 4), .ref (ha 5), .ref (ha 6), .ref (ha 7), .ref (ha 8), .ref ta, .ref ua, .int (FH.seed h), .int (FH.time h), .int (FH.next h)])), ((ha 1), .inl (c9 0, 3, .inl (FH.life h))), ((ha 2), .inl (c9 0, 3, .inl (FH.again h))), ((ha 3), .inl (c9 0, 3, .inl (FH.fast h))), ((ha 4), .inl (c9 0, 3, .inl (FH.home h))), ((ha 5), .inl (c9 0, 3, .inl (FH.own h))), ((ha 6), .inl (c9 0, 3, .inl (FH.had h))), ((ha 7), .inl (c9 0, 2, .inl (FH.place h))), ((ha 8), .inl (c9 0, 2, .inl (FH.left h))), (ua, .inl (c9 4, S.length, .inr (.inr (.inr (.inr (outF S))))))] : va_W) ++ (rowsW c9 4 S ++ F0)) (by omega) (List.getElem?_eq_some_iff.mp hRi).1) 2 (gS whw_48 whw_49 whw_18 whw_50) rfl rfl rfl (by decide +kernel) ⟨Nat.le_of_ble_eq_true rfl, Nat.le_of_ble_eq_true rfl⟩ rfl rfl (Nat.le_of_ble_eq_true rfl) ⟨(by first | exact Nat.le_of_ble_eq_true rfl | omega | (dsimp only; omega)), (by first | exact Nat.le_of_ble_eq_true rfl | omega | (dsimp only; omega))⟩ dX12_acts_526) (fun _ => rfl) 529 rfl (fun ta2 _ => ?_)
  refine v_perm (ws' := [((ha 0), .inr (13, [.int (FH.tol h), .ref (ha 1), .ref (ha 2), .ref (ha 3), .ref (ha 4), .ref (ha 5), .ref (ha 6), .ref (ha 7), .ref (ha 8), .ref ta, .ref ua, .int (FH.seed h), .int (FH.time h), .int (FH.next h)])), ((ha 1), .inl (c9 0, 3, .inl (FH.life h))), ((ha 2), .inl (c9 0, 3, .inl (FH.again h))), ((ha 3), .inl (c9 0, 3, .inl (FH.fast h))), ((ha 4), .inl (c9 0, 3, .inl (FH.home h))), ((ha 5), .inl (c9 0, 3, .inl (FH.own h))), ((ha 6), .inl (c9 0, 3, .inl (FH.had h))), ((ha 7), .inl (c9 0, 2, .inl (FH.place h))), ((ha 8), .inl (c9 0, 2, .inl (FH.left h))), (ta2, .inl (c9 4, (R.eraseIdx at9).length, .inr (.inr (.inr (.inr (outF (R.eraseIdx at9))))))), (ua, .inl (c9 4, S.length, .inr (.inr (.inr (.inr (outF S))))))]) (F' := rowsW c9 10 (R.eraseIdx at9) ++ (rowsW c9 4 S ++ F0)) (perm_b (perm_is (ws' := [(ta2, .inl (c9 4, (R.eraseIdx at9).length, .inr (.inr (.inr (.inr (outF (R.eraseIdx at9))))))), ((ha 0), .inr (13, [.int (FH.tol h), .ref (ha 1), .ref (ha 2), .ref (ha 3), .ref (ha 4), .ref (ha 5), .ref (ha 6), .ref (ha 7), .ref (ha 8), .ref ta, .ref ua, .int (FH.seed h), .int (FH.time h), .int (FH.next h)])), ((ha 1), .inl (c9 0, 3, .inl (FH.life h))), ((ha 2), .inl (c9 0, 3, .inl (FH.again h))), ((ha 3), .inl (c9 0, 3, .inl (FH.fast h))), ((ha 4), .inl (c9 0, 3, .inl (FH.home h))), ((ha 5), .inl (c9 0, 3, .inl (FH.own h))), ((ha 6), .inl (c9 0, 3, .inl (FH.had h))), ((ha 7), .inl (c9 0, 2, .inl (FH.place h))), ((ha 8), .inl (c9 0, 2, .inl (FH.left h))), (ua, .inl (c9 4, S.length, .inr (.inr (.inr (.inr (outF S))))))]) [9, 0, 1, 2, 3, 4, 5, 6, 7, 8, 10] rfl 11 rfl rfl)) ?_
  refine v_put X (C := RX12) (T := TX12) (N := 14) (ci := 13) (ty := tyX12 9) (ws' := [((ha 0), .inr (13, [.int (FH.tol h), .ref (ha 1), .ref (ha 2), .ref (ha 3), .ref (ha 4), .ref (ha 5), .ref (ha 6), .ref (ha 7), .ref (ha 8), .ref ta2, .ref ua, .int (FH.seed h), .int (FH.time h), .int (FH.next h)])), ((ha 1), .inl (c9 0, 3, .inl (FH.life h))), ((ha 2), .inl (c9 0, 3, .inl (FH.again h))), ((ha 3), .inl (c9 0, 3, .inl (FH.fast h))), ((ha 4), .inl (c9 0, 3, .inl (FH.home h))), ((ha 5), .inl (c9 0, 3, .inl (FH.own h))), ((ha 6), .inl (c9 0, 3, .inl (FH.had h))), ((ha 7), .inl (c9 0, 2, .inl (FH.place h))), ((ha 8), .inl (c9 0, 2, .inl (FH.left h))), (ta2, .inl (c9 4, (R.eraseIdx at9).length, .inr (.inr (.inr (.inr (outF (R.eraseIdx at9))))))), (ua, .inl (c9 4, S.length, .inr (.inr (.inr (.inr (outF S))))))]) dX12_acts_529 (lay_of layhw_X12) 0 rfl rfl 9 (by decide) tyX12 tyX12_ok nmX12 (mw whw_20) rfl rfl (tyX12_ok 9 (by decide)) rfl rfl (Nat.le_of_ble_eq_true rfl) rfl 532 rfl ?_
  refine v_aload_n X dX12_acts_532 7 rfl rfl 533 rfl ?_
  refine v_get X (C := RX12) (T := TX12) (N := 14) (ci := 13) (v := _) dX12_acts_533 (lay_of layhw_X12) 0 rfl rfl 9 (by decide) (mw whw_20) rfl rfl 536 rfl ?_
  refine v_alen X dX12_acts_536 9 4 rfl rfl rfl 537 rfl ?_
  have e : hDrop h (R.map Prod.snd) (S.map Prod.snd) at9 = (nI ((R.map Prod.snd).eraseIdx at9).length, h, (R.map Prod.snd).eraseIdx at9, (S.map Prod.snd)) := rfl
  rw [e] at ho
  subst ho
  exact v_jret (ta2, ua, (R.eraseIdx at9), S) ⟨map_era, rfl⟩ (by show Int32.ofNat _ = nI _; rw [← map_era, List.length_map]; rfl) (List.Perm.refl _) X (by first | exact Nat.le_of_ble_eq_true rfl | omega | (dsimp only; omega)) (by first | exact Nat.le_of_ble_eq_true rfl | omega | (dsimp only; omega)) dX12_acts_537
theorem flt_keep {p : Row → Bool} {A B : List (Nat × Row)} {x : Nat × Row} (h : p x.2 = true) : ((A ++ [x]).map Prod.snd).filter p ++ B.map Prod.snd = (A.map Prod.snd).filter p ++ ([x] ++ B).map Prod.snd := by
  simp [h]
theorem flt_rem {p : Row → Bool} {A B : List (Nat × Row)} {x : Nat × Row} (h : p x.2 = false) : ((A ++ [x]).map Prod.snd).filter p ++ B.map Prod.snd = (A.map Prod.snd).filter p ++ B.map Prod.snd := by
  simp [h]
set_option maxRecDepth 100000 in
set_option maxHeartbeats 400000 in
theorem x_sweepL {p : Program} {l : Launch} {e : Env} {s : State} {m : MethodId} {args : Array Value} {below : List Frame} {meth : Method} {c : Code} {A : Nat → Prop} {G : (Nat → Prop) → State → Heap → Prop} (hG : vG G) (D : va_G) (c9 : Nat → ClassId) {sk sv : Nat → Nat} (hGU : ∀ (A : Nat → Prop) (U : State) (H : Heap), G A U H → vU sk sv A U H) (hGV : ∀ (A : Nat → Prop) (U : State) (H : Heap), G A U H → vV A U H) (X : vX p s m args meth c cX12_acts 11 (some .int) RX12 (wq yX12_acts cX12_acts 11 (some .int)) D (tyA c9) G A) {ha : Nat → Nat} {ua : Nat} {h : FH} {S : List (Nat × Row)} {F0 : va_W} {bs Ls : Nat} {xs : Nat → Int32} (hGS : ∀ (A : Nat → Prop) (U : State) (H : Heap), G A U H → va_T .int bs Ls (fun j => .int (xs j)) A U H) (hLs : Ls < 2 ^ 31) {n at9 a8 : Nat} {v9 : Int32} {o : HA} (hn : n < 2 ^ 31) : ∀ (m9 : Nat) (A0 B : List (Nat × Row)), A0.length = m9 → ∀ {ta : Nat} {R : List (Nat × Row)} {v : Int32} {cells slots : Nat}, R = A0 ++ B → R.length ≤ 24 → S.length ≤ 30 → v = nI A0.length - 1 → cells + A0.length ≤ 40 → slots + 40 * A0.length ≤ 1300 → ((v9 - nI ((A0.map Prod.snd).filter (live (FH.time h)) ++ B.map Prod.snd).length, h, ((A0.map Prod.snd).filter (live (FH.time h)) ++ B.map Prod.snd), (S.map Prod.snd)) : HA) = o → vW p l e { frames := 3, cells := 40, slots := 1300, locals := 77 } s m args below meth c 11 D A (wHF c9 R S F0) cells slots (MQ below (qJ D (tyA c9) A o.1 (fun (u : HS) => u.2.2.1.map Prod.snd = o.2.2.1 ∧ u.2.2.2.map Prod.snd = o.2.2.2) (fun (u : HS) => wH ha c9 u.1 u.2.1 o.2.1 u.2.2.1 u.2.2.2 ++ wHF c9 u.2.2.1 u.2.2.2 F0)) args s 40 1300 A) [((ha 0), .inr (13, [.int (FH.tol h), .ref (ha 1), .ref (ha 2), .ref (ha 3), .ref (ha 4), .ref (ha 5), .ref (ha 6), .ref (ha 7), .ref (ha 8), .ref ta, .ref ua, .int (FH.seed h), .int (FH.time h), .int (FH.next h)])), ((ha 1), .inl (c9 0, 3, .inl (FH.life h))), ((ha 2), .inl (c9 0, 3, .inl (FH.again h))), ((ha 3), .inl (c9 0, 3, .inl (FH.fast h))), ((ha 4), .inl (c9 0, 3, .inl (FH.home h))), ((ha 5), .inl (c9 0, 3, .inl (FH.own h))), ((ha 6), .inl (c9 0, 3, .inl (FH.had h))), ((ha 7), .inl (c9 0, 2, .inl (FH.place h))), ((ha 8), .inl (c9 0, 2, .inl (FH.left h))), (ta, .inl (c9 4, R.length, .inr (.inr (.inr (.inr (outF R)))))), (ua, .inl (c9 4, S.length, .inr (.inr (.inr (.inr (outF S))))))] 551 [(10, .int v), (9, .int v9), (8, .ref a8), (7, .int (nI at9)), (5, .int (nI (n / 32 / 16))), (4, .int (nI (n / 32 % 3))), (3, .int (nI (n / 32))), (2, .int (nI n)), (1, .ref bs), (0, .ref (ha 0))] [] := by
  have hov : va_AI s := (hGV A s s.heap X.2.2.2.2.2.2.2.2.2.2).2
  intro m9
  induction m9 with
  | zero =>
    intro A0 B hA ta R v cells slots hR9 hl hl2 hv hcc hss ho
    obtain rfl : A0 = [] := List.eq_nil_of_length_eq_zero hA
    refine v_iload X dX12_acts_551 0 rfl 553 rfl ?_
    have hv0 : v < 0 := by rw [hv]; decide
    refine v_if_lt X (tgt := 592) dX12_acts_553 rfl 556 rfl (a := some ()) (b := none) (o := ()) (if_pos hv0) (fun _ => ?_) (fun h => nomatch h)
    refine v_iload X dX12_acts_592 1 rfl 594 rfl ?_
    refine v_aload_n X dX12_acts_594 9 rfl rfl 595 rfl ?_
    refine v_get X (C := RX12) (T := TX12) (N := 14) (ci := 13) (v := _) dX12_acts_595 (lay_of layhw_X12) 0 rfl rfl 9 (by decide) (mw whw_20) rfl rfl 598 rfl ?_
    refine v_alen X dX12_acts_598 9 4 rfl rfl rfl 599 rfl ?_
    refine v_isub X dX12_acts_599 600 rfl ?_
    obtain rfl : R = B := hR9
    subst ho
    exact v_jret (ta, ua, R, S) ⟨rfl, rfl⟩ (by show _ = v9 - nI _; rw [List.map_nil, List.filter_nil, List.nil_append, List.length_map]; rfl) (List.Perm.refl _) X (by first | exact Nat.le_of_ble_eq_true rfl | omega | (dsimp only; omega)) (by first | exact Nat.le_of_ble_eq_true rfl | omega | (dsimp only; omega)) dX12_acts_600
  | succ m9 ih0 =>
    intro A0 B hA ta R v cells slots hR9 hl hl2 hv hcc hss ho
    obtain ⟨A9, x9, rfl⟩ : ∃ A9 x9, A0 = A9 ++ [x9] := by
      rcases List.eq_nil_or_concat A0 with h | ⟨A9, x9, h⟩
      · rw [h] at hA; cases hA
      · exact ⟨A9, x9, by rw [h]; simp⟩
    have hA9 : A9.length = m9 := by rw [List.length_append, List.length_singleton] at hA; omega
    have hxi : R[A9.length]? = some x9 := by rw [hR9]; exact at_mid
    have hlt : A9.length < R.length := (List.getElem?_eq_some_iff.mp hxi).1
    have ih := fun {B} {ta} {R} {v} {cells} {slots} => @ih0 A9 B hA9 ta R v cells slots
    refine v_iload X dX12_acts_551 0 rfl 553 rfl ?_
    have hv1 : v = nI A9.length := by rw [hv, List.length_append, List.length_singleton]; exact pk_sub (a := A9.length + 1) (b := 1) (by omega)
    subst hv1
    refine v_if_lt X (tgt := 592) dX12_acts_553 rfl 556 rfl (a := none) (b := some ()) (o := ()) (if_neg (nI_pos (by omega))) (fun h => nomatch h) (fun _ => ?_)
    refine v_aload_n X dX12_acts_556 9 rfl rfl 557 rfl ?_
    refine v_get X (C := RX12) (T := TX12) (N := 14) (ci := 13) (v := _) dX12_acts_557 (lay_of layhw_X12) 0 rfl rfl 12 (by decide) (mw whw_21) rfl rfl 560 rfl ?_
    refine v_aload_n X dX12_acts_560 9 rfl rfl 561 rfl ?_
    refine v_get X (C := RX12) (T := TX12) (N := 14) (ci := 13) (v := _) dX12_acts_561 (lay_of layhw_X12) 0 rfl rfl 9 (by decide) (mw whw_20) rfl rfl 564 rfl ?_
    refine v_iload X dX12_acts_564 0 rfl 566 rfl ?_
    refine v_aald X dX12_acts_566 9 4 rfl rfl (vp_in_nI (show A9.length < R.length by omega) (by omega)) 567 rfl ?_
    rw [nI_clamp (show A9.length < 2 ^ 31 by omega), out_some hxi]
    refine v_eq (st2 := [.ref x9.1, .int (FH.time h)]) rfl rfl rfl rfl ?_
    refine v_bipush X dX12_acts_567 bp_6 569 rfl ?_
    refine v_ildF X dX12_acts_569 (11 + A9.length) 0 (row_at (ws := [_, _, _, _, _, _, _, _, _, _, _]) (show R[A9.length]? = some (x9.1, x9.2) from hxi)) rfl (rd_nI9 (f := x9.2) (k := 6) (show 6 < 10 by decide) (by decide)) 570 rfl ?_
    by_cases hlv : live (FH.time h) x9.2 = true
    · refine v_icmp_lt X (tgt := 586) dX12_acts_570 rfl 573 rfl (a := some ()) (b := none) (o := ()) (if_pos (of_decide_eq_true hlv)) (fun _ => ?_) (fun h => nomatch h)
      refine v_iinc X (lv' := [(10, .int ((nI A9.length) + (-1))), (9, .int v9), (8, .ref a8), (7, .int (nI at9)), (5, .int (nI (n / 32 / 16))), (4, .int (nI (n / 32 % 3))), (3, .int (nI (n / 32))), (2, .int (nI n)), (1, .ref bs), (0, .ref (ha 0))]) dX12_acts_586 0 rfl ic_m1 (by decide) rfl 589 rfl ?_
      refine v_goto X (tgt := 551) dX12_acts_589 rfl ?_
      refine ih (B := [x9] ++ B) (by rw [hR9, List.append_assoc]) hl hl2 (by rw [Int32.sub_eq_add_neg]) (by rw [List.length_append] at hcc; omega) (by rw [List.length_append] at hss; simp only [List.length_singleton] at hss; omega) (by rw [flt_keep hlv] at ho; exact ho)
    · rw [Bool.not_eq_true] at hlv
      refine v_icmp_lt X (tgt := 586) dX12_acts_570 rfl 573 rfl (a := none) (b := some ()) (o := ()) (if_neg (of_decide_eq_false hlv)) (fun h => nomatch h) (fun _ => ?_)
      refine v_aload_n X dX12_acts_573 9 rfl rfl 574 rfl ?_
      refine v_aload_n X dX12_acts_574 9 rfl rfl 575 rfl ?_
      refine v_get X (C := RX12) (T := TX12) (N := 14) (ci := 13) (v := _) dX12_acts_575 (lay_of layhw_X12) 0 rfl rfl 9 (by decide) (mw whw_20) rfl rfl 578 rfl ?_
      refine v_iload X dX12_acts_578 0 rfl 580 rfl ?_
      refine v_perm (ws' := [(ta, .inl (c9 4, R.length, .inr (.inr (.inr (.inr (outF R))))))]) (F' := rowsW c9 10 R ++ (([((ha 0), .inr (13, [.int (FH.tol h), .ref (ha 1), .ref (ha 2), .ref (ha 3), .ref (ha 4), .ref (ha 5), .ref (ha 6), .ref (ha 7), .ref (ha 8), .ref ta, .ref ua, .int (FH.seed h), .int (FH.time h), .int (FH.next h)])), ((ha 1), .inl (c9 0, 3, .inl (FH.life h))), ((ha 2), .inl (c9 0, 3, .inl (FH.again h))), ((ha 3), .inl (c9 0, 3, .inl (FH.fast h))), ((ha 4), .inl (c9 0, 3, .inl (FH.home h))), ((ha 5), .inl (c9 0, 3, .inl (FH.own h))), ((ha 6), .inl (c9 0, 3, .inl (FH.had h))), ((ha 7), .inl (c9 0, 2, .inl (FH.place h))), ((ha 8), .inl (c9 0, 2, .inl (FH.left h))), (ua, .inl (c9 4, S.length, .inr (.inr (.inr (.inr (outF S))))))] : va_W) ++ (rowsW c9 4 S ++ F0))) (perm_w1 (perm_is (ws' := [(ta, .inl (c9 4, R.length, .inr (.inr (.inr (.inr (outF R)))))), ((ha 0), .inr (13, [.int (FH.tol h), .ref (ha 1), .ref (ha 2), .ref (ha 3), .ref (ha 4), .ref (ha 5), .ref (ha 6), .ref (ha 7), .ref (ha 8), .ref ta, .ref ua, .int (FH.seed h), .int (FH.time h), .int (FH.next h)])), ((ha 1), .inl (c9 0, 3, .inl (FH.life h))), ((ha 2), .inl (c9 0, 3, .inl (FH.again h))), ((ha 3), .inl (c9 0, 3, .inl (FH.fast h))), ((ha 4), .inl (c9 0, 3, .inl (FH.home h))), ((ha 5), .inl (c9 0, 3, .inl (FH.own h))), ((ha 6), .inl (c9 0, 3, .inl (FH.had h))), ((ha 7), .inl (c9 0, 2, .inl (FH.place h))), ((ha 8), .inl (c9 0, 2, .inl (FH.left h))), (ua, .inl (c9 4, S.length, .inr (.inr (.inr (.inr (outF S))))))]) [9, 0, 1, 2, 3, 4, 5, 6, 7, 8, 10] rfl 11 rfl rfl)) ?_
      refine v_gr X (S := Nat) (ws' := fun ta2 => [outW c9 ta2 (R.eraseIdx A9.length)]) (F' := fun _ => rowsW c9 10 (R.eraseIdx A9.length) ++ (([((ha 0), .inr (13, [.int (FH.tol h), .ref (ha 1), .ref (ha 2), .ref (ha 3), .ref (ha 4), .ref (ha 5), .ref (ha 6), .ref (ha 7), .ref (ha 8), .ref ta, .ref ua, .int (FH.seed h), .int (FH.time h), .int (FH.next h)])), ((ha 1), .inl (c9 0, 3, .inl (FH.life h))), ((ha 2), .inl (c9 0, 3, .inl (FH.again h))), ((ha 3), .inl (c9 0, 3, .inl (FH.fast h))), ((ha 4), .inl (c9 0, 3, .inl (FH.home h))), ((ha 5), .inl (c9 0, 3, .inl (FH.own h))), ((ha 6), .inl (c9 0, 3, .inl (FH.had h))), ((ha 7), .inl (c9 0, 2, .inl (FH.place h))), ((ha 8), .inl (c9 0, 2, .inl (FH.left h))), (ua, .inl (c9 4, S.length, .inr (.inr (.inr (.inr (outF S))))))] : va_W) ++ (rowsW c9 4 S ++ F0))) (r_S X (As := [.ref ta, .int (nI A9.length)]) (rest := [.ref (ha 0)]) (r_pc X) (c_without l hG D c9 hGU hGV (wd := 10) (at9 := A9.length) (R := R) (Z := ([((ha 0), .inr (13, [.int (FH.tol h), .ref (ha 1), .ref (ha 2), .ref (ha 3), .ref (ha 4), .ref (ha 5), .ref (ha 6), .ref (ha 7), .ref (ha 8), .ref ta, .ref ua, .int (FH.seed h), .int (FH.time h), .int (FH.next h)])), ((ha 1), .inl (c9 0, 3, .inl (FH.life h))), ((ha 2), .inl (c9 0, 3, .inl (FH.again h))), ((ha 3), .inl (c9 0, 3, .inl (FH.fast h))), ((ha 4), .inl (c9 0, 3, .inl (FH.home h))), ((ha 5), .inl (c9 0, 3, .inl (FH.own h))), ((ha 6), .inl (c9 0, 3, .inl (FH.had h))), ((ha 7), .inl (c9 0, 2, .inl (FH.place h))), ((ha 8), .inl (c9 0, 2, .inl (FH.left h))), (ua, .inl (c9 4, S.length, .inr (.inr (.inr (.inr (outF S))))))] : va_W) ++ (rowsW c9 4 S ++ F0)) (by omega) (by omega)) 2 (gS whw_48 whw_49 whw_18 whw_50) rfl rfl rfl (by decide +kernel) ⟨Nat.le_of_ble_eq_true rfl, Nat.le_of_ble_eq_true rfl⟩ rfl rfl (Nat.le_of_ble_eq_true rfl) ⟨(by first | exact Nat.le_of_ble_eq_true rfl | omega | (dsimp only; omega)), (by first | exact Nat.le_of_ble_eq_true rfl | omega | (dsimp only; omega))⟩ dX12_acts_580) (fun _ => rfl) 583 rfl (fun ta2 _ => ?_)
      refine v_perm (ws' := [((ha 0), .inr (13, [.int (FH.tol h), .ref (ha 1), .ref (ha 2), .ref (ha 3), .ref (ha 4), .ref (ha 5), .ref (ha 6), .ref (ha 7), .ref (ha 8), .ref ta, .ref ua, .int (FH.seed h), .int (FH.time h), .int (FH.next h)])), ((ha 1), .inl (c9 0, 3, .inl (FH.life h))), ((ha 2), .inl (c9 0, 3, .inl (FH.again h))), ((ha 3), .inl (c9 0, 3, .inl (FH.fast h))), ((ha 4), .inl (c9 0, 3, .inl (FH.home h))), ((ha 5), .inl (c9 0, 3, .inl (FH.own h))), ((ha 6), .inl (c9 0, 3, .inl (FH.had h))), ((ha 7), .inl (c9 0, 2, .inl (FH.place h))), ((ha 8), .inl (c9 0, 2, .inl (FH.left h))), (ta2, .inl (c9 4, (R.eraseIdx A9.length).length, .inr (.inr (.inr (.inr (outF (R.eraseIdx A9.length))))))), (ua, .inl (c9 4, S.length, .inr (.inr (.inr (.inr (outF S))))))]) (F' := rowsW c9 10 (R.eraseIdx A9.length) ++ (rowsW c9 4 S ++ F0)) (perm_b (perm_is (ws' := [(ta2, .inl (c9 4, (R.eraseIdx A9.length).length, .inr (.inr (.inr (.inr (outF (R.eraseIdx A9.length))))))), ((ha 0), .inr (13, [.int (FH.tol h), .ref (ha 1), .ref (ha 2), .ref (ha 3), .ref (ha 4), .ref (ha 5), .ref (ha 6), .ref (ha 7), .ref (ha 8), .ref ta, .ref ua, .int (FH.seed h), .int (FH.time h), .int (FH.next h)])), ((ha 1), .inl (c9 0, 3, .inl (FH.life h))), ((ha 2), .inl (c9 0, 3, .inl (FH.again h))), ((ha 3), .inl (c9 0, 3, .inl (FH.fast h))), ((ha 4), .inl (c9 0, 3, .inl (FH.home h))), ((ha 5), .inl (c9 0, 3, .inl (FH.own h))), ((ha 6), .inl (c9 0, 3, .inl (FH.had h))), ((ha 7), .inl (c9 0, 2, .inl (FH.place h))), ((ha 8), .inl (c9 0, 2, .inl (FH.left h))), (ua, .inl (c9 4, S.length, .inr (.inr (.inr (.inr (outF S))))))]) [9, 0, 1, 2, 3, 4, 5, 6, 7, 8, 10] rfl 11 rfl rfl)) ?_
      refine v_put X (C := RX12) (T := TX12) (N := 14) (ci := 13) (ty := tyX12 9) (ws' := [((ha 0), .inr (13, [.int (FH.tol h), .ref (ha 1), .ref (ha 2), .ref (ha 3), .ref (ha 4), .ref (ha 5), .ref (ha 6), .ref (ha 7), .ref (ha 8), .ref ta2, .ref ua, .int (FH.seed h), .int (FH.time h), .int (FH.next h)])), ((ha 1), .inl (c9 0, 3, .inl (FH.life h))), ((ha 2), .inl (c9 0, 3, .inl (FH.again h))), ((ha 3), .inl (c9 0, 3, .inl (FH.fast h))), ((ha 4), .inl (c9 0, 3, .inl (FH.home h))), ((ha 5), .inl (c9 0, 3, .inl (FH.own h))), ((ha 6), .inl (c9 0, 3, .inl (FH.had h))), ((ha 7), .inl (c9 0, 2, .inl (FH.place h))), ((ha 8), .inl (c9 0, 2, .inl (FH.left h))), (ta2, .inl (c9 4, (R.eraseIdx A9.length).length, .inr (.inr (.inr (.inr (outF (R.eraseIdx A9.length))))))), (ua, .inl (c9 4, S.length, .inr (.inr (.inr (.inr (outF S))))))]) dX12_acts_583 (lay_of layhw_X12) 0 rfl rfl 9 (by decide) tyX12 tyX12_ok nmX12 (mw whw_20) rfl rfl (tyX12_ok 9 (by decide)) rfl rfl (Nat.le_of_ble_eq_true rfl) rfl 586 rfl ?_
      refine v_iinc X (lv' := [(10, .int ((nI A9.length) + (-1))), (9, .int v9), (8, .ref a8), (7, .int (nI at9)), (5, .int (nI (n / 32 / 16))), (4, .int (nI (n / 32 % 3))), (3, .int (nI (n / 32))), (2, .int (nI n)), (1, .ref bs), (0, .ref (ha 0))]) dX12_acts_586 0 rfl ic_m1 (by decide) rfl 589 rfl ?_
      refine v_goto X (tgt := 551) dX12_acts_589 rfl ?_
      refine ih (B := B) (R := (R.eraseIdx A9.length)) (ta := ta2) (by rw [hR9]; exact era_mid) (by rw [List.length_eraseIdx_of_lt (by omega)]; omega) hl2 (by rw [Int32.sub_eq_add_neg]) (by rw [List.length_append] at hcc; simp only [List.length_singleton] at hcc; omega) (by rw [List.length_append] at hss; simp only [List.length_singleton] at hss; omega) (by rw [flt_rem hlv] at ho; exact ho)
set_option maxRecDepth 100000 in
set_option maxHeartbeats 400000 in
theorem x_sweep {p : Program} {l : Launch} {e : Env} {s : State} {m : MethodId} {args : Array Value} {below : List Frame} {meth : Method} {c : Code} {A : Nat → Prop} {G : (Nat → Prop) → State → Heap → Prop} (hG : vG G) (D : va_G) (c9 : Nat → ClassId) {sk sv : Nat → Nat} (hGU : ∀ (A : Nat → Prop) (U : State) (H : Heap), G A U H → vU sk sv A U H) (hGV : ∀ (A : Nat → Prop) (U : State) (H : Heap), G A U H → vV A U H) (X : vX p s m args meth c cX12_acts 11 (some .int) RX12 (wq yX12_acts cX12_acts 11 (some .int)) D (tyA c9) G A) {ha : Nat → Nat} {ta ua : Nat} {h : FH} {R S : List (Nat × Row)} {F0 : va_W} {bs Ls : Nat} {xs : Nat → Int32} (hGS : ∀ (A : Nat → Prop) (U : State) (H : Heap), G A U H → va_T .int bs Ls (fun j => .int (xs j)) A U H) (hLs : Ls < 2 ^ 31) {n : Nat} {o : HA} (hn : n < 2 ^ 31) (hl : R.length ≤ 24) (hl2 : S.length ≤ 30) (hhm : ∀ u, u < 3 → vp_in (FH.home h u) 3) {at9 a8 : Nat} {cells slots : Nat} (hcc : cells ≤ 1) (hss : slots ≤ 10) (ho : hSweep h (R.map Prod.snd) (S.map Prod.snd) = o) : vW p l e { frames := 3, cells := 40, slots := 1300, locals := 77 } s m args below meth c 11 D A (wHF c9 R S F0) cells slots (MQ below (qJ D (tyA c9) A o.1 (fun (u : HS) => u.2.2.1.map Prod.snd = o.2.2.1 ∧ u.2.2.2.map Prod.snd = o.2.2.2) (fun (u : HS) => wH ha c9 u.1 u.2.1 o.2.1 u.2.2.1 u.2.2.2 ++ wHF c9 u.2.2.1 u.2.2.2 F0)) args s 40 1300 A) [((ha 0), .inr (13, [.int (FH.tol h), .ref (ha 1), .ref (ha 2), .ref (ha 3), .ref (ha 4), .ref (ha 5), .ref (ha 6), .ref (ha 7), .ref (ha 8), .ref ta, .ref ua, .int (FH.seed h), .int (FH.time h), .int (FH.next h)])), ((ha 1), .inl (c9 0, 3, .inl (FH.life h))), ((ha 2), .inl (c9 0, 3, .inl (FH.again h))), ((ha 3), .inl (c9 0, 3, .inl (FH.fast h))), ((ha 4), .inl (c9 0, 3, .inl (FH.home h))), ((ha 5), .inl (c9 0, 3, .inl (FH.own h))), ((ha 6), .inl (c9 0, 3, .inl (FH.had h))), ((ha 7), .inl (c9 0, 2, .inl (FH.place h))), ((ha 8), .inl (c9 0, 2, .inl (FH.left h))), (ta, .inl (c9 4, R.length, .inr (.inr (.inr (.inr (outF R)))))), (ua, .inl (c9 4, S.length, .inr (.inr (.inr (.inr (outF S))))))] 538 [(8, .ref a8), (7, .int (nI at9)), (5, .int (nI (n / 32 / 16))), (4, .int (nI (n / 32 % 3))), (3, .int (nI (n / 32))), (2, .int (nI n)), (1, .ref bs), (0, .ref (ha 0))] [] := by
  have hov : va_AI s := (hGV A s s.heap X.2.2.2.2.2.2.2.2.2.2).2
  have TS := hGS A s s.heap X.2.2.2.2.2.2.2.2.2.2
  refine v_aload_n X dX12_acts_538 7 rfl rfl 539 rfl ?_
  refine v_get X (C := RX12) (T := TX12) (N := 14) (ci := 13) (v := _) dX12_acts_539 (lay_of layhw_X12) 0 rfl rfl 9 (by decide) (mw whw_20) rfl rfl 542 rfl ?_
  refine v_alen X dX12_acts_542 9 4 rfl rfl rfl 543 rfl ?_
  refine v_istore X (lv' := [(9, .int (Int32.ofNat R.length)), (8, .ref a8), (7, .int (nI at9)), (5, .int (nI (n / 32 / 16))), (4, .int (nI (n / 32 % 3))), (3, .int (nI (n / 32))), (2, .int (nI n)), (1, .ref bs), (0, .ref (ha 0))]) dX12_acts_543 (by decide) rfl 545 rfl ?_
  refine v_iload X dX12_acts_545 0 rfl 547 rfl ?_
  refine v_iconst X dX12_acts_547 ic_1 548 rfl ?_
  refine v_isub X dX12_acts_548 549 rfl ?_
  refine v_istore X (lv' := [(10, .int ((Int32.ofNat R.length) - 1)), (9, .int (Int32.ofNat R.length)), (8, .ref a8), (7, .int (nI at9)), (5, .int (nI (n / 32 / 16))), (4, .int (nI (n / 32 % 3))), (3, .int (nI (n / 32))), (2, .int (nI n)), (1, .ref bs), (0, .ref (ha 0))]) dX12_acts_549 (by decide) rfl 551 rfl ?_
  refine v_sub (lv' := [(10, .int ((Int32.ofNat R.length) - 1)), (9, .int (Int32.ofNat R.length)), (8, .ref a8), (7, .int (nI at9)), (5, .int (nI (n / 32 / 16))), (4, .int (nI (n / 32 % 3))), (3, .int (nI (n / 32))), (2, .int (nI n)), (1, .ref bs), (0, .ref (ha 0))]) [0, 1, 2, 3, 4, 5, 6, 7, 8, 9] rfl ?_
  exact x_sweepL hG D c9 hGU hGV X hGS hLs hn R.length R [] rfl (v9 := nI R.length) (by rw [List.append_nil]) hl hl2 rfl (by omega) (by omega) (by rw [← ho, hSweep, List.map_nil, List.append_nil, List.length_map])
set_option maxRecDepth 100000 in
set_option maxHeartbeats 400000 in
theorem x_clock {p : Program} {l : Launch} {e : Env} {s : State} {m : MethodId} {args : Array Value} {below : List Frame} {meth : Method} {c : Code} {A : Nat → Prop} {G : (Nat → Prop) → State → Heap → Prop} (hG : vG G) (D : va_G) (c9 : Nat → ClassId) {sk sv : Nat → Nat} (hGU : ∀ (A : Nat → Prop) (U : State) (H : Heap), G A U H → vU sk sv A U H) (hGV : ∀ (A : Nat → Prop) (U : State) (H : Heap), G A U H → vV A U H) (X : vX p s m args meth c cX12_acts 11 (some .int) RX12 (wq yX12_acts cX12_acts 11 (some .int)) D (tyA c9) G A) {ha : Nat → Nat} {ta ua : Nat} {h : FH} {R S : List (Nat × Row)} {F0 : va_W} {bs Ls : Nat} {xs : Nat → Int32} (hGS : ∀ (A : Nat → Prop) (U : State) (H : Heap), G A U H → va_T .int bs Ls (fun j => .int (xs j)) A U H) (hLs : Ls < 2 ^ 31) {n : Nat} {o : HA} (hn : n < 2 ^ 31) (hl : R.length ≤ 24) (hl2 : S.length ≤ 30) (hhm : ∀ u, u < 3 → vp_in (FH.home h u) 3) {at9 a8 : Nat} {cells slots : Nat} (hcc : cells ≤ 1) (hss : slots ≤ 10) (ho : hClock h (R.map Prod.snd) (S.map Prod.snd) (n / 32 % 3) (n / 32 / 16) = o) : vW p l e { frames := 3, cells := 40, slots := 1300, locals := 77 } s m args below meth c 11 D A (wHF c9 R S F0) cells slots (MQ below (qJ D (tyA c9) A o.1 (fun (u : HS) => u.2.2.1.map Prod.snd = o.2.2.1 ∧ u.2.2.2.map Prod.snd = o.2.2.2) (fun (u : HS) => wH ha c9 u.1 u.2.1 o.2.1 u.2.2.1 u.2.2.2 ++ wHF c9 u.2.2.1 u.2.2.2 F0)) args s 40 1300 A) [((ha 0), .inr (13, [.int (FH.tol h), .ref (ha 1), .ref (ha 2), .ref (ha 3), .ref (ha 4), .ref (ha 5), .ref (ha 6), .ref (ha 7), .ref (ha 8), .ref ta, .ref ua, .int (FH.seed h), .int (FH.time h), .int (FH.next h)])), ((ha 1), .inl (c9 0, 3, .inl (FH.life h))), ((ha 2), .inl (c9 0, 3, .inl (FH.again h))), ((ha 3), .inl (c9 0, 3, .inl (FH.fast h))), ((ha 4), .inl (c9 0, 3, .inl (FH.home h))), ((ha 5), .inl (c9 0, 3, .inl (FH.own h))), ((ha 6), .inl (c9 0, 3, .inl (FH.had h))), ((ha 7), .inl (c9 0, 2, .inl (FH.place h))), ((ha 8), .inl (c9 0, 2, .inl (FH.left h))), (ta, .inl (c9 4, R.length, .inr (.inr (.inr (.inr (outF R)))))), (ua, .inl (c9 4, S.length, .inr (.inr (.inr (.inr (outF S))))))] 601 [(8, .ref a8), (7, .int (nI at9)), (5, .int (nI (n / 32 / 16))), (4, .int (nI (n / 32 % 3))), (3, .int (nI (n / 32))), (2, .int (nI n)), (1, .ref bs), (0, .ref (ha 0))] [] := by
  have hov : va_AI s := (hGV A s s.heap X.2.2.2.2.2.2.2.2.2.2).2
  have TS := hGS A s s.heap X.2.2.2.2.2.2.2.2.2.2
  refine v_aload_n X dX12_acts_601 7 rfl rfl 602 rfl ?_
  refine v_get X (C := RX12) (T := TX12) (N := 14) (ci := 13) (v := _) dX12_acts_602 (lay_of layhw_X12) 0 rfl rfl 5 (by decide) (mw whw_51) rfl rfl 605 rfl ?_
  refine v_iload X dX12_acts_605 3 rfl 607 rfl ?_
  refine v_iald X dX12_acts_607 5 0 rfl rfl (rd_nI9 (f := (FH.own h)) (k := (n / 32 % 3)) (show _ < 3 by omega) (by decide)) 608 rfl ?_
  refine v_istore X (lv' := [(9, .int ((FH.own h) (n / 32 % 3))), (8, .ref a8), (7, .int (nI at9)), (5, .int (nI (n / 32 / 16))), (4, .int (nI (n / 32 % 3))), (3, .int (nI (n / 32))), (2, .int (nI n)), (1, .ref bs), (0, .ref (ha 0))]) dX12_acts_608 (by decide) rfl 610 rfl ?_
  refine v_aload_n X dX12_acts_610 8 rfl rfl 611 rfl ?_
  refine v_get X (C := RX12) (T := TX12) (N := 14) (ci := 13) (v := _) dX12_acts_611 (lay_of layhw_X12) 0 rfl rfl 5 (by decide) (mw whw_51) rfl rfl 614 rfl ?_
  refine v_iload X dX12_acts_614 4 rfl 616 rfl ?_
  refine v_iload X dX12_acts_616 3 rfl 618 rfl ?_
  refine v_callNi X (As := [.int (nI (n / 32 / 16))]) (rest := [.int (nI (n / 32 % 3)), .ref (ha 5)]) (c_offset l hG D c9 hGU (n := (n / 32 / 16)) (by omega)) 1 (wg_sub _ whw_52 _) rfl rfl rfl nest_RX12_55 (mw whw_29) (mw whw_53) (by decide +kernel) ⟨Nat.le_of_ble_eq_true rfl, Nat.le_of_ble_eq_true rfl⟩ rfl rfl (Nat.le_of_ble_eq_true rfl) ⟨(by first | exact Nat.le_of_ble_eq_true rfl | omega | (dsimp only; omega)), (by first | exact Nat.le_of_ble_eq_true rfl | omega | (dsimp only; omega))⟩ dX12_acts_618 621 rfl ?_
  refine v_iast X (ws' := [((ha 0), .inr (13, [.int (FH.tol h), .ref (ha 1), .ref (ha 2), .ref (ha 3), .ref (ha 4), .ref (ha 5), .ref (ha 6), .ref (ha 7), .ref (ha 8), .ref ta, .ref ua, .int (FH.seed h), .int (FH.time h), .int (FH.next h)])), ((ha 1), .inl (c9 0, 3, .inl (FH.life h))), ((ha 2), .inl (c9 0, 3, .inl (FH.again h))), ((ha 3), .inl (c9 0, 3, .inl (FH.fast h))), ((ha 4), .inl (c9 0, 3, .inl (FH.home h))), ((ha 5), .inl (c9 0, 3, .inl (upd (FH.own h) (n / 32 % 3) (nI ((n / 32 / 16) % 7) - 3)))), ((ha 6), .inl (c9 0, 3, .inl (FH.had h))), ((ha 7), .inl (c9 0, 2, .inl (FH.place h))), ((ha 8), .inl (c9 0, 2, .inl (FH.left h))), (ta, .inl (c9 4, R.length, .inr (.inr (.inr (.inr (outF R)))))), (ua, .inl (c9 4, S.length, .inr (.inr (.inr (.inr (outF S))))))]) dX12_acts_621 5 0 rfl rfl (wr_nI9 (f := (FH.own h)) (k := (n / 32 % 3)) (show _ < 3 by omega) (by decide)) rfl 622 rfl ?_
  refine v_iload X dX12_acts_622 0 rfl 624 rfl ?_
  subst ho
  exact v_jret (ta, ua, R, S) ⟨rfl, rfl⟩ rfl (List.Perm.refl _) X (by first | exact Nat.le_of_ble_eq_true rfl | omega | (dsimp only; omega)) (by first | exact Nat.le_of_ble_eq_true rfl | omega | (dsimp only; omega)) dX12_acts_624
set_option maxRecDepth 100000 in
set_option maxHeartbeats 400000 in
theorem x_passL {p : Program} {l : Launch} {e : Env} {s : State} {m : MethodId} {args : Array Value} {below : List Frame} {meth : Method} {c : Code} {A : Nat → Prop} {G : (Nat → Prop) → State → Heap → Prop} (hG : vG G) (D : va_G) (c9 : Nat → ClassId) {sk sv : Nat → Nat} (hGU : ∀ (A : Nat → Prop) (U : State) (H : Heap), G A U H → vU sk sv A U H) (hGV : ∀ (A : Nat → Prop) (U : State) (H : Heap), G A U H → vV A U H) (X : vX p s m args meth c cX12_acts 11 (some .int) RX12 (wq yX12_acts cX12_acts 11 (some .int)) D (tyA c9) G A) {ha : Nat → Nat} {ta : Nat} {h : FH} {R : List (Nat × Row)} {F0 : va_W} {bs Ls : Nat} {xs : Nat → Int32} (hGS : ∀ (A : Nat → Prop) (U : State) (H : Heap), G A U H → va_T .int bs Ls (fun j => .int (xs j)) A U H) (hLs : Ls < 2 ^ 31) {n at9 a8 : Nat} {v9 : Int32} {o : HA} (hn : n < 2 ^ 31) : ∀ (m9 : Nat) (A0 B : List (Nat × Row)), A0.length = m9 → ∀ {ua : Nat} {S : List (Nat × Row)} {v : Int32} {cells slots : Nat}, S = A0 ++ B → R.length ≤ 24 → S.length ≤ 30 → v = nI A0.length - 1 → cells + A0.length ≤ 40 → slots + 40 * A0.length ≤ 1300 → ((v9 - hVal h (R.map Prod.snd), h, (R.map Prod.snd), ((A0.map Prod.snd).filter (fresh h (FH.time h)) ++ B.map Prod.snd)) : HA) = o → vW p l e { frames := 3, cells := 40, slots := 1300, locals := 77 } s m args below meth c 11 D A (wHF c9 R S F0) cells slots (MQ below (qJ D (tyA c9) A o.1 (fun (u : HS) => u.2.2.1.map Prod.snd = o.2.2.1 ∧ u.2.2.2.map Prod.snd = o.2.2.2) (fun (u : HS) => wH ha c9 u.1 u.2.1 o.2.1 u.2.2.1 u.2.2.2 ++ wHF c9 u.2.2.1 u.2.2.2 F0)) args s 40 1300 A) [((ha 0), .inr (13, [.int (FH.tol h), .ref (ha 1), .ref (ha 2), .ref (ha 3), .ref (ha 4), .ref (ha 5), .ref (ha 6), .ref (ha 7), .ref (ha 8), .ref ta, .ref ua, .int (FH.seed h), .int (FH.time h), .int (FH.next h)])), ((ha 1), .inl (c9 0, 3, .inl (FH.life h))), ((ha 2), .inl (c9 0, 3, .inl (FH.again h))), ((ha 3), .inl (c9 0, 3, .inl (FH.fast h))), ((ha 4), .inl (c9 0, 3, .inl (FH.home h))), ((ha 5), .inl (c9 0, 3, .inl (FH.own h))), ((ha 6), .inl (c9 0, 3, .inl (FH.had h))), ((ha 7), .inl (c9 0, 2, .inl (FH.place h))), ((ha 8), .inl (c9 0, 2, .inl (FH.left h))), (ta, .inl (c9 4, R.length, .inr (.inr (.inr (.inr (outF R)))))), (ua, .inl (c9 4, S.length, .inr (.inr (.inr (.inr (outF S))))))] 669 [(10, .int v), (9, .int v9), (8, .ref a8), (7, .int (nI at9)), (5, .int (nI (n / 32 / 16))), (4, .int (nI (n / 32 % 3))), (3, .int (nI (n / 32))), (2, .int (nI n)), (1, .ref bs), (0, .ref (ha 0))] [] := by
  have hov : va_AI s := (hGV A s s.heap X.2.2.2.2.2.2.2.2.2.2).2
  intro m9
  induction m9 with
  | zero =>
    intro A0 B hA ua S v cells slots hR9 hl hl2 hv hcc hss ho
    obtain rfl : A0 = [] := List.eq_nil_of_length_eq_zero hA
    refine v_iload X dX12_acts_669 0 rfl 671 rfl ?_
    have hv0 : v < 0 := by rw [hv]; decide
    refine v_if_lt X (tgt := 714) dX12_acts_671 rfl 674 rfl (a := some ()) (b := none) (o := ()) (if_pos hv0) (fun _ => ?_) (fun h => nomatch h)
    refine v_iload X dX12_acts_714 1 rfl 716 rfl ?_
    refine v_aload_n X dX12_acts_716 9 rfl rfl 717 rfl ?_
    refine v_gj X (S := Unit) (ws' := fun _ => [((ha 0), .inr (13, [.int (FH.tol h), .ref (ha 1), .ref (ha 2), .ref (ha 3), .ref (ha 4), .ref (ha 5), .ref (ha 6), .ref (ha 7), .ref (ha 8), .ref ta, .ref ua, .int (FH.seed h), .int (FH.time h), .int (FH.next h)])), ((ha 1), .inl (c9 0, 3, .inl (FH.life h))), ((ha 2), .inl (c9 0, 3, .inl (FH.again h))), ((ha 3), .inl (c9 0, 3, .inl (FH.fast h))), ((ha 4), .inl (c9 0, 3, .inl (FH.home h))), ((ha 5), .inl (c9 0, 3, .inl (FH.own h))), ((ha 6), .inl (c9 0, 3, .inl (FH.had h))), ((ha 7), .inl (c9 0, 2, .inl (FH.place h))), ((ha 8), .inl (c9 0, 2, .inl (FH.left h))), (ta, .inl (c9 4, R.length, .inr (.inr (.inr (.inr (outF R)))))), (ua, .inl (c9 4, S.length, .inr (.inr (.inr (.inr (outF S))))))]) (F' := fun _ => wHF c9 R S F0) (r_V X (C := RX12) (As := []) (rest := [.int v9]) (r_pc X) (c_valid l hG D c9 hGU hGV (ha := ha) (ta := ta) (ua := ua) (h := h) (R := R) (S := S) (F0 := F0) (by omega)) 0 (gV whw_54 whw_55 whw_56 whw_18 whw_57) rfl rfl rfl ⟨rfl, by decide +kernel⟩ ⟨Nat.le_of_ble_eq_true rfl, Nat.le_of_ble_eq_true rfl⟩ (r_recv X (ci := 13) 0 rfl rfl) rfl rfl (Nat.le_of_ble_eq_true rfl) ⟨(by first | exact Nat.le_of_ble_eq_true rfl | omega | (dsimp only; omega)), (by first | exact Nat.le_of_ble_eq_true rfl | omega | (dsimp only; omega))⟩ dX12_acts_717) (fun _ => rfl) 720 rfl (fun _ _ => ?_)
    refine v_isub X dX12_acts_720 721 rfl ?_
    obtain rfl : S = B := hR9
    subst ho
    exact v_jret (ta, ua, R, S) ⟨rfl, rfl⟩ rfl (List.Perm.refl _) X (by first | exact Nat.le_of_ble_eq_true rfl | omega | (dsimp only; omega)) (by first | exact Nat.le_of_ble_eq_true rfl | omega | (dsimp only; omega)) dX12_acts_721
  | succ m9 ih0 =>
    intro A0 B hA ua S v cells slots hR9 hl hl2 hv hcc hss ho
    obtain ⟨A9, x9, rfl⟩ : ∃ A9 x9, A0 = A9 ++ [x9] := by
      rcases List.eq_nil_or_concat A0 with h | ⟨A9, x9, h⟩
      · rw [h] at hA; cases hA
      · exact ⟨A9, x9, by rw [h]; simp⟩
    have hA9 : A9.length = m9 := by rw [List.length_append, List.length_singleton] at hA; omega
    have hxi : S[A9.length]? = some x9 := by rw [hR9]; exact at_mid
    have hlt : A9.length < S.length := (List.getElem?_eq_some_iff.mp hxi).1
    have ih := fun {B} {ua} {S} {v} {cells} {slots} => @ih0 A9 B hA9 ua S v cells slots
    refine v_iload X dX12_acts_669 0 rfl 671 rfl ?_
    have hv1 : v = nI A9.length := by rw [hv, List.length_append, List.length_singleton]; exact pk_sub (a := A9.length + 1) (b := 1) (by omega)
    subst hv1
    refine v_if_lt X (tgt := 714) dX12_acts_671 rfl 674 rfl (a := none) (b := some ()) (o := ()) (if_neg (nI_pos (by omega))) (fun h => nomatch h) (fun _ => ?_)
    refine v_aload_n X dX12_acts_674 9 rfl rfl 675 rfl ?_
    refine v_get X (C := RX12) (T := TX12) (N := 14) (ci := 13) (v := _) dX12_acts_675 (lay_of layhw_X12) 0 rfl rfl 12 (by decide) (mw whw_21) rfl rfl 678 rfl ?_
    refine v_aload_n X dX12_acts_678 9 rfl rfl 679 rfl ?_
    refine v_get X (C := RX12) (T := TX12) (N := 14) (ci := 13) (v := _) dX12_acts_679 (lay_of layhw_X12) 0 rfl rfl 10 (by decide) (mw whw_58) rfl rfl 682 rfl ?_
    refine v_iload X dX12_acts_682 0 rfl 684 rfl ?_
    refine v_aald X dX12_acts_684 10 4 rfl rfl (vp_in_nI (show A9.length < S.length by omega) (by omega)) 685 rfl ?_
    rw [nI_clamp (show A9.length < 2 ^ 31 by omega), out_some hxi]
    refine v_eq (st2 := [.ref x9.1, .int (FH.time h)]) rfl rfl rfl rfl ?_
    refine v_iconst X dX12_acts_685 ic_3 686 rfl ?_
    refine v_ildF X dX12_acts_686 (11 + ((rowsW c9 10 R).length + A9.length)) 0 (row_at2 (ws := [_, _, _, _, _, _, _, _, _, _, _]) (Z := rowsW c9 10 R) (show S[A9.length]? = some (x9.1, x9.2) from hxi)) rfl (rd_nI9 (f := x9.2) (k := 3) (show 3 < 4 by decide) (by decide)) 687 rfl ?_
    refine v_isub X dX12_acts_687 688 rfl ?_
    refine v_aload_n X dX12_acts_688 9 rfl rfl 689 rfl ?_
    refine v_get X (C := RX12) (T := TX12) (N := 14) (ci := 13) (v := _) dX12_acts_689 (lay_of layhw_X12) 0 rfl rfl 0 (by decide) (mw whw_59) rfl rfl 692 rfl ?_
    by_cases hlv : fresh h (FH.time h) x9.2 = true
    · refine v_icmp_le X (tgt := 708) dX12_acts_692 rfl 695 rfl (a := some ()) (b := none) (o := ()) (if_pos (of_decide_eq_true hlv)) (fun _ => ?_) (fun h => nomatch h)
      refine v_iinc X (lv' := [(10, .int ((nI A9.length) + (-1))), (9, .int v9), (8, .ref a8), (7, .int (nI at9)), (5, .int (nI (n / 32 / 16))), (4, .int (nI (n / 32 % 3))), (3, .int (nI (n / 32))), (2, .int (nI n)), (1, .ref bs), (0, .ref (ha 0))]) dX12_acts_708 0 rfl ic_m1 (by decide) rfl 711 rfl ?_
      refine v_goto X (tgt := 669) dX12_acts_711 rfl ?_
      refine ih (B := [x9] ++ B) (by rw [hR9, List.append_assoc]) hl hl2 (by rw [Int32.sub_eq_add_neg]) (by rw [List.length_append] at hcc; omega) (by rw [List.length_append] at hss; simp only [List.length_singleton] at hss; omega) (by rw [flt_keep hlv] at ho; exact ho)
    · rw [Bool.not_eq_true] at hlv
      refine v_icmp_le X (tgt := 708) dX12_acts_692 rfl 695 rfl (a := none) (b := some ()) (o := ()) (if_neg (of_decide_eq_false hlv)) (fun h => nomatch h) (fun _ => ?_)
      refine v_aload_n X dX12_acts_695 9 rfl rfl 696 rfl ?_
      refine v_aload_n X dX12_acts_696 9 rfl rfl 697 rfl ?_
      refine v_get X (C := RX12) (T := TX12) (N := 14) (ci := 13) (v := _) dX12_acts_697 (lay_of layhw_X12) 0 rfl rfl 10 (by decide) (mw whw_58) rfl rfl 700 rfl ?_
      refine v_iload X dX12_acts_700 0 rfl 702 rfl ?_
      refine v_perm perm_sw ?_
      refine v_perm (ws' := [(ua, .inl (c9 4, S.length, .inr (.inr (.inr (.inr (outF S))))))]) (F' := rowsW c9 4 S ++ (([((ha 0), .inr (13, [.int (FH.tol h), .ref (ha 1), .ref (ha 2), .ref (ha 3), .ref (ha 4), .ref (ha 5), .ref (ha 6), .ref (ha 7), .ref (ha 8), .ref ta, .ref ua, .int (FH.seed h), .int (FH.time h), .int (FH.next h)])), ((ha 1), .inl (c9 0, 3, .inl (FH.life h))), ((ha 2), .inl (c9 0, 3, .inl (FH.again h))), ((ha 3), .inl (c9 0, 3, .inl (FH.fast h))), ((ha 4), .inl (c9 0, 3, .inl (FH.home h))), ((ha 5), .inl (c9 0, 3, .inl (FH.own h))), ((ha 6), .inl (c9 0, 3, .inl (FH.had h))), ((ha 7), .inl (c9 0, 2, .inl (FH.place h))), ((ha 8), .inl (c9 0, 2, .inl (FH.left h))), (ta, .inl (c9 4, R.length, .inr (.inr (.inr (.inr (outF R))))))] : va_W) ++ (rowsW c9 10 R ++ F0))) (perm_w1 (perm_is (ws' := [(ua, .inl (c9 4, S.length, .inr (.inr (.inr (.inr (outF S)))))), ((ha 0), .inr (13, [.int (FH.tol h), .ref (ha 1), .ref (ha 2), .ref (ha 3), .ref (ha 4), .ref (ha 5), .ref (ha 6), .ref (ha 7), .ref (ha 8), .ref ta, .ref ua, .int (FH.seed h), .int (FH.time h), .int (FH.next h)])), ((ha 1), .inl (c9 0, 3, .inl (FH.life h))), ((ha 2), .inl (c9 0, 3, .inl (FH.again h))), ((ha 3), .inl (c9 0, 3, .inl (FH.fast h))), ((ha 4), .inl (c9 0, 3, .inl (FH.home h))), ((ha 5), .inl (c9 0, 3, .inl (FH.own h))), ((ha 6), .inl (c9 0, 3, .inl (FH.had h))), ((ha 7), .inl (c9 0, 2, .inl (FH.place h))), ((ha 8), .inl (c9 0, 2, .inl (FH.left h))), (ta, .inl (c9 4, R.length, .inr (.inr (.inr (.inr (outF R))))))]) [10, 0, 1, 2, 3, 4, 5, 6, 7, 8, 9] rfl 11 rfl rfl)) ?_
      refine v_gr X (S := Nat) (ws' := fun ta2 => [outW c9 ta2 (S.eraseIdx A9.length)]) (F' := fun _ => rowsW c9 4 (S.eraseIdx A9.length) ++ (([((ha 0), .inr (13, [.int (FH.tol h), .ref (ha 1), .ref (ha 2), .ref (ha 3), .ref (ha 4), .ref (ha 5), .ref (ha 6), .ref (ha 7), .ref (ha 8), .ref ta, .ref ua, .int (FH.seed h), .int (FH.time h), .int (FH.next h)])), ((ha 1), .inl (c9 0, 3, .inl (FH.life h))), ((ha 2), .inl (c9 0, 3, .inl (FH.again h))), ((ha 3), .inl (c9 0, 3, .inl (FH.fast h))), ((ha 4), .inl (c9 0, 3, .inl (FH.home h))), ((ha 5), .inl (c9 0, 3, .inl (FH.own h))), ((ha 6), .inl (c9 0, 3, .inl (FH.had h))), ((ha 7), .inl (c9 0, 2, .inl (FH.place h))), ((ha 8), .inl (c9 0, 2, .inl (FH.left h))), (ta, .inl (c9 4, R.length, .inr (.inr (.inr (.inr (outF R))))))] : va_W) ++ (rowsW c9 10 R ++ F0))) (r_S X (As := [.ref ua, .int (nI A9.length)]) (rest := [.ref (ha 0)]) (r_pc X) (c_without l hG D c9 hGU hGV (wd := 4) (at9 := A9.length) (R := S) (Z := ([((ha 0), .inr (13, [.int (FH.tol h), .ref (ha 1), .ref (ha 2), .ref (ha 3), .ref (ha 4), .ref (ha 5), .ref (ha 6), .ref (ha 7), .ref (ha 8), .ref ta, .ref ua, .int (FH.seed h), .int (FH.time h), .int (FH.next h)])), ((ha 1), .inl (c9 0, 3, .inl (FH.life h))), ((ha 2), .inl (c9 0, 3, .inl (FH.again h))), ((ha 3), .inl (c9 0, 3, .inl (FH.fast h))), ((ha 4), .inl (c9 0, 3, .inl (FH.home h))), ((ha 5), .inl (c9 0, 3, .inl (FH.own h))), ((ha 6), .inl (c9 0, 3, .inl (FH.had h))), ((ha 7), .inl (c9 0, 2, .inl (FH.place h))), ((ha 8), .inl (c9 0, 2, .inl (FH.left h))), (ta, .inl (c9 4, R.length, .inr (.inr (.inr (.inr (outF R))))))] : va_W) ++ (rowsW c9 10 R ++ F0)) (by omega) (by omega)) 2 (gS whw_48 whw_49 whw_18 whw_50) rfl rfl rfl (by decide +kernel) ⟨Nat.le_of_ble_eq_true rfl, Nat.le_of_ble_eq_true rfl⟩ rfl rfl (Nat.le_of_ble_eq_true rfl) ⟨(by first | exact Nat.le_of_ble_eq_true rfl | omega | (dsimp only; omega)), (by first | exact Nat.le_of_ble_eq_true rfl | omega | (dsimp only; omega))⟩ dX12_acts_702) (fun _ => rfl) 705 rfl (fun ta2 _ => ?_)
      refine v_perm (ws' := [((ha 0), .inr (13, [.int (FH.tol h), .ref (ha 1), .ref (ha 2), .ref (ha 3), .ref (ha 4), .ref (ha 5), .ref (ha 6), .ref (ha 7), .ref (ha 8), .ref ta, .ref ua, .int (FH.seed h), .int (FH.time h), .int (FH.next h)])), ((ha 1), .inl (c9 0, 3, .inl (FH.life h))), ((ha 2), .inl (c9 0, 3, .inl (FH.again h))), ((ha 3), .inl (c9 0, 3, .inl (FH.fast h))), ((ha 4), .inl (c9 0, 3, .inl (FH.home h))), ((ha 5), .inl (c9 0, 3, .inl (FH.own h))), ((ha 6), .inl (c9 0, 3, .inl (FH.had h))), ((ha 7), .inl (c9 0, 2, .inl (FH.place h))), ((ha 8), .inl (c9 0, 2, .inl (FH.left h))), (ta, .inl (c9 4, R.length, .inr (.inr (.inr (.inr (outF R)))))), (ta2, .inl (c9 4, (S.eraseIdx A9.length).length, .inr (.inr (.inr (.inr (outF (S.eraseIdx A9.length)))))))]) (F' := rowsW c9 4 (S.eraseIdx A9.length) ++ (rowsW c9 10 R ++ F0)) (perm_b (perm_is (ws' := [(ta2, .inl (c9 4, (S.eraseIdx A9.length).length, .inr (.inr (.inr (.inr (outF (S.eraseIdx A9.length))))))), ((ha 0), .inr (13, [.int (FH.tol h), .ref (ha 1), .ref (ha 2), .ref (ha 3), .ref (ha 4), .ref (ha 5), .ref (ha 6), .ref (ha 7), .ref (ha 8), .ref ta, .ref ua, .int (FH.seed h), .int (FH.time h), .int (FH.next h)])), ((ha 1), .inl (c9 0, 3, .inl (FH.life h))), ((ha 2), .inl (c9 0, 3, .inl (FH.again h))), ((ha 3), .inl (c9 0, 3, .inl (FH.fast h))), ((ha 4), .inl (c9 0, 3, .inl (FH.home h))), ((ha 5), .inl (c9 0, 3, .inl (FH.own h))), ((ha 6), .inl (c9 0, 3, .inl (FH.had h))), ((ha 7), .inl (c9 0, 2, .inl (FH.place h))), ((ha 8), .inl (c9 0, 2, .inl (FH.left h))), (ta, .inl (c9 4, R.length, .inr (.inr (.inr (.inr (outF R))))))]) [10, 0, 1, 2, 3, 4, 5, 6, 7, 8, 9] rfl 11 rfl rfl)) ?_
      refine v_perm perm_sw ?_
      refine v_put X (C := RX12) (T := TX12) (N := 14) (ci := 13) (ty := tyX12 10) (ws' := [((ha 0), .inr (13, [.int (FH.tol h), .ref (ha 1), .ref (ha 2), .ref (ha 3), .ref (ha 4), .ref (ha 5), .ref (ha 6), .ref (ha 7), .ref (ha 8), .ref ta, .ref ta2, .int (FH.seed h), .int (FH.time h), .int (FH.next h)])), ((ha 1), .inl (c9 0, 3, .inl (FH.life h))), ((ha 2), .inl (c9 0, 3, .inl (FH.again h))), ((ha 3), .inl (c9 0, 3, .inl (FH.fast h))), ((ha 4), .inl (c9 0, 3, .inl (FH.home h))), ((ha 5), .inl (c9 0, 3, .inl (FH.own h))), ((ha 6), .inl (c9 0, 3, .inl (FH.had h))), ((ha 7), .inl (c9 0, 2, .inl (FH.place h))), ((ha 8), .inl (c9 0, 2, .inl (FH.left h))), (ta, .inl (c9 4, R.length, .inr (.inr (.inr (.inr (outF R)))))), (ta2, .inl (c9 4, (S.eraseIdx A9.length).length, .inr (.inr (.inr (.inr (outF (S.eraseIdx A9.length)))))))]) dX12_acts_705 (lay_of layhw_X12) 0 rfl rfl 10 (by decide) tyX12 tyX12_ok nmX12 (mw whw_58) rfl rfl (tyX12_ok 10 (by decide)) rfl rfl (Nat.le_of_ble_eq_true rfl) rfl 708 rfl ?_
      refine v_iinc X (lv' := [(10, .int ((nI A9.length) + (-1))), (9, .int v9), (8, .ref a8), (7, .int (nI at9)), (5, .int (nI (n / 32 / 16))), (4, .int (nI (n / 32 % 3))), (3, .int (nI (n / 32))), (2, .int (nI n)), (1, .ref bs), (0, .ref (ha 0))]) dX12_acts_708 0 rfl ic_m1 (by decide) rfl 711 rfl ?_
      refine v_goto X (tgt := 669) dX12_acts_711 rfl ?_
      refine ih (B := B) (S := (S.eraseIdx A9.length)) (ua := ta2) (by rw [hR9]; exact era_mid) hl (by rw [List.length_eraseIdx_of_lt (by omega)]; omega) (by rw [Int32.sub_eq_add_neg]) (by rw [List.length_append] at hcc; simp only [List.length_singleton] at hcc; omega) (by rw [List.length_append] at hss; simp only [List.length_singleton] at hss; omega) (by rw [flt_rem hlv] at ho; exact ho)
set_option maxRecDepth 100000 in
set_option maxHeartbeats 400000 in
theorem x_pass {p : Program} {l : Launch} {e : Env} {s : State} {m : MethodId} {args : Array Value} {below : List Frame} {meth : Method} {c : Code} {A : Nat → Prop} {G : (Nat → Prop) → State → Heap → Prop} (hG : vG G) (D : va_G) (c9 : Nat → ClassId) {sk sv : Nat → Nat} (hGU : ∀ (A : Nat → Prop) (U : State) (H : Heap), G A U H → vU sk sv A U H) (hGV : ∀ (A : Nat → Prop) (U : State) (H : Heap), G A U H → vV A U H) (X : vX p s m args meth c cX12_acts 11 (some .int) RX12 (wq yX12_acts cX12_acts 11 (some .int)) D (tyA c9) G A) {ha : Nat → Nat} {ta ua : Nat} {h : FH} {R S : List (Nat × Row)} {F0 : va_W} {bs Ls : Nat} {xs : Nat → Int32} (hGS : ∀ (A : Nat → Prop) (U : State) (H : Heap), G A U H → va_T .int bs Ls (fun j => .int (xs j)) A U H) (hLs : Ls < 2 ^ 31) {n : Nat} {o : HA} (hn : n < 2 ^ 31) (hl : R.length ≤ 24) (hl2 : S.length ≤ 30) (hhm : ∀ u, u < 3 → vp_in (FH.home h u) 3) {at9 a8 : Nat} {cells slots : Nat} (hcc : cells ≤ 1) (hss : slots ≤ 10) (ho : hPass h (R.map Prod.snd) (S.map Prod.snd) n = o) : vW p l e { frames := 3, cells := 40, slots := 1300, locals := 77 } s m args below meth c 11 D A (wHF c9 R S F0) cells slots (MQ below (qJ D (tyA c9) A o.1 (fun (u : HS) => u.2.2.1.map Prod.snd = o.2.2.1 ∧ u.2.2.2.map Prod.snd = o.2.2.2) (fun (u : HS) => wH ha c9 u.1 u.2.1 o.2.1 u.2.2.1 u.2.2.2 ++ wHF c9 u.2.2.1 u.2.2.2 F0)) args s 40 1300 A) [((ha 0), .inr (13, [.int (FH.tol h), .ref (ha 1), .ref (ha 2), .ref (ha 3), .ref (ha 4), .ref (ha 5), .ref (ha 6), .ref (ha 7), .ref (ha 8), .ref ta, .ref ua, .int (FH.seed h), .int (FH.time h), .int (FH.next h)])), ((ha 1), .inl (c9 0, 3, .inl (FH.life h))), ((ha 2), .inl (c9 0, 3, .inl (FH.again h))), ((ha 3), .inl (c9 0, 3, .inl (FH.fast h))), ((ha 4), .inl (c9 0, 3, .inl (FH.home h))), ((ha 5), .inl (c9 0, 3, .inl (FH.own h))), ((ha 6), .inl (c9 0, 3, .inl (FH.had h))), ((ha 7), .inl (c9 0, 2, .inl (FH.place h))), ((ha 8), .inl (c9 0, 2, .inl (FH.left h))), (ta, .inl (c9 4, R.length, .inr (.inr (.inr (.inr (outF R)))))), (ua, .inl (c9 4, S.length, .inr (.inr (.inr (.inr (outF S))))))] 625 [(8, .ref a8), (7, .int (nI at9)), (5, .int (nI (n / 32 / 16))), (4, .int (nI (n / 32 % 3))), (3, .int (nI (n / 32))), (2, .int (nI n)), (1, .ref bs), (0, .ref (ha 0))] [] := by
  have hov : va_AI s := (hGV A s s.heap X.2.2.2.2.2.2.2.2.2.2).2
  have TS := hGS A s s.heap X.2.2.2.2.2.2.2.2.2.2
  refine v_aload_n X dX12_acts_625 7 rfl rfl 626 rfl ?_
  refine v_gj X (S := Unit) (ws' := fun _ => [((ha 0), .inr (13, [.int (FH.tol h), .ref (ha 1), .ref (ha 2), .ref (ha 3), .ref (ha 4), .ref (ha 5), .ref (ha 6), .ref (ha 7), .ref (ha 8), .ref ta, .ref ua, .int (FH.seed h), .int (FH.time h), .int (FH.next h)])), ((ha 1), .inl (c9 0, 3, .inl (FH.life h))), ((ha 2), .inl (c9 0, 3, .inl (FH.again h))), ((ha 3), .inl (c9 0, 3, .inl (FH.fast h))), ((ha 4), .inl (c9 0, 3, .inl (FH.home h))), ((ha 5), .inl (c9 0, 3, .inl (FH.own h))), ((ha 6), .inl (c9 0, 3, .inl (FH.had h))), ((ha 7), .inl (c9 0, 2, .inl (FH.place h))), ((ha 8), .inl (c9 0, 2, .inl (FH.left h))), (ta, .inl (c9 4, R.length, .inr (.inr (.inr (.inr (outF R)))))), (ua, .inl (c9 4, S.length, .inr (.inr (.inr (.inr (outF S))))))]) (F' := fun _ => wHF c9 R S F0) (r_V X (C := RX12) (As := []) (rest := []) (r_pc X) (c_valid l hG D c9 hGU hGV (ha := ha) (ta := ta) (ua := ua) (h := h) (R := R) (S := S) (F0 := F0) (by omega)) 0 (gV whw_54 whw_55 whw_56 whw_18 whw_57) rfl rfl rfl ⟨rfl, by decide +kernel⟩ ⟨Nat.le_of_ble_eq_true rfl, Nat.le_of_ble_eq_true rfl⟩ (r_recv X (ci := 13) 0 rfl rfl) rfl rfl (Nat.le_of_ble_eq_true rfl) ⟨(by first | exact Nat.le_of_ble_eq_true rfl | omega | (dsimp only; omega)), (by first | exact Nat.le_of_ble_eq_true rfl | omega | (dsimp only; omega))⟩ dX12_acts_626) (fun _ => rfl) 629 rfl (fun _ _ => ?_)
  refine v_istore X (lv' := [(9, .int (hVal h (R.map Prod.snd))), (8, .ref a8), (7, .int (nI at9)), (5, .int (nI (n / 32 / 16))), (4, .int (nI (n / 32 % 3))), (3, .int (nI (n / 32))), (2, .int (nI n)), (1, .ref bs), (0, .ref (ha 0))]) dX12_acts_629 (by decide) rfl 631 rfl ?_
  refine v_aload_n X dX12_acts_631 8 rfl rfl 632 rfl ?_
  refine v_sub (lv' := [(9, .int (hVal h (R.map Prod.snd))), (8, .ref a8), (7, .int (nI at9)), (5, .int (nI (n / 32 / 16))), (4, .int (nI (n / 32 % 3))), (3, .int (nI (n / 32))), (2, .int (nI n)), (1, .ref bs), (0, .ref (ha 0))]) [0, 1, 2, 3, 4, 5, 6, 7, 8] rfl ?_
  refine v_dup X dX12_acts_632 rfl 633 rfl ?_
  refine v_get X (C := RX12) (T := TX12) (N := 14) (ci := 13) (v := _) dX12_acts_633 (lay_of layhw_X12) 0 rfl rfl 12 (by decide) (mw whw_21) rfl rfl 636 rfl ?_
  refine v_iconst X dX12_acts_636 ic_1 637 rfl ?_
  refine v_iload X dX12_acts_637 3 rfl 639 rfl ?_
  refine v_iload_n X dX12_acts_639 6 rfl rfl 640 rfl ?_
  refine v_bipush X dX12_acts_640 bp_32 642 rfl ?_
  refine v_irem X dX12_acts_642 (by decide) 643 rfl ?_
  rw [show irm (nI n) 32 = nI (n % 32) from irm_nI (by omega) (by decide) (by decide)]
  refine v_bipush X dX12_acts_643 bp_30 645 rfl ?_
  by_cases h30 : n % 32 < 30
  · refine v_icmp_ge X (tgt := 652) dX12_acts_645 rfl 648 rfl (a := none) (b := some ()) (o := ()) (if_neg (show ¬ nI 30 ≤ nI (n % 32) from nI_ge h30 (by decide))) (fun h => nomatch h) (fun _ => ?_)
    refine v_iconst X dX12_acts_648 ic_4 649 rfl ?_
    refine v_goto X (tgt := 654) dX12_acts_649 rfl ?_
    refine v_irem X dX12_acts_654 (by decide) 655 rfl ?_
    rw [show irm (nI (n / 32 / 16)) 4 = nI ((n / 32 / 16) % 4) from irm_nI (by omega) (by decide) (by decide)]
    refine v_iadd X dX12_acts_655 656 rfl ?_
    refine v_iadd X dX12_acts_656 657 rfl ?_
    refine v_eq (st2 := [.int (FH.time h + (1 + nI (n / 32 / 16 % (if n % 32 < 30 then 4 else 40)))), .ref (ha 0)]) rfl rfl rfl (by rw [if_pos h30]) ?_
    refine v_put X (C := RX12) (T := TX12) (N := 14) (ci := 13) (ty := tyX12 12) (ws' := [((ha 0), .inr (13, [.int (FH.tol h), .ref (ha 1), .ref (ha 2), .ref (ha 3), .ref (ha 4), .ref (ha 5), .ref (ha 6), .ref (ha 7), .ref (ha 8), .ref ta, .ref ua, .int (FH.seed h), .int (FH.time h + (1 + nI (n / 32 / 16 % (if n % 32 < 30 then 4 else 40)))), .int (FH.next h)])), ((ha 1), .inl (c9 0, 3, .inl (FH.life h))), ((ha 2), .inl (c9 0, 3, .inl (FH.again h))), ((ha 3), .inl (c9 0, 3, .inl (FH.fast h))), ((ha 4), .inl (c9 0, 3, .inl (FH.home h))), ((ha 5), .inl (c9 0, 3, .inl (FH.own h))), ((ha 6), .inl (c9 0, 3, .inl (FH.had h))), ((ha 7), .inl (c9 0, 2, .inl (FH.place h))), ((ha 8), .inl (c9 0, 2, .inl (FH.left h))), (ta, .inl (c9 4, R.length, .inr (.inr (.inr (.inr (outF R)))))), (ua, .inl (c9 4, S.length, .inr (.inr (.inr (.inr (outF S))))))]) dX12_acts_657 (lay_of layhw_X12) 0 rfl rfl 12 (by decide) tyX12 tyX12_ok nmX12 (mw whw_21) rfl rfl (tyX12_ok 12 (by decide)) rfl rfl (Nat.le_of_ble_eq_true rfl) rfl 660 rfl ?_
    refine v_aload_n X dX12_acts_660 8 rfl rfl 661 rfl ?_
    refine v_get X (C := RX12) (T := TX12) (N := 14) (ci := 13) (v := _) dX12_acts_661 (lay_of layhw_X12) 0 rfl rfl 10 (by decide) (mw whw_58) rfl rfl 664 rfl ?_
    refine v_alen X dX12_acts_664 10 4 rfl rfl rfl 665 rfl ?_
    refine v_iconst X dX12_acts_665 ic_1 666 rfl ?_
    refine v_isub X dX12_acts_666 667 rfl ?_
    refine v_istore X (lv' := [(10, .int ((Int32.ofNat S.length) - 1)), (9, .int (hVal h (R.map Prod.snd))), (8, .ref a8), (7, .int (nI at9)), (5, .int (nI (n / 32 / 16))), (4, .int (nI (n / 32 % 3))), (3, .int (nI (n / 32))), (2, .int (nI n)), (1, .ref bs), (0, .ref (ha 0))]) dX12_acts_667 (by decide) rfl 669 rfl ?_
    refine v_sub (lv' := [(10, .int ((Int32.ofNat S.length) - 1)), (9, .int (hVal h (R.map Prod.snd))), (8, .ref a8), (7, .int (nI at9)), (5, .int (nI (n / 32 / 16))), (4, .int (nI (n / 32 % 3))), (3, .int (nI (n / 32))), (2, .int (nI n)), (1, .ref bs), (0, .ref (ha 0))]) [0, 1, 2, 3, 4, 5, 6, 7, 8, 9] rfl ?_
    exact x_passL hG D c9 hGU hGV X hGS hLs hn (h := (FH.tol h, FH.life h, FH.again h, FH.fast h, FH.home h, FH.own h, FH.had h, FH.place h, FH.left h, FH.seed h, (FH.time h + (1 + nI (n / 32 / 16 % (if n % 32 < 30 then 4 else 40)))), FH.next h)) (v9 := hVal h (R.map Prod.snd)) S.length S [] rfl (by rw [List.append_nil]) hl hl2 rfl (by omega) (by omega) (by rw [← ho, hPass, List.map_nil, List.append_nil]; rfl)
  · refine v_icmp_ge X (tgt := 652) dX12_acts_645 rfl 648 rfl (a := some ()) (b := none) (o := ()) (if_pos (show nI 30 ≤ nI (n % 32) from nI_le (by omega) (by omega))) (fun _ => ?_) (fun h => nomatch h)
    refine v_bipush X dX12_acts_652 bp_40 654 rfl ?_
    refine v_irem X dX12_acts_654 (by decide) 655 rfl ?_
    rw [show irm (nI (n / 32 / 16)) 40 = nI ((n / 32 / 16) % 40) from irm_nI (by omega) (by decide) (by decide)]
    refine v_iadd X dX12_acts_655 656 rfl ?_
    refine v_iadd X dX12_acts_656 657 rfl ?_
    refine v_eq (st2 := [.int (FH.time h + (1 + nI (n / 32 / 16 % (if n % 32 < 30 then 4 else 40)))), .ref (ha 0)]) rfl rfl rfl (by rw [if_neg h30]) ?_
    refine v_put X (C := RX12) (T := TX12) (N := 14) (ci := 13) (ty := tyX12 12) (ws' := [((ha 0), .inr (13, [.int (FH.tol h), .ref (ha 1), .ref (ha 2), .ref (ha 3), .ref (ha 4), .ref (ha 5), .ref (ha 6), .ref (ha 7), .ref (ha 8), .ref ta, .ref ua, .int (FH.seed h), .int (FH.time h + (1 + nI (n / 32 / 16 % (if n % 32 < 30 then 4 else 40)))), .int (FH.next h)])), ((ha 1), .inl (c9 0, 3, .inl (FH.life h))), ((ha 2), .inl (c9 0, 3, .inl (FH.again h))), ((ha 3), .inl (c9 0, 3, .inl (FH.fast h))), ((ha 4), .inl (c9 0, 3, .inl (FH.home h))), ((ha 5), .inl (c9 0, 3, .inl (FH.own h))), ((ha 6), .inl (c9 0, 3, .inl (FH.had h))), ((ha 7), .inl (c9 0, 2, .inl (FH.place h))), ((ha 8), .inl (c9 0, 2, .inl (FH.left h))), (ta, .inl (c9 4, R.length, .inr (.inr (.inr (.inr (outF R)))))), (ua, .inl (c9 4, S.length, .inr (.inr (.inr (.inr (outF S))))))]) dX12_acts_657 (lay_of layhw_X12) 0 rfl rfl 12 (by decide) tyX12 tyX12_ok nmX12 (mw whw_21) rfl rfl (tyX12_ok 12 (by decide)) rfl rfl (Nat.le_of_ble_eq_true rfl) rfl 660 rfl ?_
    refine v_aload_n X dX12_acts_660 8 rfl rfl 661 rfl ?_
    refine v_get X (C := RX12) (T := TX12) (N := 14) (ci := 13) (v := _) dX12_acts_661 (lay_of layhw_X12) 0 rfl rfl 10 (by decide) (mw whw_58) rfl rfl 664 rfl ?_
    refine v_alen X dX12_acts_664 10 4 rfl rfl rfl 665 rfl ?_
    refine v_iconst X dX12_acts_665 ic_1 666 rfl ?_
    refine v_isub X dX12_acts_666 667 rfl ?_
    refine v_istore X (lv' := [(10, .int ((Int32.ofNat S.length) - 1)), (9, .int (hVal h (R.map Prod.snd))), (8, .ref a8), (7, .int (nI at9)), (5, .int (nI (n / 32 / 16))), (4, .int (nI (n / 32 % 3))), (3, .int (nI (n / 32))), (2, .int (nI n)), (1, .ref bs), (0, .ref (ha 0))]) dX12_acts_667 (by decide) rfl 669 rfl ?_
    refine v_sub (lv' := [(10, .int ((Int32.ofNat S.length) - 1)), (9, .int (hVal h (R.map Prod.snd))), (8, .ref a8), (7, .int (nI at9)), (5, .int (nI (n / 32 / 16))), (4, .int (nI (n / 32 % 3))), (3, .int (nI (n / 32))), (2, .int (nI n)), (1, .ref bs), (0, .ref (ha 0))]) [0, 1, 2, 3, 4, 5, 6, 7, 8, 9] rfl ?_
    exact x_passL hG D c9 hGU hGV X hGS hLs hn (h := (FH.tol h, FH.life h, FH.again h, FH.fast h, FH.home h, FH.own h, FH.had h, FH.place h, FH.left h, FH.seed h, (FH.time h + (1 + nI (n / 32 / 16 % (if n % 32 < 30 then 4 else 40)))), FH.next h)) (v9 := hVal h (R.map Prod.snd)) S.length S [] rfl (by rw [List.append_nil]) hl hl2 rfl (by omega) (by omega) (by rw [← ho, hPass, List.map_nil, List.append_nil]; rfl)
