/-! The Hand makes, derives, gets, counts. -/
abbrev HO : Type := Int32 × FH × List Row
abbrev HS : Type := Nat × Nat × List (Nat × Row) × List (Nat × Row)
def mkRow (h : FH) (ow re sv en la rn : Int32) : Row := upd (upd (upd (upd (upd (upd (upd (upd (upd (upd (fun _ => 0) 0 (FH.next h)) 1 (if 0 ≤ sv then 1 else 0)) 2 ow) 3 re) 4 sv) 5 (FH.time h)) 6 en) 7 (if rn = 1 then imax la en else en)) 8 (hSeed h)) 9 rn
def hMakes (h : FH) (T : List Row) (ow re sv en la rn : Int32) : HO := (FH.next h + 1 - 1, (FH.tol h, FH.life h, FH.again h, FH.fast h, FH.home h, FH.own h, FH.had h, FH.place h, FH.left h, hSeed h, FH.time h, (FH.next h + 1)), T ++ [mkRow h ow re sv en la rn])
def hDer (h : FH) (T : List Row) (g : Row) (re sv : Int32) : HO := if hSk h (g 2) (g 3) = true ∨ T.length = 24 then (-9, h, T) else hMakes h T (g 2) re sv (imin (FH.time h + FH.life h re.toNatClampNeg) (g 6)) (imin (FH.time h + FH.again h re.toNatClampNeg) (g 7)) (g 9)
def useRow (h : FH) (g : Row) : Row := upd (upd (upd (upd (fun _ => 0) 0 (g 2)) 1 (g 4)) 2 (FH.time h + FH.own h (g 2).toNatClampNeg)) 3 (FH.time h)
def hits (h : FH) (g w : Row) : Bool := decide (w 0 = g 2) && (decide (w 1 = g 4) && decide (w 2 = FH.time h + FH.own h (g 2).toNatClampNeg))
def hCut (E : List Row) : List Row := if 30 < E.length then E.eraseIdx 0 else E
def hGets (h : FH) (E : List Row) (g : Row) : HO :=
  if g 1 ≠ 1 ∨ g 6 ≤ FH.time h ∨ hSk h (g 2) (g 3) = true then (-9, h, E)
  else if E.any (hits h g) = true then (-9, h, E)
  else if FH.left h (g 4).toNatClampNeg = 0 then (-9, h, E)
  else (FH.had h (g 2).toNatClampNeg + 1, (FH.tol h, FH.life h, FH.again h, FH.fast h, FH.home h, FH.own h, (upd (FH.had h) (g 2).toNatClampNeg (FH.had h (g 2).toNatClampNeg + 1)), FH.place h, (upd (FH.left h) (g 4).toNatClampNeg (FH.left h (g 4).toNatClampNeg - 1)), FH.seed h, FH.time h, FH.next h), hCut (E ++ [useRow h g]))
def live (t : Int32) (w : Row) : Bool := decide (t < w 6)
def hVal (h : FH) (T : List Row) : Int32 := nI (T.countP (live (FH.time h)))
theorem cnt_succ {R : List (Nat × Row)} {p : Row → Bool} {k a : Nat} {g : Row} (h : R[k]? = some (a, g)) : ((R.map Prod.snd).take (k + 1)).countP p = ((R.map Prod.snd).take k).countP p + (if p g = true then 1 else 0) := by
  have h1 : (R.map Prod.snd)[k]? = some g := by rw [List.getElem?_map, h]; rfl
  rw [List.take_add_one, h1, List.countP_append]
  simp [List.countP_cons]
theorem any_succ {S : List (Nat × Row)} {p : Row → Bool} {k a : Nat} {g : Row} (h : S[k]? = some (a, g)) (h0 : ((S.map Prod.snd).take k).any p = false) (h1 : p g = false) : ((S.map Prod.snd).take (k + 1)).any p = false := by
  have h2 : (S.map Prod.snd)[k]? = some g := by rw [List.getElem?_map, h]; rfl
  rw [List.take_add_one, h2, List.any_append, h0]
  simp [h1]
theorem any_hit {S : List (Nat × Row)} {p : Row → Bool} {k a : Nat} {g : Row} (h : S[k]? = some (a, g)) (h1 : p g = true) : (S.map Prod.snd).any p = true := by
  have h2 : (S.map Prod.snd)[k]? = some g := by rw [List.getElem?_map, h]; rfl
  exact List.any_eq_true.mpr ⟨g, List.mem_of_getElem? h2, h1⟩
theorem why_0 : Cond.methodLink RX12 74 yX12_draws ∈ Wg := t4_in (List.mem_of_getElem? (i := 199) rfl) rfl
theorem why_1 : Cond.instanceMethod yX12_draws ∈ Wg := t4_in (List.mem_of_getElem? (i := 201) rfl) rfl
theorem why_2 : Cond.selects RX12 yX12_draws yX12_draws ∈ Wg := p3_in (q := (⟨"TicketGateLaw$Hand", "draws", "()I"⟩, 14)) (List.mem_of_getElem? (i := 0) rfl)
theorem why_3 : Cond.initialized RX12 ∈ Wg := t1_in (List.mem_of_getElem? (i := 29) rfl) rfl
theorem why_4 : Cond.code yX12_draws cX12_draws 1 (some .int) ∈ Wg := t4_in (List.mem_of_getElem? (i := 202) rfl) rfl
theorem why_5 : Cond.methodLink RX12 78 yX12_with ∈ Wg := t4_in (List.mem_of_getElem? (i := 203) rfl) rfl
theorem why_6 : Cond.static yX12_with ∈ Wg := t4_in (List.mem_of_getElem? (i := 204) rfl) rfl
theorem why_7 : Cond.code yX12_with cX12_with 4 (some (.array (.array .int))) ∈ Wg := t4_in (List.mem_of_getElem? (i := 205) rfl) rfl
theorem why_8 : Cond.fieldLink RX12 35 "TicketGateLaw$Hand" "ticket" "[[I" ∈ Wg := t4_in (List.mem_of_getElem? (i := 151) rfl) rfl
theorem why_9 : Cond.laysFinal RX12 "TicketGateLaw$Hand" "tolerance" "I" ∈ Wg := t4_in (List.mem_of_getElem? (i := 156) rfl) rfl
theorem why_10 : Cond.laysFinal RX12 "TicketGateLaw$Hand" "life" "[I" ∈ Wg := t4_in (List.mem_of_getElem? (i := 158) rfl) rfl
theorem why_11 : Cond.laysFinal RX12 "TicketGateLaw$Hand" "again" "[I" ∈ Wg := t4_in (List.mem_of_getElem? (i := 160) rfl) rfl
theorem why_12 : Cond.laysFinal RX12 "TicketGateLaw$Hand" "fast" "[I" ∈ Wg := t4_in (List.mem_of_getElem? (i := 162) rfl) rfl
theorem why_13 : Cond.laysFinal RX12 "TicketGateLaw$Hand" "home" "[I" ∈ Wg := t4_in (List.mem_of_getElem? (i := 164) rfl) rfl
theorem why_14 : Cond.laysFinal RX12 "TicketGateLaw$Hand" "own" "[I" ∈ Wg := t4_in (List.mem_of_getElem? (i := 166) rfl) rfl
theorem why_15 : Cond.laysFinal RX12 "TicketGateLaw$Hand" "had" "[I" ∈ Wg := t4_in (List.mem_of_getElem? (i := 168) rfl) rfl
theorem why_16 : Cond.laysFinal RX12 "TicketGateLaw$Hand" "place" "[I" ∈ Wg := t4_in (List.mem_of_getElem? (i := 170) rfl) rfl
theorem why_17 : Cond.laysFinal RX12 "TicketGateLaw$Hand" "left" "[I" ∈ Wg := t4_in (List.mem_of_getElem? (i := 172) rfl) rfl
theorem why_18 : Cond.lays RX12 "TicketGateLaw$Hand" "ticket" "[[I" ∈ Wg := t4_in (List.mem_of_getElem? (i := 174) rfl) rfl
theorem why_19 : Cond.lays RX12 "TicketGateLaw$Hand" "use" "[[I" ∈ Wg := t4_in (List.mem_of_getElem? (i := 176) rfl) rfl
theorem why_20 : Cond.lays RX12 "TicketGateLaw$Hand" "seed" "I" ∈ Wg := t4_in (List.mem_of_getElem? (i := 178) rfl) rfl
theorem why_21 : Cond.lays RX12 "TicketGateLaw$Hand" "time" "I" ∈ Wg := t4_in (List.mem_of_getElem? (i := 180) rfl) rfl
theorem why_22 : Cond.lays RX12 "TicketGateLaw$Hand" "next" "I" ∈ Wg := t4_in (List.mem_of_getElem? (i := 182) rfl) rfl
theorem why_23 : Cond.fieldLink RX12 64 "TicketGateLaw$Hand" "next" "I" ∈ Wg := t4_in (List.mem_of_getElem? (i := 155) rfl) rfl
theorem why_24 : Cond.fieldLink RX12 67 "TicketGateLaw$Hand" "time" "I" ∈ Wg := t4_in (List.mem_of_getElem? (i := 154) rfl) rfl
theorem why_25 : Cond.methodLink RX12 70 Lib.Math.max.name ∈ Wg := t4_in (List.mem_of_getElem? (i := 198) rfl) rfl
theorem why_26 : Cond.static Lib.Math.max.name ∈ Wg := t1_in (List.mem_of_getElem? (i := 48) rfl) rfl
theorem why_27 : Cond.initialized "java/lang/Math" ∈ Wg := t1_in (List.mem_of_getElem? (i := 3) rfl) rfl
theorem why_28 : Cond.code Lib.Math.max.name Lib.Math.max.code 2 (some .int) ∈ Wg := t1_in (List.mem_of_getElem? (i := 49) rfl) rfl
theorem why_29 : Cond.arrayClass .int ∈ Wg := t1_in (List.mem_of_getElem? (i := 57) rfl) rfl
theorem why_30 : Cond.methodLink RX12 82 yX12_skewed ∈ Wg := t4_in (List.mem_of_getElem? (i := 189) rfl) rfl
theorem why_31 : Cond.instanceMethod yX12_skewed ∈ Wg := t4_in (List.mem_of_getElem? (i := 191) rfl) rfl
theorem why_32 : Cond.selects RX12 yX12_skewed yX12_skewed ∈ Wg := p2_in (q := (⟨"TicketGateLaw$Hand", "skewed", "(II)Z"⟩, 14)) (List.mem_of_getElem? (i := 14) rfl)
theorem why_33 : Cond.code yX12_skewed cX12_skewed 3 (some .boolean) ∈ Wg := t4_in (List.mem_of_getElem? (i := 192) rfl) rfl
theorem why_34 : Cond.fieldLink RX12 7 "TicketGateLaw$Hand" "life" "[I" ∈ Wg := t4_in (List.mem_of_getElem? (i := 143) rfl) rfl
theorem why_35 : Cond.methodLink RX12 86 Lib.Math.min.name ∈ Wg := t4_in (List.mem_of_getElem? (i := 214) rfl) rfl
theorem why_36 : Cond.static Lib.Math.min.name ∈ Wg := t2_in (List.mem_of_getElem? (i := 76) rfl) rfl
theorem why_37 : Cond.code Lib.Math.min.name Lib.Math.min.code 2 (some .int) ∈ Wg := t2_in (List.mem_of_getElem? (i := 77) rfl) rfl
theorem why_38 : Cond.fieldLink RX12 13 "TicketGateLaw$Hand" "again" "[I" ∈ Wg := t4_in (List.mem_of_getElem? (i := 144) rfl) rfl
theorem why_39 : Cond.methodLink RX12 89 yX12_makes ∈ Wg := t4_in (List.mem_of_getElem? (i := 194) rfl) rfl
theorem why_40 : Cond.instanceMethod yX12_makes ∈ Wg := t4_in (List.mem_of_getElem? (i := 196) rfl) rfl
theorem why_41 : Cond.selects RX12 yX12_makes yX12_makes ∈ Wg := p2_in (q := (⟨"TicketGateLaw$Hand", "makes", "(IIIIII)I"⟩, 14)) (List.mem_of_getElem? (i := 15) rfl)
theorem why_42 : Cond.code yX12_makes cX12_makes 7 (some .int) ∈ Wg := t4_in (List.mem_of_getElem? (i := 197) rfl) rfl
theorem layhy_X12 : ∀ k, k < 14 → u_lay RX12 TX12 k ∈ Wg := fun k hk => match k, hk with
  | 0, _ => why_9
  | 1, _ => why_10
  | 2, _ => why_11
  | 3, _ => why_12
  | 4, _ => why_13
  | 5, _ => why_14
  | 6, _ => why_15
  | 7, _ => why_16
  | 8, _ => why_17
  | 9, _ => why_18
  | 10, _ => why_19
  | 11, _ => why_20
  | 12, _ => why_21
  | 13, _ => why_22
  | k + 14, h => absurd h (by omega)
set_option maxRecDepth 100000 in
set_option maxHeartbeats 400000 in
theorem h_makes74 {p : Program} {l : Launch} {e : Env} {s : State} {m : MethodId} {args : Array Value} {below : List Frame} {meth : Method} {c : Code} {A : Nat → Prop} {G : (Nat → Prop) → State → Heap → Prop} (hG : vG G) (D : va_G) (c9 : Nat → ClassId) {sk sv : Nat → Nat} (hGU : ∀ (A : Nat → Prop) (U : State) (H : Heap), G A U H → vU sk sv A U H) (hGV : ∀ (A : Nat → Prop) (U : State) (H : Heap), G A U H → vV A U H) (X : vX p s m args meth c cX12_makes 7 (some .int) RX12 (wq yX12_makes cX12_makes 7 (some .int)) D (tyA c9) G A) {ha : Nat → Nat} {ta ua : Nat} {h : FH} {R S : List (Nat × Row)} {F0 : va_W} {ow re sv en la rn : Int32} {row : Nat} (hl : R.length ≤ 30) : vW p l e { frames := 1, cells := 2, slots := 50, locals := 23 } s m args below meth c 7 D A (wHF c9 R S F0) 1 10 (MQ below (qJ D (tyA c9) A (hMakes h (R.map Prod.snd) ow re sv en la rn).1 (fun (u : HS) => u.2.2.1.map Prod.snd = (hMakes h (R.map Prod.snd) ow re sv en la rn).2.2 ∧ u.2.2.2.map Prod.snd = (S.map Prod.snd)) (fun (u : HS) => wH ha c9 u.1 u.2.1 (hMakes h (R.map Prod.snd) ow re sv en la rn).2.1 u.2.2.1 u.2.2.2 ++ wHF c9 u.2.2.1 u.2.2.2 F0)) args s 2 50 A) [((ha 0), .inr (13, [.int (FH.tol h), .ref (ha 1), .ref (ha 2), .ref (ha 3), .ref (ha 4), .ref (ha 5), .ref (ha 6), .ref (ha 7), .ref (ha 8), .ref ta, .ref ua, .int (FH.seed h), .int (FH.time h), .int (FH.next h)])), ((ha 1), .inl (c9 0, 3, .inl (FH.life h))), ((ha 2), .inl (c9 0, 3, .inl (FH.again h))), ((ha 3), .inl (c9 0, 3, .inl (FH.fast h))), ((ha 4), .inl (c9 0, 3, .inl (FH.home h))), ((ha 5), .inl (c9 0, 3, .inl (FH.own h))), ((ha 6), .inl (c9 0, 3, .inl (FH.had h))), ((ha 7), .inl (c9 0, 2, .inl (FH.place h))), ((ha 8), .inl (c9 0, 2, .inl (FH.left h))), (ta, .inl (c9 4, R.length, .inr (.inr (.inr (.inr (outF R)))))), (ua, .inl (c9 4, S.length, .inr (.inr (.inr (.inr (outF S)))))), (row, .inl (c9 0, 10, .inl (upd (upd (upd (upd (upd (upd (upd (fun _ => 0) 0 (FH.next h)) 1 (if 0 ≤ sv then 1 else 0)) 2 ow) 3 re) 4 sv) 5 (FH.time h)) 6 en)))] 74 [(6, .int rn), (5, .int la), (4, .int en), (3, .int sv), (2, .int re), (1, .int ow), (0, .ref (ha 0))] [.int (if rn = 1 then imax la en else en), .int 7, .ref row, .ref row, .ref ta, .ref (ha 0)] := by
  have hov : va_AI s := (hGV A s s.heap X.2.2.2.2.2.2.2.2.2.2).2
  refine v_iast X (ws' := [((ha 0), .inr (13, [.int (FH.tol h), .ref (ha 1), .ref (ha 2), .ref (ha 3), .ref (ha 4), .ref (ha 5), .ref (ha 6), .ref (ha 7), .ref (ha 8), .ref ta, .ref ua, .int (FH.seed h), .int (FH.time h), .int (FH.next h)])), ((ha 1), .inl (c9 0, 3, .inl (FH.life h))), ((ha 2), .inl (c9 0, 3, .inl (FH.again h))), ((ha 3), .inl (c9 0, 3, .inl (FH.fast h))), ((ha 4), .inl (c9 0, 3, .inl (FH.home h))), ((ha 5), .inl (c9 0, 3, .inl (FH.own h))), ((ha 6), .inl (c9 0, 3, .inl (FH.had h))), ((ha 7), .inl (c9 0, 2, .inl (FH.place h))), ((ha 8), .inl (c9 0, 2, .inl (FH.left h))), (ta, .inl (c9 4, R.length, .inr (.inr (.inr (.inr (outF R)))))), (ua, .inl (c9 4, S.length, .inr (.inr (.inr (.inr (outF S)))))), (row, .inl (c9 0, 10, .inl (upd (upd (upd (upd (upd (upd (upd (upd (fun _ => 0) 0 (FH.next h)) 1 (if 0 ≤ sv then 1 else 0)) 2 ow) 3 re) 4 sv) 5 (FH.time h)) 6 en) 7 (if rn = 1 then imax la en else en))))]) dX12_makes_74 11 0 rfl rfl (wr_nI9 (f := (upd (upd (upd (upd (upd (upd (upd (fun _ => 0) 0 (FH.next h)) 1 (if 0 ≤ sv then 1 else 0)) 2 ow) 3 re) 4 sv) 5 (FH.time h)) 6 en)) (k := 7) (show 7 < 10 by decide) (by decide)) rfl 75 rfl ?_
  refine v_dup X dX12_makes_75 rfl 76 rfl ?_
  refine v_bipush X dX12_makes_76 bp_8 78 rfl ?_
  refine v_aload_n X dX12_makes_78 6 rfl rfl 79 rfl ?_
  refine v_callVi X (C := RX12) (ci := 13) (T := TX12) (As := []) (rest := [.int 8, .ref row, .ref row, .ref ta, .ref (ha 0)]) (ws' := [((ha 0), .inr (13, [.int (FH.tol h), .ref (ha 1), .ref (ha 2), .ref (ha 3), .ref (ha 4), .ref (ha 5), .ref (ha 6), .ref (ha 7), .ref (ha 8), .ref ta, .ref ua, .int (hSeed h), .int (FH.time h), .int (FH.next h)])), ((ha 1), .inl (c9 0, 3, .inl (FH.life h))), ((ha 2), .inl (c9 0, 3, .inl (FH.again h))), ((ha 3), .inl (c9 0, 3, .inl (FH.fast h))), ((ha 4), .inl (c9 0, 3, .inl (FH.home h))), ((ha 5), .inl (c9 0, 3, .inl (FH.own h))), ((ha 6), .inl (c9 0, 3, .inl (FH.had h))), ((ha 7), .inl (c9 0, 2, .inl (FH.place h))), ((ha 8), .inl (c9 0, 2, .inl (FH.left h))), (ta, .inl (c9 4, R.length, .inr (.inr (.inr (.inr (outF R)))))), (ua, .inl (c9 4, S.length, .inr (.inr (.inr (.inr (outF S)))))), (row, .inl (c9 0, 10, .inl (upd (upd (upd (upd (upd (upd (upd (upd (fun _ => 0) 0 (FH.next h)) 1 (if 0 ≤ sv then 1 else 0)) 2 ow) 3 re) 4 sv) 5 (FH.time h)) 6 en) 7 (if rn = 1 then imax la en else en))))]) (c_draws l hG D c9 hGU hGV (ha := ha) (ta := ta) (ua := ua) (h := h) (R := R) (S := S)) 0 (gV why_0 why_1 why_2 why_3 why_4) rfl rfl rfl ⟨rfl, by decide +kernel⟩ ⟨Nat.le_of_ble_eq_true rfl, Nat.le_of_ble_eq_true rfl⟩ 0 rfl rfl rfl rfl (Nat.le_of_ble_eq_true rfl) ⟨(by first | exact Nat.le_of_ble_eq_true rfl | omega | (dsimp only; omega)), (by first | exact Nat.le_of_ble_eq_true rfl | omega | (dsimp only; omega))⟩ [0, 1, 2, 3, 4, 5, 6, 7, 8, 9, 10] [11] [1, 2, 3, 4, 5, 6, 7, 8, 9, 10, 11, 0] rfl rfl rfl rfl dX12_makes_79 82 rfl ?_
  refine v_iast X (ws' := [((ha 0), .inr (13, [.int (FH.tol h), .ref (ha 1), .ref (ha 2), .ref (ha 3), .ref (ha 4), .ref (ha 5), .ref (ha 6), .ref (ha 7), .ref (ha 8), .ref ta, .ref ua, .int (hSeed h), .int (FH.time h), .int (FH.next h)])), ((ha 1), .inl (c9 0, 3, .inl (FH.life h))), ((ha 2), .inl (c9 0, 3, .inl (FH.again h))), ((ha 3), .inl (c9 0, 3, .inl (FH.fast h))), ((ha 4), .inl (c9 0, 3, .inl (FH.home h))), ((ha 5), .inl (c9 0, 3, .inl (FH.own h))), ((ha 6), .inl (c9 0, 3, .inl (FH.had h))), ((ha 7), .inl (c9 0, 2, .inl (FH.place h))), ((ha 8), .inl (c9 0, 2, .inl (FH.left h))), (ta, .inl (c9 4, R.length, .inr (.inr (.inr (.inr (outF R)))))), (ua, .inl (c9 4, S.length, .inr (.inr (.inr (.inr (outF S)))))), (row, .inl (c9 0, 10, .inl (upd (upd (upd (upd (upd (upd (upd (upd (upd (fun _ => 0) 0 (FH.next h)) 1 (if 0 ≤ sv then 1 else 0)) 2 ow) 3 re) 4 sv) 5 (FH.time h)) 6 en) 7 (if rn = 1 then imax la en else en)) 8 (hSeed h))))]) dX12_makes_82 11 0 rfl rfl (wr_nI9 (f := (upd (upd (upd (upd (upd (upd (upd (upd (fun _ => 0) 0 (FH.next h)) 1 (if 0 ≤ sv then 1 else 0)) 2 ow) 3 re) 4 sv) 5 (FH.time h)) 6 en) 7 (if rn = 1 then imax la en else en))) (k := 8) (show 8 < 10 by decide) (by decide)) rfl 83 rfl ?_
  refine v_dup X dX12_makes_83 rfl 84 rfl ?_
  refine v_bipush X dX12_makes_84 bp_9 86 rfl ?_
  refine v_iload X dX12_makes_86 0 rfl 88 rfl ?_
  refine v_iast X (ws' := [((ha 0), .inr (13, [.int (FH.tol h), .ref (ha 1), .ref (ha 2), .ref (ha 3), .ref (ha 4), .ref (ha 5), .ref (ha 6), .ref (ha 7), .ref (ha 8), .ref ta, .ref ua, .int (hSeed h), .int (FH.time h), .int (FH.next h)])), ((ha 1), .inl (c9 0, 3, .inl (FH.life h))), ((ha 2), .inl (c9 0, 3, .inl (FH.again h))), ((ha 3), .inl (c9 0, 3, .inl (FH.fast h))), ((ha 4), .inl (c9 0, 3, .inl (FH.home h))), ((ha 5), .inl (c9 0, 3, .inl (FH.own h))), ((ha 6), .inl (c9 0, 3, .inl (FH.had h))), ((ha 7), .inl (c9 0, 2, .inl (FH.place h))), ((ha 8), .inl (c9 0, 2, .inl (FH.left h))), (ta, .inl (c9 4, R.length, .inr (.inr (.inr (.inr (outF R)))))), (ua, .inl (c9 4, S.length, .inr (.inr (.inr (.inr (outF S)))))), (row, .inl (c9 0, 10, .inl (upd (upd (upd (upd (upd (upd (upd (upd (upd (upd (fun _ => 0) 0 (FH.next h)) 1 (if 0 ≤ sv then 1 else 0)) 2 ow) 3 re) 4 sv) 5 (FH.time h)) 6 en) 7 (if rn = 1 then imax la en else en)) 8 (hSeed h)) 9 rn)))]) dX12_makes_88 11 0 rfl rfl (wr_nI9 (f := (upd (upd (upd (upd (upd (upd (upd (upd (upd (fun _ => 0) 0 (FH.next h)) 1 (if 0 ≤ sv then 1 else 0)) 2 ow) 3 re) 4 sv) 5 (FH.time h)) 6 en) 7 (if rn = 1 then imax la en else en)) 8 (hSeed h))) (k := 9) (show 9 < 10 by decide) (by decide)) rfl 89 rfl ?_
  refine v_eq (ws2 := [((ha 0), .inr (13, [.int (FH.tol h), .ref (ha 1), .ref (ha 2), .ref (ha 3), .ref (ha 4), .ref (ha 5), .ref (ha 6), .ref (ha 7), .ref (ha 8), .ref ta, .ref ua, .int (hSeed h), .int (FH.time h), .int (FH.next h)])), ((ha 1), .inl (c9 0, 3, .inl (FH.life h))), ((ha 2), .inl (c9 0, 3, .inl (FH.again h))), ((ha 3), .inl (c9 0, 3, .inl (FH.fast h))), ((ha 4), .inl (c9 0, 3, .inl (FH.home h))), ((ha 5), .inl (c9 0, 3, .inl (FH.own h))), ((ha 6), .inl (c9 0, 3, .inl (FH.had h))), ((ha 7), .inl (c9 0, 2, .inl (FH.place h))), ((ha 8), .inl (c9 0, 2, .inl (FH.left h))), (ta, .inl (c9 4, R.length, .inr (.inr (.inr (.inr (outF R)))))), (ua, .inl (c9 4, S.length, .inr (.inr (.inr (.inr (outF S)))))), (row, .inl (c9 0, 10, .inl (mkRow h ow re sv en la rn)))]) rfl rfl rfl rfl ?_
  refine v_perm (ws' := [(ta, .inl (c9 4, R.length, .inr (.inr (.inr (.inr (outF R))))))]) (F' := rowsW c9 10 R ++ ((row, .inl (c9 0, 10, .inl (mkRow h ow re sv en la rn))) :: (([((ha 0), .inr (13, [.int (FH.tol h), .ref (ha 1), .ref (ha 2), .ref (ha 3), .ref (ha 4), .ref (ha 5), .ref (ha 6), .ref (ha 7), .ref (ha 8), .ref ta, .ref ua, .int (hSeed h), .int (FH.time h), .int (FH.next h)])), ((ha 1), .inl (c9 0, 3, .inl (FH.life h))), ((ha 2), .inl (c9 0, 3, .inl (FH.again h))), ((ha 3), .inl (c9 0, 3, .inl (FH.fast h))), ((ha 4), .inl (c9 0, 3, .inl (FH.home h))), ((ha 5), .inl (c9 0, 3, .inl (FH.own h))), ((ha 6), .inl (c9 0, 3, .inl (FH.had h))), ((ha 7), .inl (c9 0, 2, .inl (FH.place h))), ((ha 8), .inl (c9 0, 2, .inl (FH.left h))), (ua, .inl (c9 4, S.length, .inr (.inr (.inr (.inr (outF S))))))] : va_W) ++ (rowsW c9 4 S ++ F0)))) (perm_w (perm_is (ws' := [(ta, .inl (c9 4, R.length, .inr (.inr (.inr (.inr (outF R)))))), (row, .inl (c9 0, 10, .inl (mkRow h ow re sv en la rn))), ((ha 0), .inr (13, [.int (FH.tol h), .ref (ha 1), .ref (ha 2), .ref (ha 3), .ref (ha 4), .ref (ha 5), .ref (ha 6), .ref (ha 7), .ref (ha 8), .ref ta, .ref ua, .int (hSeed h), .int (FH.time h), .int (FH.next h)])), ((ha 1), .inl (c9 0, 3, .inl (FH.life h))), ((ha 2), .inl (c9 0, 3, .inl (FH.again h))), ((ha 3), .inl (c9 0, 3, .inl (FH.fast h))), ((ha 4), .inl (c9 0, 3, .inl (FH.home h))), ((ha 5), .inl (c9 0, 3, .inl (FH.own h))), ((ha 6), .inl (c9 0, 3, .inl (FH.had h))), ((ha 7), .inl (c9 0, 2, .inl (FH.place h))), ((ha 8), .inl (c9 0, 2, .inl (FH.left h))), (ua, .inl (c9 4, S.length, .inr (.inr (.inr (.inr (outF S))))))]) [9, 11, 0, 1, 2, 3, 4, 5, 6, 7, 8, 10] rfl 12 rfl rfl)) ?_
  refine v_gr X (S := Nat) (ws' := fun ta2 => [outW c9 ta2 (R ++ [(row, (mkRow h ow re sv en la rn))])]) (F' := fun _ => rowsW c9 10 (R ++ [(row, (mkRow h ow re sv en la rn))]) ++ (([((ha 0), .inr (13, [.int (FH.tol h), .ref (ha 1), .ref (ha 2), .ref (ha 3), .ref (ha 4), .ref (ha 5), .ref (ha 6), .ref (ha 7), .ref (ha 8), .ref ta, .ref ua, .int (hSeed h), .int (FH.time h), .int (FH.next h)])), ((ha 1), .inl (c9 0, 3, .inl (FH.life h))), ((ha 2), .inl (c9 0, 3, .inl (FH.again h))), ((ha 3), .inl (c9 0, 3, .inl (FH.fast h))), ((ha 4), .inl (c9 0, 3, .inl (FH.home h))), ((ha 5), .inl (c9 0, 3, .inl (FH.own h))), ((ha 6), .inl (c9 0, 3, .inl (FH.had h))), ((ha 7), .inl (c9 0, 2, .inl (FH.place h))), ((ha 8), .inl (c9 0, 2, .inl (FH.left h))), (ua, .inl (c9 4, S.length, .inr (.inr (.inr (.inr (outF S))))))] : va_W) ++ (rowsW c9 4 S ++ F0))) (r_S X (As := [.ref ta, .ref row]) (rest := [.ref (ha 0)]) (r_pc X) (c_with l hG D c9 hGU hGV (wd := 10) (rw := row) (f := (mkRow h ow re sv en la rn)) (R := R) (Z := ([((ha 0), .inr (13, [.int (FH.tol h), .ref (ha 1), .ref (ha 2), .ref (ha 3), .ref (ha 4), .ref (ha 5), .ref (ha 6), .ref (ha 7), .ref (ha 8), .ref ta, .ref ua, .int (hSeed h), .int (FH.time h), .int (FH.next h)])), ((ha 1), .inl (c9 0, 3, .inl (FH.life h))), ((ha 2), .inl (c9 0, 3, .inl (FH.again h))), ((ha 3), .inl (c9 0, 3, .inl (FH.fast h))), ((ha 4), .inl (c9 0, 3, .inl (FH.home h))), ((ha 5), .inl (c9 0, 3, .inl (FH.own h))), ((ha 6), .inl (c9 0, 3, .inl (FH.had h))), ((ha 7), .inl (c9 0, 2, .inl (FH.place h))), ((ha 8), .inl (c9 0, 2, .inl (FH.left h))), (ua, .inl (c9 4, S.length, .inr (.inr (.inr (.inr (outF S))))))] : va_W) ++ (rowsW c9 4 S ++ F0)) (by omega)) 2 (gS why_5 why_6 why_3 why_7) rfl rfl rfl (by decide +kernel) ⟨Nat.le_of_ble_eq_true rfl, Nat.le_of_ble_eq_true rfl⟩ rfl rfl (Nat.le_of_ble_eq_true rfl) ⟨(by first | exact Nat.le_of_ble_eq_true rfl | omega | (dsimp only; omega)), (by first | exact Nat.le_of_ble_eq_true rfl | omega | (dsimp only; omega))⟩ dX12_makes_89) (fun _ => rfl) 92 rfl (fun ta2 _ => ?_)
  refine v_perm (ws' := [((ha 0), .inr (13, [.int (FH.tol h), .ref (ha 1), .ref (ha 2), .ref (ha 3), .ref (ha 4), .ref (ha 5), .ref (ha 6), .ref (ha 7), .ref (ha 8), .ref ta, .ref ua, .int (hSeed h), .int (FH.time h), .int (FH.next h)])), ((ha 1), .inl (c9 0, 3, .inl (FH.life h))), ((ha 2), .inl (c9 0, 3, .inl (FH.again h))), ((ha 3), .inl (c9 0, 3, .inl (FH.fast h))), ((ha 4), .inl (c9 0, 3, .inl (FH.home h))), ((ha 5), .inl (c9 0, 3, .inl (FH.own h))), ((ha 6), .inl (c9 0, 3, .inl (FH.had h))), ((ha 7), .inl (c9 0, 2, .inl (FH.place h))), ((ha 8), .inl (c9 0, 2, .inl (FH.left h))), (ta2, .inl (c9 4, (R ++ [(row, (mkRow h ow re sv en la rn))]).length, .inr (.inr (.inr (.inr (outF (R ++ [(row, (mkRow h ow re sv en la rn))]))))))), (ua, .inl (c9 4, S.length, .inr (.inr (.inr (.inr (outF S))))))]) (F' := rowsW c9 10 (R ++ [(row, (mkRow h ow re sv en la rn))]) ++ (rowsW c9 4 S ++ F0)) (perm_b (perm_is (ws' := [(ta2, .inl (c9 4, (R ++ [(row, (mkRow h ow re sv en la rn))]).length, .inr (.inr (.inr (.inr (outF (R ++ [(row, (mkRow h ow re sv en la rn))]))))))), ((ha 0), .inr (13, [.int (FH.tol h), .ref (ha 1), .ref (ha 2), .ref (ha 3), .ref (ha 4), .ref (ha 5), .ref (ha 6), .ref (ha 7), .ref (ha 8), .ref ta, .ref ua, .int (hSeed h), .int (FH.time h), .int (FH.next h)])), ((ha 1), .inl (c9 0, 3, .inl (FH.life h))), ((ha 2), .inl (c9 0, 3, .inl (FH.again h))), ((ha 3), .inl (c9 0, 3, .inl (FH.fast h))), ((ha 4), .inl (c9 0, 3, .inl (FH.home h))), ((ha 5), .inl (c9 0, 3, .inl (FH.own h))), ((ha 6), .inl (c9 0, 3, .inl (FH.had h))), ((ha 7), .inl (c9 0, 2, .inl (FH.place h))), ((ha 8), .inl (c9 0, 2, .inl (FH.left h))), (ua, .inl (c9 4, S.length, .inr (.inr (.inr (.inr (outF S))))))]) [9, 0, 1, 2, 3, 4, 5, 6, 7, 8, 10] rfl 11 rfl rfl)) ?_
  refine v_put X (C := RX12) (T := TX12) (N := 14) (ci := 13) (ty := tyX12 9) (ws' := [((ha 0), .inr (13, [.int (FH.tol h), .ref (ha 1), .ref (ha 2), .ref (ha 3), .ref (ha 4), .ref (ha 5), .ref (ha 6), .ref (ha 7), .ref (ha 8), .ref ta2, .ref ua, .int (hSeed h), .int (FH.time h), .int (FH.next h)])), ((ha 1), .inl (c9 0, 3, .inl (FH.life h))), ((ha 2), .inl (c9 0, 3, .inl (FH.again h))), ((ha 3), .inl (c9 0, 3, .inl (FH.fast h))), ((ha 4), .inl (c9 0, 3, .inl (FH.home h))), ((ha 5), .inl (c9 0, 3, .inl (FH.own h))), ((ha 6), .inl (c9 0, 3, .inl (FH.had h))), ((ha 7), .inl (c9 0, 2, .inl (FH.place h))), ((ha 8), .inl (c9 0, 2, .inl (FH.left h))), (ta2, .inl (c9 4, (R ++ [(row, (mkRow h ow re sv en la rn))]).length, .inr (.inr (.inr (.inr (outF (R ++ [(row, (mkRow h ow re sv en la rn))]))))))), (ua, .inl (c9 4, S.length, .inr (.inr (.inr (.inr (outF S))))))]) dX12_makes_92 (lay_of layhy_X12) 0 rfl rfl 9 (by decide) tyX12 tyX12_ok nmX12 (mw why_8) rfl rfl (tyX12_ok 9 (by decide)) rfl rfl (Nat.le_of_ble_eq_true rfl) rfl 95 rfl ?_
  refine v_aload_n X dX12_makes_95 6 rfl rfl 96 rfl ?_
  refine v_dup X dX12_makes_96 rfl 97 rfl ?_
  refine v_get X (C := RX12) (T := TX12) (N := 14) (ci := 13) (v := _) dX12_makes_97 (lay_of layhy_X12) 0 rfl rfl 13 (by decide) (mw why_23) rfl rfl 100 rfl ?_
  refine v_iconst X dX12_makes_100 ic_1 101 rfl ?_
  refine v_iadd X dX12_makes_101 102 rfl ?_
  refine v_put X (C := RX12) (T := TX12) (N := 14) (ci := 13) (ty := tyX12 13) (ws' := [((ha 0), .inr (13, [.int (FH.tol h), .ref (ha 1), .ref (ha 2), .ref (ha 3), .ref (ha 4), .ref (ha 5), .ref (ha 6), .ref (ha 7), .ref (ha 8), .ref ta2, .ref ua, .int (hSeed h), .int (FH.time h), .int ((FH.next h) + 1)])), ((ha 1), .inl (c9 0, 3, .inl (FH.life h))), ((ha 2), .inl (c9 0, 3, .inl (FH.again h))), ((ha 3), .inl (c9 0, 3, .inl (FH.fast h))), ((ha 4), .inl (c9 0, 3, .inl (FH.home h))), ((ha 5), .inl (c9 0, 3, .inl (FH.own h))), ((ha 6), .inl (c9 0, 3, .inl (FH.had h))), ((ha 7), .inl (c9 0, 2, .inl (FH.place h))), ((ha 8), .inl (c9 0, 2, .inl (FH.left h))), (ta2, .inl (c9 4, (R ++ [(row, (mkRow h ow re sv en la rn))]).length, .inr (.inr (.inr (.inr (outF (R ++ [(row, (mkRow h ow re sv en la rn))]))))))), (ua, .inl (c9 4, S.length, .inr (.inr (.inr (.inr (outF S))))))]) dX12_makes_102 (lay_of layhy_X12) 0 rfl rfl 13 (by decide) tyX12 tyX12_ok nmX12 (mw why_23) rfl rfl (tyX12_ok 13 (by decide)) rfl rfl (Nat.le_of_ble_eq_true rfl) rfl 105 rfl ?_
  refine v_aload_n X dX12_makes_105 6 rfl rfl 106 rfl ?_
  refine v_get X (C := RX12) (T := TX12) (N := 14) (ci := 13) (v := _) dX12_makes_106 (lay_of layhy_X12) 0 rfl rfl 13 (by decide) (mw why_23) rfl rfl 109 rfl ?_
  refine v_iconst X dX12_makes_109 ic_1 110 rfl ?_
  refine v_isub X dX12_makes_110 111 rfl ?_
  exact v_jret (ta2, ua, (R ++ [(row, (mkRow h ow re sv en la rn))]), S) ⟨by rw [List.map_append]; rfl, rfl⟩ rfl (List.Perm.refl _) X (by first | exact Nat.le_of_ble_eq_true rfl | omega | (dsimp only; omega)) (by first | exact Nat.le_of_ble_eq_true rfl | omega | (dsimp only; omega)) dX12_makes_111
set_option maxRecDepth 100000 in
set_option maxHeartbeats 400000 in
theorem h_makes27 {p : Program} {l : Launch} {e : Env} {s : State} {m : MethodId} {args : Array Value} {below : List Frame} {meth : Method} {c : Code} {A : Nat → Prop} {G : (Nat → Prop) → State → Heap → Prop} (hG : vG G) (D : va_G) (c9 : Nat → ClassId) {sk sv : Nat → Nat} (hGU : ∀ (A : Nat → Prop) (U : State) (H : Heap), G A U H → vU sk sv A U H) (hGV : ∀ (A : Nat → Prop) (U : State) (H : Heap), G A U H → vV A U H) (X : vX p s m args meth c cX12_makes 7 (some .int) RX12 (wq yX12_makes cX12_makes 7 (some .int)) D (tyA c9) G A) {ha : Nat → Nat} {ta ua : Nat} {h : FH} {R S : List (Nat × Row)} {F0 : va_W} {ow re sv en la rn : Int32} {row : Nat} (hl : R.length ≤ 30) : vW p l e { frames := 1, cells := 2, slots := 50, locals := 23 } s m args below meth c 7 D A (wHF c9 R S F0) 1 10 (MQ below (qJ D (tyA c9) A (hMakes h (R.map Prod.snd) ow re sv en la rn).1 (fun (u : HS) => u.2.2.1.map Prod.snd = (hMakes h (R.map Prod.snd) ow re sv en la rn).2.2 ∧ u.2.2.2.map Prod.snd = (S.map Prod.snd)) (fun (u : HS) => wH ha c9 u.1 u.2.1 (hMakes h (R.map Prod.snd) ow re sv en la rn).2.1 u.2.2.1 u.2.2.2 ++ wHF c9 u.2.2.1 u.2.2.2 F0)) args s 2 50 A) [((ha 0), .inr (13, [.int (FH.tol h), .ref (ha 1), .ref (ha 2), .ref (ha 3), .ref (ha 4), .ref (ha 5), .ref (ha 6), .ref (ha 7), .ref (ha 8), .ref ta, .ref ua, .int (FH.seed h), .int (FH.time h), .int (FH.next h)])), ((ha 1), .inl (c9 0, 3, .inl (FH.life h))), ((ha 2), .inl (c9 0, 3, .inl (FH.again h))), ((ha 3), .inl (c9 0, 3, .inl (FH.fast h))), ((ha 4), .inl (c9 0, 3, .inl (FH.home h))), ((ha 5), .inl (c9 0, 3, .inl (FH.own h))), ((ha 6), .inl (c9 0, 3, .inl (FH.had h))), ((ha 7), .inl (c9 0, 2, .inl (FH.place h))), ((ha 8), .inl (c9 0, 2, .inl (FH.left h))), (ta, .inl (c9 4, R.length, .inr (.inr (.inr (.inr (outF R)))))), (ua, .inl (c9 4, S.length, .inr (.inr (.inr (.inr (outF S)))))), (row, .inl (c9 0, 10, .inl (upd (fun _ => 0) 0 (FH.next h))))] 27 [(6, .int rn), (5, .int la), (4, .int en), (3, .int sv), (2, .int re), (1, .int ow), (0, .ref (ha 0))] [.int (if 0 ≤ sv then 1 else 0), .int 1, .ref row, .ref row, .ref ta, .ref (ha 0)] := by
  have hov : va_AI s := (hGV A s s.heap X.2.2.2.2.2.2.2.2.2.2).2
  refine v_iast X (ws' := [((ha 0), .inr (13, [.int (FH.tol h), .ref (ha 1), .ref (ha 2), .ref (ha 3), .ref (ha 4), .ref (ha 5), .ref (ha 6), .ref (ha 7), .ref (ha 8), .ref ta, .ref ua, .int (FH.seed h), .int (FH.time h), .int (FH.next h)])), ((ha 1), .inl (c9 0, 3, .inl (FH.life h))), ((ha 2), .inl (c9 0, 3, .inl (FH.again h))), ((ha 3), .inl (c9 0, 3, .inl (FH.fast h))), ((ha 4), .inl (c9 0, 3, .inl (FH.home h))), ((ha 5), .inl (c9 0, 3, .inl (FH.own h))), ((ha 6), .inl (c9 0, 3, .inl (FH.had h))), ((ha 7), .inl (c9 0, 2, .inl (FH.place h))), ((ha 8), .inl (c9 0, 2, .inl (FH.left h))), (ta, .inl (c9 4, R.length, .inr (.inr (.inr (.inr (outF R)))))), (ua, .inl (c9 4, S.length, .inr (.inr (.inr (.inr (outF S)))))), (row, .inl (c9 0, 10, .inl (upd (upd (fun _ => 0) 0 (FH.next h)) 1 (if 0 ≤ sv then 1 else 0))))]) dX12_makes_27 11 0 rfl rfl (wr_nI9 (f := (upd (fun _ => 0) 0 (FH.next h))) (k := 1) (show 1 < 10 by decide) (by decide)) rfl 28 rfl ?_
  refine v_dup X dX12_makes_28 rfl 29 rfl ?_
  refine v_iconst X dX12_makes_29 ic_2 30 rfl ?_
  refine v_iload_n X dX12_makes_30 5 rfl rfl 31 rfl ?_
  refine v_iast X (ws' := [((ha 0), .inr (13, [.int (FH.tol h), .ref (ha 1), .ref (ha 2), .ref (ha 3), .ref (ha 4), .ref (ha 5), .ref (ha 6), .ref (ha 7), .ref (ha 8), .ref ta, .ref ua, .int (FH.seed h), .int (FH.time h), .int (FH.next h)])), ((ha 1), .inl (c9 0, 3, .inl (FH.life h))), ((ha 2), .inl (c9 0, 3, .inl (FH.again h))), ((ha 3), .inl (c9 0, 3, .inl (FH.fast h))), ((ha 4), .inl (c9 0, 3, .inl (FH.home h))), ((ha 5), .inl (c9 0, 3, .inl (FH.own h))), ((ha 6), .inl (c9 0, 3, .inl (FH.had h))), ((ha 7), .inl (c9 0, 2, .inl (FH.place h))), ((ha 8), .inl (c9 0, 2, .inl (FH.left h))), (ta, .inl (c9 4, R.length, .inr (.inr (.inr (.inr (outF R)))))), (ua, .inl (c9 4, S.length, .inr (.inr (.inr (.inr (outF S)))))), (row, .inl (c9 0, 10, .inl (upd (upd (upd (fun _ => 0) 0 (FH.next h)) 1 (if 0 ≤ sv then 1 else 0)) 2 ow)))]) dX12_makes_31 11 0 rfl rfl (wr_nI9 (f := (upd (upd (fun _ => 0) 0 (FH.next h)) 1 (if 0 ≤ sv then 1 else 0))) (k := 2) (show 2 < 10 by decide) (by decide)) rfl 32 rfl ?_
  refine v_dup X dX12_makes_32 rfl 33 rfl ?_
  refine v_iconst X dX12_makes_33 ic_3 34 rfl ?_
  refine v_iload_n X dX12_makes_34 4 rfl rfl 35 rfl ?_
  refine v_iast X (ws' := [((ha 0), .inr (13, [.int (FH.tol h), .ref (ha 1), .ref (ha 2), .ref (ha 3), .ref (ha 4), .ref (ha 5), .ref (ha 6), .ref (ha 7), .ref (ha 8), .ref ta, .ref ua, .int (FH.seed h), .int (FH.time h), .int (FH.next h)])), ((ha 1), .inl (c9 0, 3, .inl (FH.life h))), ((ha 2), .inl (c9 0, 3, .inl (FH.again h))), ((ha 3), .inl (c9 0, 3, .inl (FH.fast h))), ((ha 4), .inl (c9 0, 3, .inl (FH.home h))), ((ha 5), .inl (c9 0, 3, .inl (FH.own h))), ((ha 6), .inl (c9 0, 3, .inl (FH.had h))), ((ha 7), .inl (c9 0, 2, .inl (FH.place h))), ((ha 8), .inl (c9 0, 2, .inl (FH.left h))), (ta, .inl (c9 4, R.length, .inr (.inr (.inr (.inr (outF R)))))), (ua, .inl (c9 4, S.length, .inr (.inr (.inr (.inr (outF S)))))), (row, .inl (c9 0, 10, .inl (upd (upd (upd (upd (fun _ => 0) 0 (FH.next h)) 1 (if 0 ≤ sv then 1 else 0)) 2 ow) 3 re)))]) dX12_makes_35 11 0 rfl rfl (wr_nI9 (f := (upd (upd (upd (fun _ => 0) 0 (FH.next h)) 1 (if 0 ≤ sv then 1 else 0)) 2 ow)) (k := 3) (show 3 < 10 by decide) (by decide)) rfl 36 rfl ?_
  refine v_dup X dX12_makes_36 rfl 37 rfl ?_
  refine v_iconst X dX12_makes_37 ic_4 38 rfl ?_
  refine v_iload_n X dX12_makes_38 3 rfl rfl 39 rfl ?_
  refine v_iast X (ws' := [((ha 0), .inr (13, [.int (FH.tol h), .ref (ha 1), .ref (ha 2), .ref (ha 3), .ref (ha 4), .ref (ha 5), .ref (ha 6), .ref (ha 7), .ref (ha 8), .ref ta, .ref ua, .int (FH.seed h), .int (FH.time h), .int (FH.next h)])), ((ha 1), .inl (c9 0, 3, .inl (FH.life h))), ((ha 2), .inl (c9 0, 3, .inl (FH.again h))), ((ha 3), .inl (c9 0, 3, .inl (FH.fast h))), ((ha 4), .inl (c9 0, 3, .inl (FH.home h))), ((ha 5), .inl (c9 0, 3, .inl (FH.own h))), ((ha 6), .inl (c9 0, 3, .inl (FH.had h))), ((ha 7), .inl (c9 0, 2, .inl (FH.place h))), ((ha 8), .inl (c9 0, 2, .inl (FH.left h))), (ta, .inl (c9 4, R.length, .inr (.inr (.inr (.inr (outF R)))))), (ua, .inl (c9 4, S.length, .inr (.inr (.inr (.inr (outF S)))))), (row, .inl (c9 0, 10, .inl (upd (upd (upd (upd (upd (fun _ => 0) 0 (FH.next h)) 1 (if 0 ≤ sv then 1 else 0)) 2 ow) 3 re) 4 sv)))]) dX12_makes_39 11 0 rfl rfl (wr_nI9 (f := (upd (upd (upd (upd (fun _ => 0) 0 (FH.next h)) 1 (if 0 ≤ sv then 1 else 0)) 2 ow) 3 re)) (k := 4) (show 4 < 10 by decide) (by decide)) rfl 40 rfl ?_
  refine v_dup X dX12_makes_40 rfl 41 rfl ?_
  refine v_iconst X dX12_makes_41 ic_5 42 rfl ?_
  refine v_aload_n X dX12_makes_42 6 rfl rfl 43 rfl ?_
  refine v_get X (C := RX12) (T := TX12) (N := 14) (ci := 13) (v := _) dX12_makes_43 (lay_of layhy_X12) 0 rfl rfl 12 (by decide) (mw why_24) rfl rfl 46 rfl ?_
  refine v_iast X (ws' := [((ha 0), .inr (13, [.int (FH.tol h), .ref (ha 1), .ref (ha 2), .ref (ha 3), .ref (ha 4), .ref (ha 5), .ref (ha 6), .ref (ha 7), .ref (ha 8), .ref ta, .ref ua, .int (FH.seed h), .int (FH.time h), .int (FH.next h)])), ((ha 1), .inl (c9 0, 3, .inl (FH.life h))), ((ha 2), .inl (c9 0, 3, .inl (FH.again h))), ((ha 3), .inl (c9 0, 3, .inl (FH.fast h))), ((ha 4), .inl (c9 0, 3, .inl (FH.home h))), ((ha 5), .inl (c9 0, 3, .inl (FH.own h))), ((ha 6), .inl (c9 0, 3, .inl (FH.had h))), ((ha 7), .inl (c9 0, 2, .inl (FH.place h))), ((ha 8), .inl (c9 0, 2, .inl (FH.left h))), (ta, .inl (c9 4, R.length, .inr (.inr (.inr (.inr (outF R)))))), (ua, .inl (c9 4, S.length, .inr (.inr (.inr (.inr (outF S)))))), (row, .inl (c9 0, 10, .inl (upd (upd (upd (upd (upd (upd (fun _ => 0) 0 (FH.next h)) 1 (if 0 ≤ sv then 1 else 0)) 2 ow) 3 re) 4 sv) 5 (FH.time h))))]) dX12_makes_46 11 0 rfl rfl (wr_nI9 (f := (upd (upd (upd (upd (upd (fun _ => 0) 0 (FH.next h)) 1 (if 0 ≤ sv then 1 else 0)) 2 ow) 3 re) 4 sv)) (k := 5) (show 5 < 10 by decide) (by decide)) rfl 47 rfl ?_
  refine v_dup X dX12_makes_47 rfl 48 rfl ?_
  refine v_bipush X dX12_makes_48 bp_6 50 rfl ?_
  refine v_iload X dX12_makes_50 2 rfl 52 rfl ?_
  refine v_iast X (ws' := [((ha 0), .inr (13, [.int (FH.tol h), .ref (ha 1), .ref (ha 2), .ref (ha 3), .ref (ha 4), .ref (ha 5), .ref (ha 6), .ref (ha 7), .ref (ha 8), .ref ta, .ref ua, .int (FH.seed h), .int (FH.time h), .int (FH.next h)])), ((ha 1), .inl (c9 0, 3, .inl (FH.life h))), ((ha 2), .inl (c9 0, 3, .inl (FH.again h))), ((ha 3), .inl (c9 0, 3, .inl (FH.fast h))), ((ha 4), .inl (c9 0, 3, .inl (FH.home h))), ((ha 5), .inl (c9 0, 3, .inl (FH.own h))), ((ha 6), .inl (c9 0, 3, .inl (FH.had h))), ((ha 7), .inl (c9 0, 2, .inl (FH.place h))), ((ha 8), .inl (c9 0, 2, .inl (FH.left h))), (ta, .inl (c9 4, R.length, .inr (.inr (.inr (.inr (outF R)))))), (ua, .inl (c9 4, S.length, .inr (.inr (.inr (.inr (outF S)))))), (row, .inl (c9 0, 10, .inl (upd (upd (upd (upd (upd (upd (upd (fun _ => 0) 0 (FH.next h)) 1 (if 0 ≤ sv then 1 else 0)) 2 ow) 3 re) 4 sv) 5 (FH.time h)) 6 en)))]) dX12_makes_52 11 0 rfl rfl (wr_nI9 (f := (upd (upd (upd (upd (upd (upd (fun _ => 0) 0 (FH.next h)) 1 (if 0 ≤ sv then 1 else 0)) 2 ow) 3 re) 4 sv) 5 (FH.time h))) (k := 6) (show 6 < 10 by decide) (by decide)) rfl 53 rfl ?_
  refine v_dup X dX12_makes_53 rfl 54 rfl ?_
  refine v_bipush X dX12_makes_54 bp_7 56 rfl ?_
  refine v_iload X dX12_makes_56 0 rfl 58 rfl ?_
  refine v_iconst X dX12_makes_58 ic_1 59 rfl ?_
  by_cases hr1 : rn = 1
  · refine v_icmp_ne X (tgt := 72) dX12_makes_59 rfl 62 rfl (a := none) (b := some ()) (o := ()) (if_pos hr1) (fun h => nomatch h) (fun _ => ?_)
    refine v_iload X dX12_makes_62 1 rfl 64 rfl ?_
    refine v_iload X dX12_makes_64 2 rfl 66 rfl ?_
    refine v_mmax X dX12_makes_66 (mw why_25) (mw why_26) (mw why_27) (mw why_28) (by first | exact Nat.le_of_ble_eq_true rfl | omega | (dsimp only; omega)) (by first | exact Nat.le_of_ble_eq_true rfl | omega | (dsimp only; omega)) (by first | exact Nat.le_of_ble_eq_true rfl | omega | (dsimp only; omega)) (by first | exact Nat.le_of_ble_eq_true rfl | omega | (dsimp only; omega)) 69 rfl ?_
    refine v_goto X (tgt := 74) dX12_makes_69 rfl ?_
    refine v_eq (st2 := [.int (if rn = 1 then imax la en else en), .int 7, .ref row, .ref row, .ref ta, .ref (ha 0)]) rfl rfl rfl (by rw [if_pos hr1]) ?_
    exact h_makes74 hG D c9 hGU hGV X hl
  · refine v_icmp_ne X (tgt := 72) dX12_makes_59 rfl 62 rfl (a := some ()) (b := none) (o := ()) (if_neg hr1) (fun _ => ?_) (fun h => nomatch h)
    refine v_iload X dX12_makes_72 2 rfl 74 rfl ?_
    refine v_eq (st2 := [.int (if rn = 1 then imax la en else en), .int 7, .ref row, .ref row, .ref ta, .ref (ha 0)]) rfl rfl rfl (by rw [if_neg hr1]) ?_
    exact h_makes74 hG D c9 hGU hGV X hl
set_option maxRecDepth 100000 in
set_option maxHeartbeats 400000 in
theorem c_makes (l : Launch) {G : (Nat → Prop) → State → Heap → Prop} (hG : vG G) (D : va_G) (c9 : Nat → ClassId) {sk sv : Nat → Nat} (hGU : ∀ (A : Nat → Prop) (U : State) (H : Heap), G A U H → vU sk sv A U H) (hGV : ∀ (A : Nat → Prop) (U : State) (H : Heap), G A U H → vV A U H) {ha : Nat → Nat} {ta ua : Nat} {h : FH} {R S : List (Nat × Row)} {F0 : va_W} {ow re sv en la rn : Int32} (hl : R.length ≤ 30) : mH (S := HS) l yX12_makes (wq yX12_makes cX12_makes 7 (some .int)) { frames := 1, cells := 2, slots := 50, locals := 23 } G D (tyA c9) [.ref (ha 0), .int ow, .int re, .int sv, .int en, .int la, .int rn] (wH ha c9 ta ua h R S ++ wHF c9 R S F0) 2 50 (hMakes h (R.map Prod.snd) ow re sv en la rn).1 (fun (u : HS) => u.2.2.1.map Prod.snd = (hMakes h (R.map Prod.snd) ow re sv en la rn).2.2 ∧ u.2.2.2.map Prod.snd = (S.map Prod.snd)) (fun (u : HS) => wH ha c9 u.1 u.2.1 (hMakes h (R.map Prod.snd) ow re sv en la rn).2.1 u.2.2.1 u.2.2.2 ++ wHF c9 u.2.2.1 u.2.2.2 F0) := by
  refine mJ_of hG (cc := cX12_makes) (maxL := 7) (ty := .int) (by decide) rfl (Nat.le_of_ble_eq_true rfl) ?_
  intro p e s m args below meth c A X
  have X : vX p s m args meth c cX12_makes 7 (some .int) RX12 (wq yX12_makes cX12_makes 7 (some .int)) D (tyA c9) G A := X
  have hov : va_AI s := (hGV A s s.heap X.2.2.2.2.2.2.2.2.2.2).2
  refine v_eq (lv2 := [(0, .ref (ha 0)), (1, .int ow), (2, .int re), (3, .int sv), (4, .int en), (5, .int la), (6, .int rn)]) rfl rfl rfl rfl ?_
  refine v_aload_n X dX12_makes_0 0 rfl rfl 1 rfl ?_
  refine v_aload_n X dX12_makes_1 0 rfl rfl 2 rfl ?_
  refine v_get X (C := RX12) (T := TX12) (N := 14) (ci := 13) (v := _) dX12_makes_2 (lay_of layhy_X12) 0 rfl rfl 9 (by decide) (mw why_8) rfl rfl 5 rfl ?_
  refine v_bipush X dX12_makes_5 bp_10 7 rfl ?_
  refine v_newa X (ty := .int) (N' := 10) (a0 := (10, .inl (fun _ => 0))) dX12_makes_7 (mw why_29) rfl 0 rfl (fun _ _ h1 h2 => Option.some.inj (h1.symm.trans h2)) (fun _ => rfl) (by decide) (by decide) (by decide) (by first | exact Nat.le_of_ble_eq_true rfl | omega | (dsimp only; omega)) (by first | exact Nat.le_of_ble_eq_true rfl | omega | (dsimp only; omega)) 9 rfl (fun row => ?_)
  refine v_eq (ws2 := [((ha 0), .inr (13, [.int (FH.tol h), .ref (ha 1), .ref (ha 2), .ref (ha 3), .ref (ha 4), .ref (ha 5), .ref (ha 6), .ref (ha 7), .ref (ha 8), .ref ta, .ref ua, .int (FH.seed h), .int (FH.time h), .int (FH.next h)])), ((ha 1), .inl (c9 0, 3, .inl (FH.life h))), ((ha 2), .inl (c9 0, 3, .inl (FH.again h))), ((ha 3), .inl (c9 0, 3, .inl (FH.fast h))), ((ha 4), .inl (c9 0, 3, .inl (FH.home h))), ((ha 5), .inl (c9 0, 3, .inl (FH.own h))), ((ha 6), .inl (c9 0, 3, .inl (FH.had h))), ((ha 7), .inl (c9 0, 2, .inl (FH.place h))), ((ha 8), .inl (c9 0, 2, .inl (FH.left h))), (ta, .inl (c9 4, R.length, .inr (.inr (.inr (.inr (outF R)))))), (ua, .inl (c9 4, S.length, .inr (.inr (.inr (.inr (outF S)))))), (row, .inl (c9 0, 10, .inl (fun _ => 0)))]) rfl rfl rfl rfl ?_
  refine v_dup X dX12_makes_9 rfl 10 rfl ?_
  refine v_iconst X dX12_makes_10 ic_0 11 rfl ?_
  refine v_aload_n X dX12_makes_11 0 rfl rfl 12 rfl ?_
  refine v_get X (C := RX12) (T := TX12) (N := 14) (ci := 13) (v := _) dX12_makes_12 (lay_of layhy_X12) 0 rfl rfl 13 (by decide) (mw why_23) rfl rfl 15 rfl ?_
  refine v_iast X (ws' := [((ha 0), .inr (13, [.int (FH.tol h), .ref (ha 1), .ref (ha 2), .ref (ha 3), .ref (ha 4), .ref (ha 5), .ref (ha 6), .ref (ha 7), .ref (ha 8), .ref ta, .ref ua, .int (FH.seed h), .int (FH.time h), .int (FH.next h)])), ((ha 1), .inl (c9 0, 3, .inl (FH.life h))), ((ha 2), .inl (c9 0, 3, .inl (FH.again h))), ((ha 3), .inl (c9 0, 3, .inl (FH.fast h))), ((ha 4), .inl (c9 0, 3, .inl (FH.home h))), ((ha 5), .inl (c9 0, 3, .inl (FH.own h))), ((ha 6), .inl (c9 0, 3, .inl (FH.had h))), ((ha 7), .inl (c9 0, 2, .inl (FH.place h))), ((ha 8), .inl (c9 0, 2, .inl (FH.left h))), (ta, .inl (c9 4, R.length, .inr (.inr (.inr (.inr (outF R)))))), (ua, .inl (c9 4, S.length, .inr (.inr (.inr (.inr (outF S)))))), (row, .inl (c9 0, 10, .inl (upd (fun _ => 0) 0 (FH.next h))))]) dX12_makes_15 11 0 rfl rfl (wr_nI9 (f := (fun _ => 0)) (k := 0) (show 0 < 10 by decide) (by decide)) rfl 16 rfl ?_
  refine v_dup X dX12_makes_16 rfl 17 rfl ?_
  refine v_iconst X dX12_makes_17 ic_1 18 rfl ?_
  refine v_iload_n X dX12_makes_18 3 rfl rfl 19 rfl ?_
  refine v_sub (lv' := [(6, .int rn), (5, .int la), (4, .int en), (3, .int sv), (2, .int re), (1, .int ow), (0, .ref (ha 0))]) [6, 5, 4, 3, 2, 1, 0] rfl ?_
  by_cases hs0 : 0 ≤ sv
  · refine v_if_ge X (tgt := 26) dX12_makes_19 rfl 22 rfl (a := some ()) (b := none) (o := ()) (if_pos hs0) (fun _ => ?_) (fun h => nomatch h)
    refine v_iconst X dX12_makes_26 ic_1 27 rfl ?_
    refine v_eq (st2 := [.int (if 0 ≤ sv then 1 else 0), .int 1, .ref row, .ref row, .ref ta, .ref (ha 0)]) rfl rfl rfl (by rw [if_pos hs0]) ?_
    exact h_makes27 hG D c9 hGU hGV X hl
  · refine v_if_ge X (tgt := 26) dX12_makes_19 rfl 22 rfl (a := none) (b := some ()) (o := ()) (if_neg hs0) (fun h => nomatch h) (fun _ => ?_)
    refine v_iconst X dX12_makes_22 ic_0 23 rfl ?_
    refine v_goto X (tgt := 27) dX12_makes_23 rfl ?_
    refine v_eq (st2 := [.int (if 0 ≤ sv then 1 else 0), .int 1, .ref row, .ref row, .ref ta, .ref (ha 0)]) rfl rfl rfl (by rw [if_neg hs0]) ?_
    exact h_makes27 hG D c9 hGU hGV X hl
set_option maxRecDepth 100000 in
set_option maxHeartbeats 400000 in
theorem c_derives (l : Launch) {G : (Nat → Prop) → State → Heap → Prop} (hG : vG G) (D : va_G) (c9 : Nat → ClassId) {sk sv : Nat → Nat} (hGU : ∀ (A : Nat → Prop) (U : State) (H : Heap), G A U H → vU sk sv A U H) (hGV : ∀ (A : Nat → Prop) (U : State) (H : Heap), G A U H → vV A U H) {ha : Nat → Nat} {ta ua : Nat} {h : FH} {R S : List (Nat × Row)} {F0 : va_W} {re sv : Int32} {k1 a1 : Nat} {g : Row} {o : HO} (ho : hDer h (R.map Prod.snd) g re sv = o) (hl : R.length ≤ 30) (hRi : R[k1]? = some (a1, g)) (hu2 : vp_in (g 2) 3) (hu3 : vp_in (g 3) 3) (hre : vp_in re 3) : mH (S := HS) l yX12_derives (wq yX12_derives cX12_derives 4 (some .int)) { frames := 2, cells := 2, slots := 50, locals := 52 } G D (tyA c9) [.ref (ha 0), .ref a1, .int re, .int sv] (wH ha c9 ta ua h R S ++ wHF c9 R S F0) 2 50 o.1 (fun (u : HS) => u.2.2.1.map Prod.snd = o.2.2 ∧ u.2.2.2.map Prod.snd = (S.map Prod.snd)) (fun (u : HS) => wH ha c9 u.1 u.2.1 o.2.1 u.2.2.1 u.2.2.2 ++ wHF c9 u.2.2.1 u.2.2.2 F0) := by
  refine mJ_of hG (cc := cX12_derives) (maxL := 4) (ty := .int) (by decide) rfl (Nat.le_of_ble_eq_true rfl) ?_
  intro p e s m args below meth c A X
  have X : vX p s m args meth c cX12_derives 4 (some .int) RX12 (wq yX12_derives cX12_derives 4 (some .int)) D (tyA c9) G A := X
  have hov : va_AI s := (hGV A s s.heap X.2.2.2.2.2.2.2.2.2.2).2
  refine v_eq (lv2 := [(0, .ref (ha 0)), (1, .ref a1), (2, .int re), (3, .int sv)]) rfl rfl rfl rfl ?_
  refine v_aload_n X dX12_derives_0 0 rfl rfl 1 rfl ?_
  refine v_aload_n X dX12_derives_1 1 rfl rfl 2 rfl ?_
  refine v_iconst X dX12_derives_2 ic_2 3 rfl ?_
  refine v_ildF X dX12_derives_3 (11 + k1) 0 (row_at (ws := [_, _, _, _, _, _, _, _, _, _, _]) hRi) rfl (rd_nI9 (f := g) (k := 2) (show 2 < 10 by decide) (by decide)) 4 rfl ?_
  refine v_aload_n X dX12_derives_4 1 rfl rfl 5 rfl ?_
  refine v_iconst X dX12_derives_5 ic_3 6 rfl ?_
  refine v_ildF X dX12_derives_6 (11 + k1) 0 (row_at (ws := [_, _, _, _, _, _, _, _, _, _, _]) hRi) rfl (rd_nI9 (f := g) (k := 3) (show 3 < 10 by decide) (by decide)) 7 rfl ?_
  refine v_callVi X (C := RX12) (ci := 13) (T := TX12) (As := [.int (g 2), .int (g 3)]) (rest := []) (ws' := [((ha 0), .inr (13, [.int (FH.tol h), .ref (ha 1), .ref (ha 2), .ref (ha 3), .ref (ha 4), .ref (ha 5), .ref (ha 6), .ref (ha 7), .ref (ha 8), .ref ta, .ref ua, .int (FH.seed h), .int (FH.time h), .int (FH.next h)])), ((ha 1), .inl (c9 0, 3, .inl (FH.life h))), ((ha 2), .inl (c9 0, 3, .inl (FH.again h))), ((ha 3), .inl (c9 0, 3, .inl (FH.fast h))), ((ha 4), .inl (c9 0, 3, .inl (FH.home h))), ((ha 5), .inl (c9 0, 3, .inl (FH.own h))), ((ha 6), .inl (c9 0, 3, .inl (FH.had h))), ((ha 7), .inl (c9 0, 2, .inl (FH.place h))), ((ha 8), .inl (c9 0, 2, .inl (FH.left h))), (ta, .inl (c9 4, R.length, .inr (.inr (.inr (.inr (outF R)))))), (ua, .inl (c9 4, S.length, .inr (.inr (.inr (.inr (outF S))))))]) (c_skewed l hG D c9 hGU hGV (ha := ha) (ta := ta) (ua := ua) (h := h) (R := R) (S := S) hu2 hu3) 2 (gV why_30 why_31 why_32 why_3 why_33) rfl rfl rfl ⟨rfl, by decide +kernel⟩ ⟨Nat.le_of_ble_eq_true rfl, Nat.le_of_ble_eq_true rfl⟩ 0 rfl rfl rfl rfl (Nat.le_of_ble_eq_true rfl) ⟨(by first | exact Nat.le_of_ble_eq_true rfl | omega | (dsimp only; omega)), (by first | exact Nat.le_of_ble_eq_true rfl | omega | (dsimp only; omega))⟩ [0, 1, 2, 3, 4, 5, 6, 7, 8, 9, 10] [] [0, 1, 2, 3, 4, 5, 6, 7, 8, 9, 10] rfl rfl rfl rfl dX12_derives_7 10 rfl ?_
  by_cases hsk : hSk h (g 2) (g 3) = true
  · have e : hDer h (R.map Prod.snd) g re sv = (-9, h, R.map Prod.snd) := if_pos (Or.inl hsk)
    rw [e] at ho
    subst ho
    refine v_if_ne X (tgt := 23) dX12_derives_10 rfl 13 rfl (a := some ()) (b := none) (o := ()) (if_neg (by rw [if_pos hsk]; decide)) (fun _ => ?_) (fun h => nomatch h)
    refine v_bipush X dX12_derives_23 bp_m9 25 rfl ?_
    exact v_jret (ta, ua, R, S) ⟨rfl, rfl⟩ rfl (List.Perm.refl _) X (by first | exact Nat.le_of_ble_eq_true rfl | omega | (dsimp only; omega)) (by first | exact Nat.le_of_ble_eq_true rfl | omega | (dsimp only; omega)) dX12_derives_25
  · refine v_if_ne X (tgt := 23) dX12_derives_10 rfl 13 rfl (a := none) (b := some ()) (o := ()) (if_pos (if_neg hsk)) (fun h => nomatch h) (fun _ => ?_)
    refine v_aload_n X dX12_derives_13 0 rfl rfl 14 rfl ?_
    refine v_get X (C := RX12) (T := TX12) (N := 14) (ci := 13) (v := _) dX12_derives_14 (lay_of layhy_X12) 0 rfl rfl 9 (by decide) (mw why_8) rfl rfl 17 rfl ?_
    refine v_alen X dX12_derives_17 9 4 rfl rfl rfl 18 rfl ?_
    refine v_bipush X dX12_derives_18 bp_24 20 rfl ?_
    by_cases h24 : R.length = 24
    · have e : hDer h (R.map Prod.snd) g re sv = (-9, h, R.map Prod.snd) := if_pos (Or.inr (by rw [List.length_map]; exact h24))
      rw [e] at ho
      subst ho
      refine v_icmp_ne X (tgt := 26) dX12_derives_20 rfl 23 rfl (a := none) (b := some ()) (o := ()) (if_pos (by rw [h24]; rfl)) (fun h => nomatch h) (fun _ => ?_)
      refine v_bipush X dX12_derives_23 bp_m9 25 rfl ?_
      exact v_jret (ta, ua, R, S) ⟨rfl, rfl⟩ rfl (List.Perm.refl _) X (by first | exact Nat.le_of_ble_eq_true rfl | omega | (dsimp only; omega)) (by first | exact Nat.le_of_ble_eq_true rfl | omega | (dsimp only; omega)) dX12_derives_25
    · have e : hDer h (R.map Prod.snd) g re sv = hMakes h (R.map Prod.snd) (g 2) re sv (imin (FH.time h + FH.life h re.toNatClampNeg) (g 6)) (imin (FH.time h + FH.again h re.toNatClampNeg) (g 7)) (g 9) := if_neg (by rw [List.length_map]; exact fun z => z.elim hsk h24)
      rw [e] at ho
      subst ho
      refine v_icmp_ne X (tgt := 26) dX12_derives_20 rfl 23 rfl (a := some ()) (b := none) (o := ()) (if_neg (fun z => h24 ((nI_eq (a := R.length) (b := 24) (by omega) (by decide)).mp z))) (fun _ => ?_) (fun h => nomatch h)
      refine v_aload_n X dX12_derives_26 0 rfl rfl 27 rfl ?_
      refine v_aload_n X dX12_derives_27 1 rfl rfl 28 rfl ?_
      refine v_iconst X dX12_derives_28 ic_2 29 rfl ?_
      refine v_ildF X dX12_derives_29 (11 + k1) 0 (row_at (ws := [_, _, _, _, _, _, _, _, _, _, _]) hRi) rfl (rd_nI9 (f := g) (k := 2) (show 2 < 10 by decide) (by decide)) 30 rfl ?_
      refine v_iload_n X dX12_derives_30 2 rfl rfl 31 rfl ?_
      refine v_iload_n X dX12_derives_31 3 rfl rfl 32 rfl ?_
      refine v_aload_n X dX12_derives_32 0 rfl rfl 33 rfl ?_
      refine v_get X (C := RX12) (T := TX12) (N := 14) (ci := 13) (v := _) dX12_derives_33 (lay_of layhy_X12) 0 rfl rfl 12 (by decide) (mw why_24) rfl rfl 36 rfl ?_
      refine v_aload_n X dX12_derives_36 0 rfl rfl 37 rfl ?_
      refine v_get X (C := RX12) (T := TX12) (N := 14) (ci := 13) (v := _) dX12_derives_37 (lay_of layhy_X12) 0 rfl rfl 1 (by decide) (mw why_34) rfl rfl 40 rfl ?_
      refine v_iload_n X dX12_derives_40 2 rfl rfl 41 rfl ?_
      refine v_iald X dX12_derives_41 1 0 rfl rfl (rd_v (f := (FH.life h)) hre) 42 rfl ?_
      refine v_iadd X dX12_derives_42 43 rfl ?_
      refine v_aload_n X dX12_derives_43 1 rfl rfl 44 rfl ?_
      refine v_bipush X dX12_derives_44 bp_6 46 rfl ?_
      refine v_ildF X dX12_derives_46 (11 + k1) 0 (row_at (ws := [_, _, _, _, _, _, _, _, _, _, _]) hRi) rfl (rd_nI9 (f := g) (k := 6) (show 6 < 10 by decide) (by decide)) 47 rfl ?_
      refine v_mmin X dX12_derives_47 (mw why_35) (mw why_36) (mw why_27) (mw why_37) (by first | exact Nat.le_of_ble_eq_true rfl | omega | (dsimp only; omega)) (by first | exact Nat.le_of_ble_eq_true rfl | omega | (dsimp only; omega)) (by first | exact Nat.le_of_ble_eq_true rfl | omega | (dsimp only; omega)) (by first | exact Nat.le_of_ble_eq_true rfl | omega | (dsimp only; omega)) 50 rfl ?_
      refine v_aload_n X dX12_derives_50 0 rfl rfl 51 rfl ?_
      refine v_get X (C := RX12) (T := TX12) (N := 14) (ci := 13) (v := _) dX12_derives_51 (lay_of layhy_X12) 0 rfl rfl 12 (by decide) (mw why_24) rfl rfl 54 rfl ?_
      refine v_aload_n X dX12_derives_54 0 rfl rfl 55 rfl ?_
      refine v_get X (C := RX12) (T := TX12) (N := 14) (ci := 13) (v := _) dX12_derives_55 (lay_of layhy_X12) 0 rfl rfl 2 (by decide) (mw why_38) rfl rfl 58 rfl ?_
      refine v_iload_n X dX12_derives_58 2 rfl rfl 59 rfl ?_
      refine v_iald X dX12_derives_59 2 0 rfl rfl (rd_v (f := (FH.again h)) hre) 60 rfl ?_
      refine v_iadd X dX12_derives_60 61 rfl ?_
      refine v_aload_n X dX12_derives_61 1 rfl rfl 62 rfl ?_
      refine v_bipush X dX12_derives_62 bp_7 64 rfl ?_
      refine v_ildF X dX12_derives_64 (11 + k1) 0 (row_at (ws := [_, _, _, _, _, _, _, _, _, _, _]) hRi) rfl (rd_nI9 (f := g) (k := 7) (show 7 < 10 by decide) (by decide)) 65 rfl ?_
      refine v_mmin X dX12_derives_65 (mw why_35) (mw why_36) (mw why_27) (mw why_37) (by first | exact Nat.le_of_ble_eq_true rfl | omega | (dsimp only; omega)) (by first | exact Nat.le_of_ble_eq_true rfl | omega | (dsimp only; omega)) (by first | exact Nat.le_of_ble_eq_true rfl | omega | (dsimp only; omega)) (by first | exact Nat.le_of_ble_eq_true rfl | omega | (dsimp only; omega)) 68 rfl ?_
      refine v_aload_n X dX12_derives_68 1 rfl rfl 69 rfl ?_
      refine v_bipush X dX12_derives_69 bp_9 71 rfl ?_
      refine v_ildF X dX12_derives_71 (11 + k1) 0 (row_at (ws := [_, _, _, _, _, _, _, _, _, _, _]) hRi) rfl (rd_nI9 (f := g) (k := 9) (show 9 < 10 by decide) (by decide)) 72 rfl ?_
      refine v_gj X (S := HS) (ws' := fun u => wH ha c9 u.1 u.2.1 (hMakes h (R.map Prod.snd) (g 2) re sv (imin ((FH.time h) + ((FH.life h) re.toNatClampNeg)) (g 6)) (imin ((FH.time h) + ((FH.again h) re.toNatClampNeg)) (g 7)) (g 9)).2.1 u.2.2.1 u.2.2.2) (F' := fun u => wHF c9 u.2.2.1 u.2.2.2 F0) (r_V X (C := RX12) (As := [.int (g 2), .int re, .int sv, .int (imin ((FH.time h) + ((FH.life h) re.toNatClampNeg)) (g 6)), .int (imin ((FH.time h) + ((FH.again h) re.toNatClampNeg)) (g 7)), .int (g 9)]) (rest := []) (r_pc X) (c_makes l hG D c9 hGU hGV (ha := ha) (ta := ta) (ua := ua) (h := h) (R := R) (S := S) (F0 := F0) (by omega)) 6 (gV why_39 why_40 why_41 why_3 why_42) rfl rfl rfl ⟨rfl, by decide +kernel⟩ ⟨Nat.le_of_ble_eq_true rfl, Nat.le_of_ble_eq_true rfl⟩ (r_recv X (ci := 13) 0 rfl rfl) rfl rfl (Nat.le_of_ble_eq_true rfl) ⟨(by first | exact Nat.le_of_ble_eq_true rfl | omega | (dsimp only; omega)), (by first | exact Nat.le_of_ble_eq_true rfl | omega | (dsimp only; omega))⟩ dX12_derives_72) (fun _ => rfl) 75 rfl (fun u hu => ?_)
      exact v_jret u hu rfl (List.Perm.refl _) X (by first | exact Nat.le_of_ble_eq_true rfl | omega | (dsimp only; omega)) (by first | exact Nat.le_of_ble_eq_true rfl | omega | (dsimp only; omega)) dX12_derives_75
set_option maxRecDepth 100000 in
set_option maxHeartbeats 400000 in
theorem h_valid1 {p : Program} {l : Launch} {e : Env} {s : State} {m : MethodId} {args : Array Value} {below : List Frame} {meth : Method} {c : Code} {A : Nat → Prop} {Q : State → Prop} {G : (Nat → Prop) → State → Heap → Prop} (hG : vG G) (D : va_G) (c9 : Nat → ClassId) {sk sv : Nat → Nat} (hGU : ∀ (A : Nat → Prop) (U : State) (H : Heap), G A U H → vU sk sv A U H) (X : vX p s m args meth c cX12_valid 6 (some .int) RX12 (wq yX12_valid cX12_valid 6 (some .int)) D (tyA c9) G A) {ha : Nat → Nat} {ta ua : Nat} {h : FH} {R S : List (Nat × Row)} {F0 : va_W} {k a1 : Nat} {g : Row} {cells slots : Nat} (hl : R.length ≤ 30) (hk : k < R.length) (hRi : R[k]? = some (a1, g)) (K : vW p l e { frames := 0, cells := 0, slots := 0, locals := 0 } s m args below meth c 6 D A (wHF c9 R S F0) cells slots Q [((ha 0), .inr (13, [.int (FH.tol h), .ref (ha 1), .ref (ha 2), .ref (ha 3), .ref (ha 4), .ref (ha 5), .ref (ha 6), .ref (ha 7), .ref (ha 8), .ref ta, .ref ua, .int (FH.seed h), .int (FH.time h), .int (FH.next h)])), ((ha 1), .inl (c9 0, 3, .inl (FH.life h))), ((ha 2), .inl (c9 0, 3, .inl (FH.again h))), ((ha 3), .inl (c9 0, 3, .inl (FH.fast h))), ((ha 4), .inl (c9 0, 3, .inl (FH.home h))), ((ha 5), .inl (c9 0, 3, .inl (FH.own h))), ((ha 6), .inl (c9 0, 3, .inl (FH.had h))), ((ha 7), .inl (c9 0, 2, .inl (FH.place h))), ((ha 8), .inl (c9 0, 2, .inl (FH.left h))), (ta, .inl (c9 4, R.length, .inr (.inr (.inr (.inr (outF R)))))), (ua, .inl (c9 4, S.length, .inr (.inr (.inr (.inr (outF S))))))] 13 [(4, .int (nI (k + 1))), (3, .int (nI R.length)), (2, .ref ta), (1, .int (nI (((R.map Prod.snd).take (k + 1)).countP (live (FH.time h))))), (0, .ref (ha 0))] []) : vW p l e { frames := 0, cells := 0, slots := 0, locals := 0 } s m args below meth c 6 D A (wHF c9 R S F0) cells slots Q [((ha 0), .inr (13, [.int (FH.tol h), .ref (ha 1), .ref (ha 2), .ref (ha 3), .ref (ha 4), .ref (ha 5), .ref (ha 6), .ref (ha 7), .ref (ha 8), .ref ta, .ref ua, .int (FH.seed h), .int (FH.time h), .int (FH.next h)])), ((ha 1), .inl (c9 0, 3, .inl (FH.life h))), ((ha 2), .inl (c9 0, 3, .inl (FH.again h))), ((ha 3), .inl (c9 0, 3, .inl (FH.fast h))), ((ha 4), .inl (c9 0, 3, .inl (FH.home h))), ((ha 5), .inl (c9 0, 3, .inl (FH.own h))), ((ha 6), .inl (c9 0, 3, .inl (FH.had h))), ((ha 7), .inl (c9 0, 2, .inl (FH.place h))), ((ha 8), .inl (c9 0, 2, .inl (FH.left h))), (ta, .inl (c9 4, R.length, .inr (.inr (.inr (.inr (outF R)))))), (ua, .inl (c9 4, S.length, .inr (.inr (.inr (.inr (outF S))))))] 13 [(4, .int (nI k)), (3, .int (nI R.length)), (2, .ref ta), (1, .int (nI (((R.map Prod.snd).take k).countP (live (FH.time h))))), (0, .ref (ha 0))] [] := by
  refine v_iload X dX12_valid_13 0 rfl 15 rfl ?_
  refine v_iload_n X dX12_valid_15 1 rfl rfl 16 rfl ?_
  refine v_icmp_ge X (tgt := 46) dX12_valid_16 rfl 19 rfl (a := none) (b := some ()) (o := ()) (if_neg (nI_ge hk (by omega))) (fun h => nomatch h) (fun _ => ?_)
  refine v_aload_n X dX12_valid_19 2 rfl rfl 20 rfl ?_
  refine v_iload X dX12_valid_20 0 rfl 22 rfl ?_
  refine v_aald X dX12_valid_22 9 4 rfl rfl (vp_in_nI (show k < R.length by omega) (by omega)) 23 rfl ?_
  rw [nI_clamp (show k < 2 ^ 31 by omega), out_some hRi]
  refine v_eq (st2 := [.ref a1]) rfl rfl rfl rfl ?_
  refine v_astore X (lv' := [(5, .ref a1), (4, .int (nI k)), (3, .int (nI R.length)), (2, .ref ta), (1, .int (nI (((R.map Prod.snd).take k).countP (live (FH.time h))))), (0, .ref (ha 0))]) dX12_valid_23 (by decide) rfl 25 rfl ?_
  refine v_aload_n X dX12_valid_25 5 rfl rfl 26 rfl ?_
  refine v_get X (C := RX12) (T := TX12) (N := 14) (ci := 13) (v := _) dX12_valid_26 (lay_of layhy_X12) 0 rfl rfl 12 (by decide) (mw why_24) rfl rfl 29 rfl ?_
  refine v_aload X dX12_valid_29 0 rfl 31 rfl ?_
  refine v_bipush X dX12_valid_31 bp_6 33 rfl ?_
  refine v_ildF X dX12_valid_33 (11 + k) 0 (row_at (ws := [_, _, _, _, _, _, _, _, _, _, _]) hRi) rfl (rd_nI9 (f := g) (k := 6) (show 6 < 10 by decide) (by decide)) 34 rfl ?_
  by_cases hlv : FH.time h < g 6
  · refine v_icmp_ge X (tgt := 40) dX12_valid_34 rfl 37 rfl (a := none) (b := some ()) (o := ()) (if_neg (Int32.not_le.mpr hlv)) (fun h => nomatch h) (fun _ => ?_)
    refine v_iinc X (lv' := [(1, .int ((nI (((R.map Prod.snd).take k).countP (live (FH.time h)))) + 1)), (5, .ref a1), (4, .int (nI k)), (3, .int (nI R.length)), (2, .ref ta), (0, .ref (ha 0))]) dX12_valid_37 4 rfl ic_1 (by decide) rfl 40 rfl ?_
    refine v_iinc X (lv' := [(4, .int ((nI k) + 1)), (1, .int ((nI (((R.map Prod.snd).take k).countP (live (FH.time h)))) + 1)), (5, .ref a1), (3, .int (nI R.length)), (2, .ref ta), (0, .ref (ha 0))]) dX12_valid_40 2 rfl ic_1 (by decide) rfl 43 rfl ?_
    refine v_goto X (tgt := 13) dX12_valid_43 rfl ?_
    refine v_sub (lv' := [(4, .int ((nI k) + 1)), (3, .int (nI R.length)), (2, .ref ta), (1, .int ((nI (((R.map Prod.snd).take k).countP (live (FH.time h)))) + 1)), (0, .ref (ha 0))]) [0, 3, 4, 1, 5] rfl ?_
    refine v_eq (lv2 := [(4, .int (nI (k + 1))), (3, .int (nI R.length)), (2, .ref ta), (1, .int (nI (((R.map Prod.snd).take (k + 1)).countP (live (FH.time h))))), (0, .ref (ha 0))]) rfl rfl (by rw [cnt_succ hRi, if_pos (show live (FH.time h) g = true by unfold live; exact decide_eq_true hlv), ← nI_1 k, ← nI_1 (List.countP _ _)]) rfl ?_
    exact K
  · refine v_icmp_ge X (tgt := 40) dX12_valid_34 rfl 37 rfl (a := some ()) (b := none) (o := ()) (if_pos (Int32.not_lt.mp hlv)) (fun _ => ?_) (fun h => nomatch h)
    refine v_iinc X (lv' := [(4, .int ((nI k) + 1)), (5, .ref a1), (3, .int (nI R.length)), (2, .ref ta), (1, .int (nI (((R.map Prod.snd).take k).countP (live (FH.time h))))), (0, .ref (ha 0))]) dX12_valid_40 1 rfl ic_1 (by decide) rfl 43 rfl ?_
    refine v_goto X (tgt := 13) dX12_valid_43 rfl ?_
    refine v_sub (lv' := [(4, .int ((nI k) + 1)), (3, .int (nI R.length)), (2, .ref ta), (1, .int (nI (((R.map Prod.snd).take k).countP (live (FH.time h))))), (0, .ref (ha 0))]) [0, 2, 3, 4, 5] rfl ?_
    refine v_eq (lv2 := [(4, .int (nI (k + 1))), (3, .int (nI R.length)), (2, .ref ta), (1, .int (nI (((R.map Prod.snd).take (k + 1)).countP (live (FH.time h))))), (0, .ref (ha 0))]) rfl rfl (by rw [nI_1 k, cnt_succ hRi, if_neg (show ¬ live (FH.time h) g = true by unfold live; simp [hlv])]; rfl) rfl ?_
    exact K
set_option maxRecDepth 100000 in
set_option maxHeartbeats 400000 in
theorem c_valid (l : Launch) {G : (Nat → Prop) → State → Heap → Prop} (hG : vG G) (D : va_G) (c9 : Nat → ClassId) {sk sv : Nat → Nat} (hGU : ∀ (A : Nat → Prop) (U : State) (H : Heap), G A U H → vU sk sv A U H) (hGV : ∀ (A : Nat → Prop) (U : State) (H : Heap), G A U H → vV A U H) {ha : Nat → Nat} {ta ua : Nat} {h : FH} {R S : List (Nat × Row)} {F0 : va_W} (hl : R.length ≤ 30) : mH (S := Unit) l yX12_valid (wq yX12_valid cX12_valid 6 (some .int)) { frames := 0, cells := 0, slots := 0, locals := 0 } G D (tyA c9) [.ref (ha 0)] (wH ha c9 ta ua h R S ++ wHF c9 R S F0) 0 0 (hVal h (R.map Prod.snd)) (fun _ => True) (fun _ => (wH ha c9 ta ua h R S ++ wHF c9 R S F0)) := by
  refine mJ_of hG (cc := cX12_valid) (maxL := 6) (ty := .int) (by decide) rfl (Nat.le_of_ble_eq_true rfl) ?_
  intro p e s m args below meth c A X
  have X : vX p s m args meth c cX12_valid 6 (some .int) RX12 (wq yX12_valid cX12_valid 6 (some .int)) D (tyA c9) G A := X
  have hov : va_AI s := (hGV A s s.heap X.2.2.2.2.2.2.2.2.2.2).2
  refine v_eq (lv2 := [(0, .ref (ha 0))]) rfl rfl rfl rfl ?_
  refine v_iconst X dX12_valid_0 ic_0 1 rfl ?_
  refine v_istore_n X (lv' := [(1, .int 0), (0, .ref (ha 0))]) dX12_valid_1 rfl (by decide) rfl 2 rfl ?_
  refine v_aload_n X dX12_valid_2 1 rfl rfl 3 rfl ?_
  refine v_get X (C := RX12) (T := TX12) (N := 14) (ci := 13) (v := _) dX12_valid_3 (lay_of layhy_X12) 0 rfl rfl 9 (by decide) (mw why_8) rfl rfl 6 rfl ?_
  refine v_astore_n X (lv' := [(2, .ref ta), (1, .int 0), (0, .ref (ha 0))]) dX12_valid_6 rfl (by decide) rfl 7 rfl ?_
  refine v_aload_n X dX12_valid_7 0 rfl rfl 8 rfl ?_
  refine v_alen X dX12_valid_8 9 4 rfl rfl rfl 9 rfl ?_
  refine v_istore_n X (lv' := [(3, .int (Int32.ofNat R.length)), (2, .ref ta), (1, .int 0), (0, .ref (ha 0))]) dX12_valid_9 rfl (by decide) rfl 10 rfl ?_
  refine v_iconst X dX12_valid_10 ic_0 11 rfl ?_
  refine v_istore X (lv' := [(4, .int 0), (3, .int (Int32.ofNat R.length)), (2, .ref ta), (1, .int 0), (0, .ref (ha 0))]) dX12_valid_11 (by decide) rfl 13 rfl ?_
  refine v_sub (lv' := [(4, .int 0), (3, .int (Int32.ofNat R.length)), (2, .ref ta), (1, .int 0), (0, .ref (ha 0))]) [0, 1, 2, 3, 4] rfl ?_
  have hloop : ∀ k9 k, k + k9 = R.length → vW p l e { frames := 0, cells := 0, slots := 0, locals := 0 } s m args below meth c 6 D A (wHF c9 R S F0) 0 0 (MQ below (qJ D (tyA c9) A (hVal h (R.map Prod.snd)) (fun (_ : Unit) => True) (fun _ => (wH ha c9 ta ua h R S ++ wHF c9 R S F0))) args s 0 0 A) [((ha 0), .inr (13, [.int (FH.tol h), .ref (ha 1), .ref (ha 2), .ref (ha 3), .ref (ha 4), .ref (ha 5), .ref (ha 6), .ref (ha 7), .ref (ha 8), .ref ta, .ref ua, .int (FH.seed h), .int (FH.time h), .int (FH.next h)])), ((ha 1), .inl (c9 0, 3, .inl (FH.life h))), ((ha 2), .inl (c9 0, 3, .inl (FH.again h))), ((ha 3), .inl (c9 0, 3, .inl (FH.fast h))), ((ha 4), .inl (c9 0, 3, .inl (FH.home h))), ((ha 5), .inl (c9 0, 3, .inl (FH.own h))), ((ha 6), .inl (c9 0, 3, .inl (FH.had h))), ((ha 7), .inl (c9 0, 2, .inl (FH.place h))), ((ha 8), .inl (c9 0, 2, .inl (FH.left h))), (ta, .inl (c9 4, R.length, .inr (.inr (.inr (.inr (outF R)))))), (ua, .inl (c9 4, S.length, .inr (.inr (.inr (.inr (outF S))))))] 13 [(4, .int (nI k)), (3, .int (nI R.length)), (2, .ref ta), (1, .int (nI (((R.map Prod.snd).take k).countP (live (FH.time h))))), (0, .ref (ha 0))] [] := by
    intro k9
    induction k9 with
    | zero =>
      intro k hk
      obtain rfl : k = R.length := by omega
      refine v_iload X dX12_valid_13 0 rfl 15 rfl ?_
      refine v_iload_n X dX12_valid_15 1 rfl rfl 16 rfl ?_
      refine v_icmp_ge X (tgt := 46) dX12_valid_16 rfl 19 rfl (a := some ()) (b := none) (o := ()) (if_pos (nI_le (Nat.le_refl _) (by omega))) (fun _ => ?_) (fun h => nomatch h)
      refine v_iload_n X dX12_valid_46 3 rfl rfl 47 rfl ?_
      refine v_eq (st2 := [.int (hVal h (R.map Prod.snd))]) rfl rfl rfl (by unfold hVal; rw [List.take_of_length_le (by rw [List.length_map]; exact Nat.le_refl _)]) ?_
      exact v_jret () trivial rfl (List.Perm.refl _) X (by first | exact Nat.le_of_ble_eq_true rfl | omega | (dsimp only; omega)) (by first | exact Nat.le_of_ble_eq_true rfl | omega | (dsimp only; omega)) dX12_valid_47
    | succ k9 ih =>
      intro k hk
      obtain ⟨⟨b1, g1⟩, h1⟩ : ∃ x, R[k]? = some x := ⟨_, List.getElem?_eq_getElem (by omega)⟩
      exact h_valid1 hG D c9 hGU X hl (by omega) h1 (ih (k + 1) (by omega))
  exact v_eq (lv2 := [(4, .int (nI 0)), (3, .int (nI R.length)), (2, .ref ta), (1, .int (nI (((R.map Prod.snd).take 0).countP (live (FH.time h))))), (0, .ref (ha 0))]) rfl rfl rfl rfl (hloop R.length 0 (by omega))
