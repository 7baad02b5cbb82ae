/-! The Hand gets a cheese. -/
theorem map_era {α β : Type} {f : α → β} : ∀ {R : List α} {k : Nat}, (R.eraseIdx k).map f = (R.map f).eraseIdx k
  | [], k => rfl
  | x :: R, 0 => rfl
  | x :: R, k + 1 => congrArg (f x :: ·) map_era
theorem ofn_app {α : Type} {S : List α} {x : α} : Int32.ofNat (S ++ [x]).length = nI (S.length + 1) := by rw [List.length_append]; rfl
theorem hits_of {h : FH} {g w : Row} (h1 : w 0 = g 2) (h2 : w 1 = g 4) (h3 : w 2 = FH.time h + FH.own h (g 2).toNatClampNeg) : hits h g w = true := by
  unfold hits
  rw [decide_eq_true h1, decide_eq_true h2, decide_eq_true h3]
  rfl
theorem hits_not {h : FH} {g w : Row} (h1 : ¬ (w 0 = g 2 ∧ w 1 = g 4 ∧ w 2 = FH.time h + FH.own h (g 2).toNatClampNeg)) : hits h g w = false := by
  unfold hits
  apply Bool.eq_false_iff.mpr
  intro h
  rw [Bool.and_eq_true, Bool.and_eq_true] at h
  exact h1 ⟨of_decide_eq_true h.1, of_decide_eq_true h.2.1, of_decide_eq_true h.2.2⟩
theorem whx_0 : Cond.fieldLink RX12 31 "TicketGateLaw$Hand" "left" "[I" ∈ Wg := t4_in (List.mem_of_getElem? (i := 150) rfl) rfl
theorem whx_1 : Cond.laysFinal RX12 "TicketGateLaw$Hand" "tolerance" "I" ∈ Wg := t4_in (List.mem_of_getElem? (i := 156) rfl) rfl
theorem whx_2 : Cond.laysFinal RX12 "TicketGateLaw$Hand" "life" "[I" ∈ Wg := t4_in (List.mem_of_getElem? (i := 158) rfl) rfl
theorem whx_3 : Cond.laysFinal RX12 "TicketGateLaw$Hand" "again" "[I" ∈ Wg := t4_in (List.mem_of_getElem? (i := 160) rfl) rfl
theorem whx_4 : Cond.laysFinal RX12 "TicketGateLaw$Hand" "fast" "[I" ∈ Wg := t4_in (List.mem_of_getElem? (i := 162) rfl) rfl
theorem whx_5 : Cond.laysFinal RX12 "TicketGateLaw$Hand" "home" "[I" ∈ Wg := t4_in (List.mem_of_getElem? (i := 164) rfl) rfl
theorem whx_6 : Cond.laysFinal RX12 "TicketGateLaw$Hand" "own" "[I" ∈ Wg := t4_in (List.mem_of_getElem? (i := 166) rfl) rfl
theorem whx_7 : Cond.laysFinal RX12 "TicketGateLaw$Hand" "had" "[I" ∈ Wg := t4_in (List.mem_of_getElem? (i := 168) rfl) rfl
theorem whx_8 : Cond.laysFinal RX12 "TicketGateLaw$Hand" "place" "[I" ∈ Wg := t4_in (List.mem_of_getElem? (i := 170) rfl) rfl
theorem whx_9 : Cond.laysFinal RX12 "TicketGateLaw$Hand" "left" "[I" ∈ Wg := t4_in (List.mem_of_getElem? (i := 172) rfl) rfl
theorem whx_10 : Cond.lays RX12 "TicketGateLaw$Hand" "ticket" "[[I" ∈ Wg := t4_in (List.mem_of_getElem? (i := 174) rfl) rfl
theorem whx_11 : Cond.lays RX12 "TicketGateLaw$Hand" "use" "[[I" ∈ Wg := t4_in (List.mem_of_getElem? (i := 176) rfl) rfl
theorem whx_12 : Cond.lays RX12 "TicketGateLaw$Hand" "seed" "I" ∈ Wg := t4_in (List.mem_of_getElem? (i := 178) rfl) rfl
theorem whx_13 : Cond.lays RX12 "TicketGateLaw$Hand" "time" "I" ∈ Wg := t4_in (List.mem_of_getElem? (i := 180) rfl) rfl
theorem whx_14 : Cond.lays RX12 "TicketGateLaw$Hand" "next" "I" ∈ Wg := t4_in (List.mem_of_getElem? (i := 182) rfl) rfl
theorem whx_15 : Cond.fieldLink RX12 25 "TicketGateLaw$Hand" "had" "[I" ∈ Wg := t4_in (List.mem_of_getElem? (i := 148) rfl) rfl
theorem whx_16 : Cond.fieldLink RX12 39 "TicketGateLaw$Hand" "use" "[[I" ∈ Wg := t4_in (List.mem_of_getElem? (i := 152) rfl) rfl
theorem whx_17 : Cond.arrayClass .int ∈ Wg := t1_in (List.mem_of_getElem? (i := 57) rfl) rfl
theorem whx_18 : Cond.fieldLink RX12 67 "TicketGateLaw$Hand" "time" "I" ∈ Wg := t4_in (List.mem_of_getElem? (i := 154) rfl) rfl
theorem whx_19 : Cond.fieldLink RX12 22 "TicketGateLaw$Hand" "own" "[I" ∈ Wg := t4_in (List.mem_of_getElem? (i := 147) rfl) rfl
theorem whx_20 : Cond.methodLink RX12 78 yX12_with ∈ Wg := t4_in (List.mem_of_getElem? (i := 203) rfl) rfl
theorem whx_21 : Cond.static yX12_with ∈ Wg := t4_in (List.mem_of_getElem? (i := 204) rfl) rfl
theorem whx_22 : Cond.initialized RX12 ∈ Wg := t1_in (List.mem_of_getElem? (i := 29) rfl) rfl
theorem whx_23 : Cond.code yX12_with cX12_with 4 (some (.array (.array .int))) ∈ Wg := t4_in (List.mem_of_getElem? (i := 205) rfl) rfl
theorem whx_24 : Cond.methodLink RX12 93 yX12_without ∈ Wg := t4_in (List.mem_of_getElem? (i := 219) rfl) rfl
theorem whx_25 : Cond.static yX12_without ∈ Wg := t4_in (List.mem_of_getElem? (i := 220) rfl) rfl
theorem whx_26 : Cond.code yX12_without cX12_without 4 (some (.array (.array .int))) ∈ Wg := t4_in (List.mem_of_getElem? (i := 221) rfl) rfl
theorem whx_27 : Cond.methodLink RX12 82 yX12_skewed ∈ Wg := t4_in (List.mem_of_getElem? (i := 189) rfl) rfl
theorem whx_28 : Cond.instanceMethod yX12_skewed ∈ Wg := t4_in (List.mem_of_getElem? (i := 191) rfl) rfl
theorem whx_29 : Cond.selects RX12 yX12_skewed yX12_skewed ∈ Wg := p2_in (q := (⟨"TicketGateLaw$Hand", "skewed", "(II)Z"⟩, 14)) (List.mem_of_getElem? (i := 14) rfl)
theorem whx_30 : Cond.code yX12_skewed cX12_skewed 3 (some .boolean) ∈ Wg := t4_in (List.mem_of_getElem? (i := 192) rfl) rfl
theorem layhx_X12 : ∀ k, k < 14 → u_lay RX12 TX12 k ∈ Wg := fun k hk => match k, hk with
  | 0, _ => whx_1
  | 1, _ => whx_2
  | 2, _ => whx_3
  | 3, _ => whx_4
  | 4, _ => whx_5
  | 5, _ => whx_6
  | 6, _ => whx_7
  | 7, _ => whx_8
  | 8, _ => whx_9
  | 9, _ => whx_10
  | 10, _ => whx_11
  | 11, _ => whx_12
  | 12, _ => whx_13
  | 13, _ => whx_14
  | k + 14, h => absurd h (by omega)
set_option maxRecDepth 100000 in
set_option maxHeartbeats 400000 in
theorem h_gets106 {p : Program} {l : Launch} {e : Env} {s : State} {m : MethodId} {args : Array Value} {below : List Frame} {meth : Method} {c : Code} {A : Nat → Prop} {G : (Nat → Prop) → State → Heap → Prop} (hG : vG G) (D : va_G) (c9 : Nat → ClassId) {sk sv : Nat → Nat} (hGU : ∀ (A : Nat → Prop) (U : State) (H : Heap), G A U H → vU sk sv A U H) (hGV : ∀ (A : Nat → Prop) (U : State) (H : Heap), G A U H → vV A U H) (X : vX p s m args meth c cX12_gets 6 (some .int) RX12 (wq yX12_gets cX12_gets 6 (some .int)) D (tyA c9) G A) {ha : Nat → Nat} {ta ua : Nat} {h : FH} {R S : List (Nat × Row)} {F0 : va_W} {k1 a1 : Nat} {g : Row} {o : HO} (ho : hGets h (S.map Prod.snd) g = o) (hl2 : S.length ≤ 30) (hRi : R[k1]? = some (a1, g)) (hu2 : vp_in (g 2) 3) (hu3 : vp_in (g 3) 3) (hp1 : ¬ (g 1 ≠ 1 ∨ g 6 ≤ FH.time h ∨ hSk h (g 2) (g 3) = true)) (hu4 : vp_in (g 4) 2) (hany : (S.map Prod.snd).any (hits h g) = false) : vW p l e { frames := 2, cells := 3, slots := 100, locals := 52 } s m args below meth c 6 D A (wHF c9 R S F0) 0 0 (MQ below (qJ D (tyA c9) A o.1 (fun (u : HS) => u.2.2.1.map Prod.snd = (R.map Prod.snd) ∧ u.2.2.2.map Prod.snd = o.2.2) (fun (u : HS) => wH ha c9 u.1 u.2.1 o.2.1 u.2.2.1 u.2.2.2 ++ wHF c9 u.2.2.1 u.2.2.2 F0)) args s 3 100 A) [((ha 0), .inr (13, [.int (FH.tol h), .ref (ha 1), .ref (ha 2), .ref (ha 3), .ref (ha 4), .ref (ha 5), .ref (ha 6), .ref (ha 7), .ref (ha 8), .ref ta, .ref ua, .int (FH.seed h), .int (FH.time h), .int (FH.next h)])), ((ha 1), .inl (c9 0, 3, .inl (FH.life h))), ((ha 2), .inl (c9 0, 3, .inl (FH.again h))), ((ha 3), .inl (c9 0, 3, .inl (FH.fast h))), ((ha 4), .inl (c9 0, 3, .inl (FH.home h))), ((ha 5), .inl (c9 0, 3, .inl (FH.own h))), ((ha 6), .inl (c9 0, 3, .inl (FH.had h))), ((ha 7), .inl (c9 0, 2, .inl (FH.place h))), ((ha 8), .inl (c9 0, 2, .inl (FH.left h))), (ta, .inl (c9 4, R.length, .inr (.inr (.inr (.inr (outF R)))))), (ua, .inl (c9 4, S.length, .inr (.inr (.inr (.inr (outF S))))))] 106 [(4, .int (nI S.length)), (3, .int (nI S.length)), (2, .ref ua), (1, .ref a1), (0, .ref (ha 0))] [] := by
  have hov : va_AI s := (hGV A s s.heap X.2.2.2.2.2.2.2.2.2.2).2
  refine v_aload_n X dX12_gets_106 4 rfl rfl 107 rfl ?_
  refine v_get X (C := RX12) (T := TX12) (N := 14) (ci := 13) (v := _) dX12_gets_107 (lay_of layhx_X12) 0 rfl rfl 8 (by decide) (mw whx_0) rfl rfl 110 rfl ?_
  refine v_aload_n X dX12_gets_110 3 rfl rfl 111 rfl ?_
  refine v_iconst X dX12_gets_111 ic_4 112 rfl ?_
  refine v_ildF X dX12_gets_112 (11 + k1) 0 (row_at (ws := [_, _, _, _, _, _, _, _, _, _, _]) hRi) rfl (rd_nI9 (f := g) (k := 4) (show 4 < 10 by decide) (by decide)) 113 rfl ?_
  refine v_iald X dX12_gets_113 8 0 rfl rfl (rd_v (f := (FH.left h)) hu4) 114 rfl ?_
  by_cases hz : FH.left h (g 4).toNatClampNeg = 0
  · refine v_if_ne X (tgt := 120) dX12_gets_114 rfl 117 rfl (a := none) (b := some ()) (o := ()) (if_pos hz) (fun h => nomatch h) (fun _ => ?_)
    have e : hGets h (S.map Prod.snd) g = (-9, h, S.map Prod.snd) := by unfold hGets; rw [if_neg hp1, if_neg (by rw [hany]; decide), if_pos hz]
    rw [e] at ho
    subst ho
    refine v_bipush X dX12_gets_117 bp_m9 119 rfl ?_
    exact v_jret (ta, ua, R, S) ⟨rfl, rfl⟩ rfl (List.Perm.refl _) X (by first | exact Nat.le_of_ble_eq_true rfl | omega | (dsimp only; omega)) (by first | exact Nat.le_of_ble_eq_true rfl | omega | (dsimp only; omega)) dX12_gets_119
  · refine v_if_ne X (tgt := 120) dX12_gets_114 rfl 117 rfl (a := some ()) (b := none) (o := ()) (if_neg hz) (fun _ => ?_) (fun h => nomatch h)
    refine v_aload_n X dX12_gets_120 4 rfl rfl 121 rfl ?_
    refine v_get X (C := RX12) (T := TX12) (N := 14) (ci := 13) (v := _) dX12_gets_121 (lay_of layhx_X12) 0 rfl rfl 8 (by decide) (mw whx_0) rfl rfl 124 rfl ?_
    refine v_aload_n X dX12_gets_124 3 rfl rfl 125 rfl ?_
    refine v_iconst X dX12_gets_125 ic_4 126 rfl ?_
    refine v_ildF X dX12_gets_126 (11 + k1) 0 (row_at (ws := [_, _, _, _, _, _, _, _, _, _, _]) hRi) rfl (rd_nI9 (f := g) (k := 4) (show 4 < 10 by decide) (by decide)) 127 rfl ?_
    refine v_dup2 X dX12_gets_127 rfl rfl 128 rfl ?_
    refine v_iald X dX12_gets_128 8 0 rfl rfl (rd_v (f := (FH.left h)) hu4) 129 rfl ?_
    refine v_iconst X dX12_gets_129 ic_1 130 rfl ?_
    refine v_isub X dX12_gets_130 131 rfl ?_
    refine v_iast X (ws' := [((ha 0), .inr (13, [.int (FH.tol h), .ref (ha 1), .ref (ha 2), .ref (ha 3), .ref (ha 4), .ref (ha 5), .ref (ha 6), .ref (ha 7), .ref (ha 8), .ref ta, .ref ua, .int (FH.seed h), .int (FH.time h), .int (FH.next h)])), ((ha 1), .inl (c9 0, 3, .inl (FH.life h))), ((ha 2), .inl (c9 0, 3, .inl (FH.again h))), ((ha 3), .inl (c9 0, 3, .inl (FH.fast h))), ((ha 4), .inl (c9 0, 3, .inl (FH.home h))), ((ha 5), .inl (c9 0, 3, .inl (FH.own h))), ((ha 6), .inl (c9 0, 3, .inl (FH.had h))), ((ha 7), .inl (c9 0, 2, .inl (FH.place h))), ((ha 8), .inl (c9 0, 2, .inl (upd (FH.left h) (g 4).toNatClampNeg (((FH.left h) (g 4).toNatClampNeg) - 1)))), (ta, .inl (c9 4, R.length, .inr (.inr (.inr (.inr (outF R)))))), (ua, .inl (c9 4, S.length, .inr (.inr (.inr (.inr (outF S))))))]) dX12_gets_131 8 0 rfl rfl (wr_v (f := (FH.left h)) hu4) rfl 132 rfl ?_
    refine v_aload_n X dX12_gets_132 4 rfl rfl 133 rfl ?_
    refine v_get X (C := RX12) (T := TX12) (N := 14) (ci := 13) (v := _) dX12_gets_133 (lay_of layhx_X12) 0 rfl rfl 6 (by decide) (mw whx_15) rfl rfl 136 rfl ?_
    refine v_aload_n X dX12_gets_136 3 rfl rfl 137 rfl ?_
    refine v_iconst X dX12_gets_137 ic_2 138 rfl ?_
    refine v_ildF X dX12_gets_138 (11 + k1) 0 (row_at (ws := [_, _, _, _, _, _, _, _, _, _, _]) hRi) rfl (rd_nI9 (f := g) (k := 2) (show 2 < 10 by decide) (by decide)) 139 rfl ?_
    refine v_dup2 X dX12_gets_139 rfl rfl 140 rfl ?_
    refine v_iald X dX12_gets_140 6 0 rfl rfl (rd_v (f := (FH.had h)) hu2) 141 rfl ?_
    refine v_iconst X dX12_gets_141 ic_1 142 rfl ?_
    refine v_iadd X dX12_gets_142 143 rfl ?_
    refine v_iast X (ws' := [((ha 0), .inr (13, [.int (FH.tol h), .ref (ha 1), .ref (ha 2), .ref (ha 3), .ref (ha 4), .ref (ha 5), .ref (ha 6), .ref (ha 7), .ref (ha 8), .ref ta, .ref ua, .int (FH.seed h), .int (FH.time h), .int (FH.next h)])), ((ha 1), .inl (c9 0, 3, .inl (FH.life h))), ((ha 2), .inl (c9 0, 3, .inl (FH.again h))), ((ha 3), .inl (c9 0, 3, .inl (FH.fast h))), ((ha 4), .inl (c9 0, 3, .inl (FH.home h))), ((ha 5), .inl (c9 0, 3, .inl (FH.own h))), ((ha 6), .inl (c9 0, 3, .inl (upd (FH.had h) (g 2).toNatClampNeg (((FH.had h) (g 2).toNatClampNeg) + 1)))), ((ha 7), .inl (c9 0, 2, .inl (FH.place h))), ((ha 8), .inl (c9 0, 2, .inl (upd (FH.left h) (g 4).toNatClampNeg (((FH.left h) (g 4).toNatClampNeg) - 1)))), (ta, .inl (c9 4, R.length, .inr (.inr (.inr (.inr (outF R)))))), (ua, .inl (c9 4, S.length, .inr (.inr (.inr (.inr (outF S))))))]) dX12_gets_143 6 0 rfl rfl (wr_v (f := (FH.had h)) hu2) rfl 144 rfl ?_
    refine v_aload_n X dX12_gets_144 4 rfl rfl 145 rfl ?_
    refine v_aload_n X dX12_gets_145 4 rfl rfl 146 rfl ?_
    refine v_get X (C := RX12) (T := TX12) (N := 14) (ci := 13) (v := _) dX12_gets_146 (lay_of layhx_X12) 0 rfl rfl 10 (by decide) (mw whx_16) rfl rfl 149 rfl ?_
    refine v_iconst X dX12_gets_149 ic_4 150 rfl ?_
    refine v_newa X (ty := .int) (N' := 4) (a0 := (4, .inl (fun _ => 0))) dX12_gets_150 (mw whx_17) rfl 0 rfl (fun _ _ h1 h2 => Option.some.inj (h1.symm.trans h2)) (fun _ => rfl) (by decide) (by decide) (by decide) (by first | exact Nat.le_of_ble_eq_true rfl | omega | (dsimp only; omega)) (by first | exact Nat.le_of_ble_eq_true rfl | omega | (dsimp only; omega)) 152 rfl (fun row => ?_)
    refine v_eq (ws2 := [((ha 0), .inr (13, [.int (FH.tol h), .ref (ha 1), .ref (ha 2), .ref (ha 3), .ref (ha 4), .ref (ha 5), .ref (ha 6), .ref (ha 7), .ref (ha 8), .ref ta, .ref ua, .int (FH.seed h), .int (FH.time h), .int (FH.next h)])), ((ha 1), .inl (c9 0, 3, .inl (FH.life h))), ((ha 2), .inl (c9 0, 3, .inl (FH.again h))), ((ha 3), .inl (c9 0, 3, .inl (FH.fast h))), ((ha 4), .inl (c9 0, 3, .inl (FH.home h))), ((ha 5), .inl (c9 0, 3, .inl (FH.own h))), ((ha 6), .inl (c9 0, 3, .inl (upd (FH.had h) (g 2).toNatClampNeg (((FH.had h) (g 2).toNatClampNeg) + 1)))), ((ha 7), .inl (c9 0, 2, .inl (FH.place h))), ((ha 8), .inl (c9 0, 2, .inl (upd (FH.left h) (g 4).toNatClampNeg (((FH.left h) (g 4).toNatClampNeg) - 1)))), (ta, .inl (c9 4, R.length, .inr (.inr (.inr (.inr (outF R)))))), (ua, .inl (c9 4, S.length, .inr (.inr (.inr (.inr (outF S)))))), (row, .inl (c9 0, 4, .inl (fun _ => 0)))]) rfl rfl rfl rfl ?_
    refine v_dup X dX12_gets_152 rfl 153 rfl ?_
    refine v_iconst X dX12_gets_153 ic_0 154 rfl ?_
    refine v_aload_n X dX12_gets_154 3 rfl rfl 155 rfl ?_
    refine v_iconst X dX12_gets_155 ic_2 156 rfl ?_
    refine v_ildF X dX12_gets_156 (12 + k1) 0 (row_at (ws := [_, _, _, _, _, _, _, _, _, _, _, _]) hRi) rfl (rd_nI9 (f := g) (k := 2) (show 2 < 10 by decide) (by decide)) 157 rfl ?_
    refine v_iast X (ws' := [((ha 0), .inr (13, [.int (FH.tol h), .ref (ha 1), .ref (ha 2), .ref (ha 3), .ref (ha 4), .ref (ha 5), .ref (ha 6), .ref (ha 7), .ref (ha 8), .ref ta, .ref ua, .int (FH.seed h), .int (FH.time h), .int (FH.next h)])), ((ha 1), .inl (c9 0, 3, .inl (FH.life h))), ((ha 2), .inl (c9 0, 3, .inl (FH.again h))), ((ha 3), .inl (c9 0, 3, .inl (FH.fast h))), ((ha 4), .inl (c9 0, 3, .inl (FH.home h))), ((ha 5), .inl (c9 0, 3, .inl (FH.own h))), ((ha 6), .inl (c9 0, 3, .inl (upd (FH.had h) (g 2).toNatClampNeg (((FH.had h) (g 2).toNatClampNeg) + 1)))), ((ha 7), .inl (c9 0, 2, .inl (FH.place h))), ((ha 8), .inl (c9 0, 2, .inl (upd (FH.left h) (g 4).toNatClampNeg (((FH.left h) (g 4).toNatClampNeg) - 1)))), (ta, .inl (c9 4, R.length, .inr (.inr (.inr (.inr (outF R)))))), (ua, .inl (c9 4, S.length, .inr (.inr (.inr (.inr (outF S)))))), (row, .inl (c9 0, 4, .inl (upd (fun _ => 0) 0 (g 2))))]) dX12_gets_157 11 0 rfl rfl (wr_nI9 (f := (fun _ => 0)) (k := 0) (show 0 < 4 by decide) (by decide)) rfl 158 rfl ?_
    refine v_dup X dX12_gets_158 rfl 159 rfl ?_
    refine v_iconst X dX12_gets_159 ic_1 160 rfl ?_
    refine v_aload_n X dX12_gets_160 3 rfl rfl 161 rfl ?_
    refine v_iconst X dX12_gets_161 ic_4 162 rfl ?_
    refine v_ildF X dX12_gets_162 (12 + k1) 0 (row_at (ws := [_, _, _, _, _, _, _, _, _, _, _, _]) hRi) rfl (rd_nI9 (f := g) (k := 4) (show 4 < 10 by decide) (by decide)) 163 rfl ?_
    refine v_iast X (ws' := [((ha 0), .inr (13, [.int (FH.tol h), .ref (ha 1), .ref (ha 2), .ref (ha 3), .ref (ha 4), .ref (ha 5), .ref (ha 6), .ref (ha 7), .ref (ha 8), .ref ta, .ref ua, .int (FH.seed h), .int (FH.time h), .int (FH.next h)])), ((ha 1), .inl (c9 0, 3, .inl (FH.life h))), ((ha 2), .inl (c9 0, 3, .inl (FH.again h))), ((ha 3), .inl (c9 0, 3, .inl (FH.fast h))), ((ha 4), .inl (c9 0, 3, .inl (FH.home h))), ((ha 5), .inl (c9 0, 3, .inl (FH.own h))), ((ha 6), .inl (c9 0, 3, .inl (upd (FH.had h) (g 2).toNatClampNeg (((FH.had h) (g 2).toNatClampNeg) + 1)))), ((ha 7), .inl (c9 0, 2, .inl (FH.place h))), ((ha 8), .inl (c9 0, 2, .inl (upd (FH.left h) (g 4).toNatClampNeg (((FH.left h) (g 4).toNatClampNeg) - 1)))), (ta, .inl (c9 4, R.length, .inr (.inr (.inr (.inr (outF R)))))), (ua, .inl (c9 4, S.length, .inr (.inr (.inr (.inr (outF S)))))), (row, .inl (c9 0, 4, .inl (upd (upd (fun _ => 0) 0 (g 2)) 1 (g 4))))]) dX12_gets_163 11 0 rfl rfl (wr_nI9 (f := (upd (fun _ => 0) 0 (g 2))) (k := 1) (show 1 < 4 by decide) (by decide)) rfl 164 rfl ?_
    refine v_dup X dX12_gets_164 rfl 165 rfl ?_
    refine v_iconst X dX12_gets_165 ic_2 166 rfl ?_
    refine v_aload_n X dX12_gets_166 4 rfl rfl 167 rfl ?_
    refine v_get X (C := RX12) (T := TX12) (N := 14) (ci := 13) (v := _) dX12_gets_167 (lay_of layhx_X12) 0 rfl rfl 12 (by decide) (mw whx_18) rfl rfl 170 rfl ?_
    refine v_aload_n X dX12_gets_170 4 rfl rfl 171 rfl ?_
    refine v_get X (C := RX12) (T := TX12) (N := 14) (ci := 13) (v := _) dX12_gets_171 (lay_of layhx_X12) 0 rfl rfl 5 (by decide) (mw whx_19) rfl rfl 174 rfl ?_
    refine v_aload_n X dX12_gets_174 3 rfl rfl 175 rfl ?_
    refine v_iconst X dX12_gets_175 ic_2 176 rfl ?_
    refine v_ildF X dX12_gets_176 (12 + k1) 0 (row_at (ws := [_, _, _, _, _, _, _, _, _, _, _, _]) hRi) rfl (rd_nI9 (f := g) (k := 2) (show 2 < 10 by decide) (by decide)) 177 rfl ?_
    refine v_iald X dX12_gets_177 5 0 rfl rfl (rd_v (f := (FH.own h)) hu2) 178 rfl ?_
    refine v_iadd X dX12_gets_178 179 rfl ?_
    refine v_iast X (ws' := [((ha 0), .inr (13, [.int (FH.tol h), .ref (ha 1), .ref (ha 2), .ref (ha 3), .ref (ha 4), .ref (ha 5), .ref (ha 6), .ref (ha 7), .ref (ha 8), .ref ta, .ref ua, .int (FH.seed h), .int (FH.time h), .int (FH.next h)])), ((ha 1), .inl (c9 0, 3, .inl (FH.life h))), ((ha 2), .inl (c9 0, 3, .inl (FH.again h))), ((ha 3), .inl (c9 0, 3, .inl (FH.fast h))), ((ha 4), .inl (c9 0, 3, .inl (FH.home h))), ((ha 5), .inl (c9 0, 3, .inl (FH.own h))), ((ha 6), .inl (c9 0, 3, .inl (upd (FH.had h) (g 2).toNatClampNeg (((FH.had h) (g 2).toNatClampNeg) + 1)))), ((ha 7), .inl (c9 0, 2, .inl (FH.place h))), ((ha 8), .inl (c9 0, 2, .inl (upd (FH.left h) (g 4).toNatClampNeg (((FH.left h) (g 4).toNatClampNeg) - 1)))), (ta, .inl (c9 4, R.length, .inr (.inr (.inr (.inr (outF R)))))), (ua, .inl (c9 4, S.length, .inr (.inr (.inr (.inr (outF S)))))), (row, .inl (c9 0, 4, .inl (upd (upd (upd (fun _ => 0) 0 (g 2)) 1 (g 4)) 2 ((FH.time h) + ((FH.own h) (g 2).toNatClampNeg)))))]) dX12_gets_179 11 0 rfl rfl (wr_nI9 (f := (upd (upd (fun _ => 0) 0 (g 2)) 1 (g 4))) (k := 2) (show 2 < 4 by decide) (by decide)) rfl 180 rfl ?_
    refine v_dup X dX12_gets_180 rfl 181 rfl ?_
    refine v_iconst X dX12_gets_181 ic_3 182 rfl ?_
    refine v_aload_n X dX12_gets_182 4 rfl rfl 183 rfl ?_
    refine v_get X (C := RX12) (T := TX12) (N := 14) (ci := 13) (v := _) dX12_gets_183 (lay_of layhx_X12) 0 rfl rfl 12 (by decide) (mw whx_18) rfl rfl 186 rfl ?_
    refine v_iast X (ws' := [((ha 0), .inr (13, [.int (FH.tol h), .ref (ha 1), .ref (ha 2), .ref (ha 3), .ref (ha 4), .ref (ha 5), .ref (ha 6), .ref (ha 7), .ref (ha 8), .ref ta, .ref ua, .int (FH.seed h), .int (FH.time h), .int (FH.next h)])), ((ha 1), .inl (c9 0, 3, .inl (FH.life h))), ((ha 2), .inl (c9 0, 3, .inl (FH.again h))), ((ha 3), .inl (c9 0, 3, .inl (FH.fast h))), ((ha 4), .inl (c9 0, 3, .inl (FH.home h))), ((ha 5), .inl (c9 0, 3, .inl (FH.own h))), ((ha 6), .inl (c9 0, 3, .inl (upd (FH.had h) (g 2).toNatClampNeg (((FH.had h) (g 2).toNatClampNeg) + 1)))), ((ha 7), .inl (c9 0, 2, .inl (FH.place h))), ((ha 8), .inl (c9 0, 2, .inl (upd (FH.left h) (g 4).toNatClampNeg (((FH.left h) (g 4).toNatClampNeg) - 1)))), (ta, .inl (c9 4, R.length, .inr (.inr (.inr (.inr (outF R)))))), (ua, .inl (c9 4, S.length, .inr (.inr (.inr (.inr (outF S)))))), (row, .inl (c9 0, 4, .inl (upd (upd (upd (upd (fun _ => 0) 0 (g 2)) 1 (g 4)) 2 ((FH.time h) + ((FH.own h) (g 2).toNatClampNeg))) 3 (FH.time h))))]) dX12_gets_186 11 0 rfl rfl (wr_nI9 (f := (upd (upd (upd (fun _ => 0) 0 (g 2)) 1 (g 4)) 2 ((FH.time h) + ((FH.own h) (g 2).toNatClampNeg)))) (k := 3) (show 3 < 4 by decide) (by decide)) rfl 187 rfl ?_
    refine v_eq (ws2 := [((ha 0), .inr (13, [.int (FH.tol h), .ref (ha 1), .ref (ha 2), .ref (ha 3), .ref (ha 4), .ref (ha 5), .ref (ha 6), .ref (ha 7), .ref (ha 8), .ref ta, .ref ua, .int (FH.seed h), .int (FH.time h), .int (FH.next h)])), ((ha 1), .inl (c9 0, 3, .inl (FH.life h))), ((ha 2), .inl (c9 0, 3, .inl (FH.again h))), ((ha 3), .inl (c9 0, 3, .inl (FH.fast h))), ((ha 4), .inl (c9 0, 3, .inl (FH.home h))), ((ha 5), .inl (c9 0, 3, .inl (FH.own h))), ((ha 6), .inl (c9 0, 3, .inl (upd (FH.had h) (g 2).toNatClampNeg (((FH.had h) (g 2).toNatClampNeg) + 1)))), ((ha 7), .inl (c9 0, 2, .inl (FH.place h))), ((ha 8), .inl (c9 0, 2, .inl (upd (FH.left h) (g 4).toNatClampNeg (((FH.left h) (g 4).toNatClampNeg) - 1)))), (ta, .inl (c9 4, R.length, .inr (.inr (.inr (.inr (outF R)))))), (ua, .inl (c9 4, S.length, .inr (.inr (.inr (.inr (outF S)))))), (row, .inl (c9 0, 4, .inl (useRow h g)))]) rfl rfl rfl rfl ?_
    refine v_perm perm_sw ?_
    refine v_perm (ws' := [(ua, .inl (c9 4, S.length, .inr (.inr (.inr (.inr (outF S))))))]) (F' := rowsW c9 4 S ++ ((row, .inl (c9 0, 4, .inl (useRow h g))) :: (([((ha 0), .inr (13, [.int (FH.tol h), .ref (ha 1), .ref (ha 2), .ref (ha 3), .ref (ha 4), .ref (ha 5), .ref (ha 6), .ref (ha 7), .ref (ha 8), .ref ta, .ref ua, .int (FH.seed h), .int (FH.time h), .int (FH.next h)])), ((ha 1), .inl (c9 0, 3, .inl (FH.life h))), ((ha 2), .inl (c9 0, 3, .inl (FH.again h))), ((ha 3), .inl (c9 0, 3, .inl (FH.fast h))), ((ha 4), .inl (c9 0, 3, .inl (FH.home h))), ((ha 5), .inl (c9 0, 3, .inl (FH.own h))), ((ha 6), .inl (c9 0, 3, .inl (upd (FH.had h) (g 2).toNatClampNeg (((FH.had h) (g 2).toNatClampNeg) + 1)))), ((ha 7), .inl (c9 0, 2, .inl (FH.place h))), ((ha 8), .inl (c9 0, 2, .inl (upd (FH.left h) (g 4).toNatClampNeg (((FH.left h) (g 4).toNatClampNeg) - 1)))), (ta, .inl (c9 4, R.length, .inr (.inr (.inr (.inr (outF R))))))] : va_W) ++ (rowsW c9 10 R ++ F0)))) (perm_w (perm_is (ws' := [(ua, .inl (c9 4, S.length, .inr (.inr (.inr (.inr (outF S)))))), (row, .inl (c9 0, 4, .inl (useRow h g))), ((ha 0), .inr (13, [.int (FH.tol h), .ref (ha 1), .ref (ha 2), .ref (ha 3), .ref (ha 4), .ref (ha 5), .ref (ha 6), .ref (ha 7), .ref (ha 8), .ref ta, .ref ua, .int (FH.seed h), .int (FH.time h), .int (FH.next h)])), ((ha 1), .inl (c9 0, 3, .inl (FH.life h))), ((ha 2), .inl (c9 0, 3, .inl (FH.again h))), ((ha 3), .inl (c9 0, 3, .inl (FH.fast h))), ((ha 4), .inl (c9 0, 3, .inl (FH.home h))), ((ha 5), .inl (c9 0, 3, .inl (FH.own h))), ((ha 6), .inl (c9 0, 3, .inl (upd (FH.had h) (g 2).toNatClampNeg (((FH.had h) (g 2).toNatClampNeg) + 1)))), ((ha 7), .inl (c9 0, 2, .inl (FH.place h))), ((ha 8), .inl (c9 0, 2, .inl (upd (FH.left h) (g 4).toNatClampNeg (((FH.left h) (g 4).toNatClampNeg) - 1)))), (ta, .inl (c9 4, R.length, .inr (.inr (.inr (.inr (outF R))))))]) [10, 11, 0, 1, 2, 3, 4, 5, 6, 7, 8, 9] rfl 12 rfl rfl)) ?_
    refine v_gr X (S := Nat) (ws' := fun ua2 => [outW c9 ua2 (S ++ [(row, (useRow h g))])]) (F' := fun _ => rowsW c9 4 (S ++ [(row, (useRow h g))]) ++ (([((ha 0), .inr (13, [.int (FH.tol h), .ref (ha 1), .ref (ha 2), .ref (ha 3), .ref (ha 4), .ref (ha 5), .ref (ha 6), .ref (ha 7), .ref (ha 8), .ref ta, .ref ua, .int (FH.seed h), .int (FH.time h), .int (FH.next h)])), ((ha 1), .inl (c9 0, 3, .inl (FH.life h))), ((ha 2), .inl (c9 0, 3, .inl (FH.again h))), ((ha 3), .inl (c9 0, 3, .inl (FH.fast h))), ((ha 4), .inl (c9 0, 3, .inl (FH.home h))), ((ha 5), .inl (c9 0, 3, .inl (FH.own h))), ((ha 6), .inl (c9 0, 3, .inl (upd (FH.had h) (g 2).toNatClampNeg (((FH.had h) (g 2).toNatClampNeg) + 1)))), ((ha 7), .inl (c9 0, 2, .inl (FH.place h))), ((ha 8), .inl (c9 0, 2, .inl (upd (FH.left h) (g 4).toNatClampNeg (((FH.left h) (g 4).toNatClampNeg) - 1)))), (ta, .inl (c9 4, R.length, .inr (.inr (.inr (.inr (outF R))))))] : va_W) ++ (rowsW c9 10 R ++ F0))) (r_S X (As := [.ref ua, .ref row]) (rest := [.ref (ha 0)]) (r_pc X) (c_with l hG D c9 hGU hGV (wd := 4) (rw := row) (f := (useRow h g)) (R := S) (Z := ([((ha 0), .inr (13, [.int (FH.tol h), .ref (ha 1), .ref (ha 2), .ref (ha 3), .ref (ha 4), .ref (ha 5), .ref (ha 6), .ref (ha 7), .ref (ha 8), .ref ta, .ref ua, .int (FH.seed h), .int (FH.time h), .int (FH.next h)])), ((ha 1), .inl (c9 0, 3, .inl (FH.life h))), ((ha 2), .inl (c9 0, 3, .inl (FH.again h))), ((ha 3), .inl (c9 0, 3, .inl (FH.fast h))), ((ha 4), .inl (c9 0, 3, .inl (FH.home h))), ((ha 5), .inl (c9 0, 3, .inl (FH.own h))), ((ha 6), .inl (c9 0, 3, .inl (upd (FH.had h) (g 2).toNatClampNeg (((FH.had h) (g 2).toNatClampNeg) + 1)))), ((ha 7), .inl (c9 0, 2, .inl (FH.place h))), ((ha 8), .inl (c9 0, 2, .inl (upd (FH.left h) (g 4).toNatClampNeg (((FH.left h) (g 4).toNatClampNeg) - 1)))), (ta, .inl (c9 4, R.length, .inr (.inr (.inr (.inr (outF R))))))] : va_W) ++ (rowsW c9 10 R ++ F0)) (by omega)) 2 (gS whx_20 whx_21 whx_22 whx_23) rfl rfl rfl (by decide +kernel) ⟨Nat.le_of_ble_eq_true rfl, Nat.le_of_ble_eq_true rfl⟩ rfl rfl (Nat.le_of_ble_eq_true rfl) ⟨(by first | exact Nat.le_of_ble_eq_true rfl | omega | (dsimp only; omega)), (by first | exact Nat.le_of_ble_eq_true rfl | omega | (dsimp only; omega))⟩ dX12_gets_187) (fun _ => rfl) 190 rfl (fun ua2 _ => ?_)
    refine v_perm (ws' := [((ha 0), .inr (13, [.int (FH.tol h), .ref (ha 1), .ref (ha 2), .ref (ha 3), .ref (ha 4), .ref (ha 5), .ref (ha 6), .ref (ha 7), .ref (ha 8), .ref ta, .ref ua, .int (FH.seed h), .int (FH.time h), .int (FH.next h)])), ((ha 1), .inl (c9 0, 3, .inl (FH.life h))), ((ha 2), .inl (c9 0, 3, .inl (FH.again h))), ((ha 3), .inl (c9 0, 3, .inl (FH.fast h))), ((ha 4), .inl (c9 0, 3, .inl (FH.home h))), ((ha 5), .inl (c9 0, 3, .inl (FH.own h))), ((ha 6), .inl (c9 0, 3, .inl (upd (FH.had h) (g 2).toNatClampNeg (((FH.had h) (g 2).toNatClampNeg) + 1)))), ((ha 7), .inl (c9 0, 2, .inl (FH.place h))), ((ha 8), .inl (c9 0, 2, .inl (upd (FH.left h) (g 4).toNatClampNeg (((FH.left h) (g 4).toNatClampNeg) - 1)))), (ta, .inl (c9 4, R.length, .inr (.inr (.inr (.inr (outF R)))))), (ua2, .inl (c9 4, (S ++ [(row, (useRow h g))]).length, .inr (.inr (.inr (.inr (outF (S ++ [(row, (useRow h g))])))))))]) (F' := rowsW c9 4 (S ++ [(row, (useRow h g))]) ++ (rowsW c9 10 R ++ F0)) (perm_b (perm_is (ws' := [(ua2, .inl (c9 4, (S ++ [(row, (useRow h g))]).length, .inr (.inr (.inr (.inr (outF (S ++ [(row, (useRow h g))]))))))), ((ha 0), .inr (13, [.int (FH.tol h), .ref (ha 1), .ref (ha 2), .ref (ha 3), .ref (ha 4), .ref (ha 5), .ref (ha 6), .ref (ha 7), .ref (ha 8), .ref ta, .ref ua, .int (FH.seed h), .int (FH.time h), .int (FH.next h)])), ((ha 1), .inl (c9 0, 3, .inl (FH.life h))), ((ha 2), .inl (c9 0, 3, .inl (FH.again h))), ((ha 3), .inl (c9 0, 3, .inl (FH.fast h))), ((ha 4), .inl (c9 0, 3, .inl (FH.home h))), ((ha 5), .inl (c9 0, 3, .inl (FH.own h))), ((ha 6), .inl (c9 0, 3, .inl (upd (FH.had h) (g 2).toNatClampNeg (((FH.had h) (g 2).toNatClampNeg) + 1)))), ((ha 7), .inl (c9 0, 2, .inl (FH.place h))), ((ha 8), .inl (c9 0, 2, .inl (upd (FH.left h) (g 4).toNatClampNeg (((FH.left h) (g 4).toNatClampNeg) - 1)))), (ta, .inl (c9 4, R.length, .inr (.inr (.inr (.inr (outF R))))))]) [10, 0, 1, 2, 3, 4, 5, 6, 7, 8, 9] rfl 11 rfl rfl)) ?_
    refine v_perm perm_sw ?_
    refine v_put X (C := RX12) (T := TX12) (N := 14) (ci := 13) (ty := tyX12 10) (ws' := [((ha 0), .inr (13, [.int (FH.tol h), .ref (ha 1), .ref (ha 2), .ref (ha 3), .ref (ha 4), .ref (ha 5), .ref (ha 6), .ref (ha 7), .ref (ha 8), .ref ta, .ref ua2, .int (FH.seed h), .int (FH.time h), .int (FH.next h)])), ((ha 1), .inl (c9 0, 3, .inl (FH.life h))), ((ha 2), .inl (c9 0, 3, .inl (FH.again h))), ((ha 3), .inl (c9 0, 3, .inl (FH.fast h))), ((ha 4), .inl (c9 0, 3, .inl (FH.home h))), ((ha 5), .inl (c9 0, 3, .inl (FH.own h))), ((ha 6), .inl (c9 0, 3, .inl (upd (FH.had h) (g 2).toNatClampNeg (((FH.had h) (g 2).toNatClampNeg) + 1)))), ((ha 7), .inl (c9 0, 2, .inl (FH.place h))), ((ha 8), .inl (c9 0, 2, .inl (upd (FH.left h) (g 4).toNatClampNeg (((FH.left h) (g 4).toNatClampNeg) - 1)))), (ta, .inl (c9 4, R.length, .inr (.inr (.inr (.inr (outF R)))))), (ua2, .inl (c9 4, (S ++ [(row, (useRow h g))]).length, .inr (.inr (.inr (.inr (outF (S ++ [(row, (useRow h g))])))))))]) dX12_gets_190 (lay_of layhx_X12) 0 rfl rfl 10 (by decide) tyX12 tyX12_ok nmX12 (mw whx_16) rfl rfl (tyX12_ok 10 (by decide)) rfl rfl (Nat.le_of_ble_eq_true rfl) rfl 193 rfl ?_
    refine v_aload_n X dX12_gets_193 4 rfl rfl 194 rfl ?_
    refine v_get X (C := RX12) (T := TX12) (N := 14) (ci := 13) (v := _) dX12_gets_194 (lay_of layhx_X12) 0 rfl rfl 10 (by decide) (mw whx_16) rfl rfl 197 rfl ?_
    refine v_alen X dX12_gets_197 10 4 rfl rfl rfl 198 rfl ?_
    refine v_bipush X dX12_gets_198 bp_30 200 rfl ?_
    have e : hGets h (S.map Prod.snd) g = (FH.had h (g 2).toNatClampNeg + 1, (FH.tol h, FH.life h, FH.again h, FH.fast h, FH.home h, FH.own h, (upd (FH.had h) (g 2).toNatClampNeg (FH.had h (g 2).toNatClampNeg + 1)), FH.place h, (upd (FH.left h) (g 4).toNatClampNeg (FH.left h (g 4).toNatClampNeg - 1)), FH.seed h, FH.time h, FH.next h), hCut (S.map Prod.snd ++ [useRow h g])) := by unfold hGets; rw [if_neg hp1, if_neg (by rw [hany]; decide), if_neg hz]
    rw [e] at ho
    subst ho
    by_cases h30 : 30 < S.length + 1
    · refine v_icmp_le X (tgt := 215) dX12_gets_200 rfl 203 rfl (a := none) (b := some ()) (o := ()) (if_neg (by rw [ofn_app]; exact nI_ge (a := 30) (by omega) (by omega))) (fun h => nomatch h) (fun _ => ?_)
      refine v_aload_n X dX12_gets_203 4 rfl rfl 204 rfl ?_
      refine v_aload_n X dX12_gets_204 4 rfl rfl 205 rfl ?_
      refine v_get X (C := RX12) (T := TX12) (N := 14) (ci := 13) (v := _) dX12_gets_205 (lay_of layhx_X12) 0 rfl rfl 10 (by decide) (mw whx_16) rfl rfl 208 rfl ?_
      refine v_iconst X dX12_gets_208 ic_0 209 rfl ?_
      refine v_eq (st2 := [.int (nI 0), .ref ua2, .ref (ha 0)]) rfl rfl rfl rfl ?_
      refine v_perm perm_sw ?_
      refine v_perm (ws' := [(ua2, .inl (c9 4, (S ++ [(row, (useRow h g))]).length, .inr (.inr (.inr (.inr (outF (S ++ [(row, (useRow h g))])))))))]) (F' := rowsW c9 4 (S ++ [(row, (useRow h g))]) ++ (([((ha 0), .inr (13, [.int (FH.tol h), .ref (ha 1), .ref (ha 2), .ref (ha 3), .ref (ha 4), .ref (ha 5), .ref (ha 6), .ref (ha 7), .ref (ha 8), .ref ta, .ref ua2, .int (FH.seed h), .int (FH.time h), .int (FH.next h)])), ((ha 1), .inl (c9 0, 3, .inl (FH.life h))), ((ha 2), .inl (c9 0, 3, .inl (FH.again h))), ((ha 3), .inl (c9 0, 3, .inl (FH.fast h))), ((ha 4), .inl (c9 0, 3, .inl (FH.home h))), ((ha 5), .inl (c9 0, 3, .inl (FH.own h))), ((ha 6), .inl (c9 0, 3, .inl (upd (FH.had h) (g 2).toNatClampNeg (((FH.had h) (g 2).toNatClampNeg) + 1)))), ((ha 7), .inl (c9 0, 2, .inl (FH.place h))), ((ha 8), .inl (c9 0, 2, .inl (upd (FH.left h) (g 4).toNatClampNeg (((FH.left h) (g 4).toNatClampNeg) - 1)))), (ta, .inl (c9 4, R.length, .inr (.inr (.inr (.inr (outF R))))))] : va_W) ++ (rowsW c9 10 R ++ F0))) (perm_w1 (perm_is (ws' := [(ua2, .inl (c9 4, (S ++ [(row, (useRow h g))]).length, .inr (.inr (.inr (.inr (outF (S ++ [(row, (useRow h g))]))))))), ((ha 0), .inr (13, [.int (FH.tol h), .ref (ha 1), .ref (ha 2), .ref (ha 3), .ref (ha 4), .ref (ha 5), .ref (ha 6), .ref (ha 7), .ref (ha 8), .ref ta, .ref ua2, .int (FH.seed h), .int (FH.time h), .int (FH.next h)])), ((ha 1), .inl (c9 0, 3, .inl (FH.life h))), ((ha 2), .inl (c9 0, 3, .inl (FH.again h))), ((ha 3), .inl (c9 0, 3, .inl (FH.fast h))), ((ha 4), .inl (c9 0, 3, .inl (FH.home h))), ((ha 5), .inl (c9 0, 3, .inl (FH.own h))), ((ha 6), .inl (c9 0, 3, .inl (upd (FH.had h) (g 2).toNatClampNeg (((FH.had h) (g 2).toNatClampNeg) + 1)))), ((ha 7), .inl (c9 0, 2, .inl (FH.place h))), ((ha 8), .inl (c9 0, 2, .inl (upd (FH.left h) (g 4).toNatClampNeg (((FH.left h) (g 4).toNatClampNeg) - 1)))), (ta, .inl (c9 4, R.length, .inr (.inr (.inr (.inr (outF R))))))]) [10, 0, 1, 2, 3, 4, 5, 6, 7, 8, 9] rfl 11 rfl rfl)) ?_
      refine v_gr X (S := Nat) (ws' := fun ua3 => [outW c9 ua3 ((S ++ [(row, (useRow h g))]).eraseIdx 0)]) (F' := fun _ => rowsW c9 4 ((S ++ [(row, (useRow h g))]).eraseIdx 0) ++ (([((ha 0), .inr (13, [.int (FH.tol h), .ref (ha 1), .ref (ha 2), .ref (ha 3), .ref (ha 4), .ref (ha 5), .ref (ha 6), .ref (ha 7), .ref (ha 8), .ref ta, .ref ua2, .int (FH.seed h), .int (FH.time h), .int (FH.next h)])), ((ha 1), .inl (c9 0, 3, .inl (FH.life h))), ((ha 2), .inl (c9 0, 3, .inl (FH.again h))), ((ha 3), .inl (c9 0, 3, .inl (FH.fast h))), ((ha 4), .inl (c9 0, 3, .inl (FH.home h))), ((ha 5), .inl (c9 0, 3, .inl (FH.own h))), ((ha 6), .inl (c9 0, 3, .inl (upd (FH.had h) (g 2).toNatClampNeg (((FH.had h) (g 2).toNatClampNeg) + 1)))), ((ha 7), .inl (c9 0, 2, .inl (FH.place h))), ((ha 8), .inl (c9 0, 2, .inl (upd (FH.left h) (g 4).toNatClampNeg (((FH.left h) (g 4).toNatClampNeg) - 1)))), (ta, .inl (c9 4, R.length, .inr (.inr (.inr (.inr (outF R))))))] : va_W) ++ (rowsW c9 10 R ++ F0))) (r_S X (As := [.ref ua2, .int (nI 0)]) (rest := [.ref (ha 0)]) (r_pc X) (c_without l hG D c9 hGU hGV (wd := 4) (at9 := 0) (R := (S ++ [(row, (useRow h g))])) (Z := ([((ha 0), .inr (13, [.int (FH.tol h), .ref (ha 1), .ref (ha 2), .ref (ha 3), .ref (ha 4), .ref (ha 5), .ref (ha 6), .ref (ha 7), .ref (ha 8), .ref ta, .ref ua2, .int (FH.seed h), .int (FH.time h), .int (FH.next h)])), ((ha 1), .inl (c9 0, 3, .inl (FH.life h))), ((ha 2), .inl (c9 0, 3, .inl (FH.again h))), ((ha 3), .inl (c9 0, 3, .inl (FH.fast h))), ((ha 4), .inl (c9 0, 3, .inl (FH.home h))), ((ha 5), .inl (c9 0, 3, .inl (FH.own h))), ((ha 6), .inl (c9 0, 3, .inl (upd (FH.had h) (g 2).toNatClampNeg (((FH.had h) (g 2).toNatClampNeg) + 1)))), ((ha 7), .inl (c9 0, 2, .inl (FH.place h))), ((ha 8), .inl (c9 0, 2, .inl (upd (FH.left h) (g 4).toNatClampNeg (((FH.left h) (g 4).toNatClampNeg) - 1)))), (ta, .inl (c9 4, R.length, .inr (.inr (.inr (.inr (outF R))))))] : va_W) ++ (rowsW c9 10 R ++ F0)) (by rw [List.length_append, List.length_singleton]; omega) (by rw [List.length_append, List.length_singleton]; omega)) 2 (gS whx_24 whx_25 whx_22 whx_26) rfl rfl rfl (by decide +kernel) ⟨Nat.le_of_ble_eq_true rfl, Nat.le_of_ble_eq_true rfl⟩ rfl rfl (Nat.le_of_ble_eq_true rfl) ⟨(by first | exact Nat.le_of_ble_eq_true rfl | omega | (dsimp only; omega)), (by first | exact Nat.le_of_ble_eq_true rfl | omega | (dsimp only; omega))⟩ dX12_gets_209) (fun _ => rfl) 212 rfl (fun ua3 _ => ?_)
      refine v_perm (ws' := [((ha 0), .inr (13, [.int (FH.tol h), .ref (ha 1), .ref (ha 2), .ref (ha 3), .ref (ha 4), .ref (ha 5), .ref (ha 6), .ref (ha 7), .ref (ha 8), .ref ta, .ref ua2, .int (FH.seed h), .int (FH.time h), .int (FH.next h)])), ((ha 1), .inl (c9 0, 3, .inl (FH.life h))), ((ha 2), .inl (c9 0, 3, .inl (FH.again h))), ((ha 3), .inl (c9 0, 3, .inl (FH.fast h))), ((ha 4), .inl (c9 0, 3, .inl (FH.home h))), ((ha 5), .inl (c9 0, 3, .inl (FH.own h))), ((ha 6), .inl (c9 0, 3, .inl (upd (FH.had h) (g 2).toNatClampNeg (((FH.had h) (g 2).toNatClampNeg) + 1)))), ((ha 7), .inl (c9 0, 2, .inl (FH.place h))), ((ha 8), .inl (c9 0, 2, .inl (upd (FH.left h) (g 4).toNatClampNeg (((FH.left h) (g 4).toNatClampNeg) - 1)))), (ta, .inl (c9 4, R.length, .inr (.inr (.inr (.inr (outF R)))))), (ua3, .inl (c9 4, ((S ++ [(row, (useRow h g))]).eraseIdx 0).length, .inr (.inr (.inr (.inr (outF ((S ++ [(row, (useRow h g))]).eraseIdx 0)))))))]) (F' := rowsW c9 4 ((S ++ [(row, (useRow h g))]).eraseIdx 0) ++ (rowsW c9 10 R ++ F0)) (perm_b (perm_is (ws' := [(ua3, .inl (c9 4, ((S ++ [(row, (useRow h g))]).eraseIdx 0).length, .inr (.inr (.inr (.inr (outF ((S ++ [(row, (useRow h g))]).eraseIdx 0))))))), ((ha 0), .inr (13, [.int (FH.tol h), .ref (ha 1), .ref (ha 2), .ref (ha 3), .ref (ha 4), .ref (ha 5), .ref (ha 6), .ref (ha 7), .ref (ha 8), .ref ta, .ref ua2, .int (FH.seed h), .int (FH.time h), .int (FH.next h)])), ((ha 1), .inl (c9 0, 3, .inl (FH.life h))), ((ha 2), .inl (c9 0, 3, .inl (FH.again h))), ((ha 3), .inl (c9 0, 3, .inl (FH.fast h))), ((ha 4), .inl (c9 0, 3, .inl (FH.home h))), ((ha 5), .inl (c9 0, 3, .inl (FH.own h))), ((ha 6), .inl (c9 0, 3, .inl (upd (FH.had h) (g 2).toNatClampNeg (((FH.had h) (g 2).toNatClampNeg) + 1)))), ((ha 7), .inl (c9 0, 2, .inl (FH.place h))), ((ha 8), .inl (c9 0, 2, .inl (upd (FH.left h) (g 4).toNatClampNeg (((FH.left h) (g 4).toNatClampNeg) - 1)))), (ta, .inl (c9 4, R.length, .inr (.inr (.inr (.inr (outF R))))))]) [10, 0, 1, 2, 3, 4, 5, 6, 7, 8, 9] rfl 11 rfl rfl)) ?_
      refine v_perm perm_sw ?_
      refine v_put X (C := RX12) (T := TX12) (N := 14) (ci := 13) (ty := tyX12 10) (ws' := [((ha 0), .inr (13, [.int (FH.tol h), .ref (ha 1), .ref (ha 2), .ref (ha 3), .ref (ha 4), .ref (ha 5), .ref (ha 6), .ref (ha 7), .ref (ha 8), .ref ta, .ref ua3, .int (FH.seed h), .int (FH.time h), .int (FH.next h)])), ((ha 1), .inl (c9 0, 3, .inl (FH.life h))), ((ha 2), .inl (c9 0, 3, .inl (FH.again h))), ((ha 3), .inl (c9 0, 3, .inl (FH.fast h))), ((ha 4), .inl (c9 0, 3, .inl (FH.home h))), ((ha 5), .inl (c9 0, 3, .inl (FH.own h))), ((ha 6), .inl (c9 0, 3, .inl (upd (FH.had h) (g 2).toNatClampNeg (((FH.had h) (g 2).toNatClampNeg) + 1)))), ((ha 7), .inl (c9 0, 2, .inl (FH.place h))), ((ha 8), .inl (c9 0, 2, .inl (upd (FH.left h) (g 4).toNatClampNeg (((FH.left h) (g 4).toNatClampNeg) - 1)))), (ta, .inl (c9 4, R.length, .inr (.inr (.inr (.inr (outF R)))))), (ua3, .inl (c9 4, ((S ++ [(row, (useRow h g))]).eraseIdx 0).length, .inr (.inr (.inr (.inr (outF ((S ++ [(row, (useRow h g))]).eraseIdx 0)))))))]) dX12_gets_212 (lay_of layhx_X12) 0 rfl rfl 10 (by decide) tyX12 tyX12_ok nmX12 (mw whx_16) rfl rfl (tyX12_ok 10 (by decide)) rfl rfl (Nat.le_of_ble_eq_true rfl) rfl 215 rfl ?_
      refine v_aload_n X dX12_gets_215 4 rfl rfl 216 rfl ?_
      refine v_get X (C := RX12) (T := TX12) (N := 14) (ci := 13) (v := _) dX12_gets_216 (lay_of layhx_X12) 0 rfl rfl 6 (by decide) (mw whx_15) rfl rfl 219 rfl ?_
      refine v_aload_n X dX12_gets_219 3 rfl rfl 220 rfl ?_
      refine v_iconst X dX12_gets_220 ic_2 221 rfl ?_
      refine v_ildF X dX12_gets_221 (11 + k1) 0 (row_at (ws := [_, _, _, _, _, _, _, _, _, _, _]) hRi) rfl (rd_nI9 (f := g) (k := 2) (show 2 < 10 by decide) (by decide)) 222 rfl ?_
      refine v_iald X dX12_gets_222 6 0 rfl rfl (rd_v (f := (upd (FH.had h) (g 2).toNatClampNeg (((FH.had h) (g 2).toNatClampNeg) + 1))) hu2) 223 rfl ?_
      exact v_jret (ta, ua3, R, ((S ++ [(row, (useRow h g))]).eraseIdx 0)) ⟨rfl, by rw [map_era, List.map_append]; unfold hCut; rw [if_pos (by rw [List.length_append, List.length_map]; exact h30)]; rfl⟩ (if_pos rfl) (List.Perm.refl _) X (by first | exact Nat.le_of_ble_eq_true rfl | omega | (dsimp only; omega)) (by first | exact Nat.le_of_ble_eq_true rfl | omega | (dsimp only; omega)) dX12_gets_223
    · refine v_icmp_le X (tgt := 215) dX12_gets_200 rfl 203 rfl (a := some ()) (b := none) (o := ()) (if_pos (by rw [ofn_app]; exact nI_le (b := 30) (by omega) (by decide))) (fun _ => ?_) (fun h => nomatch h)
      refine v_aload_n X dX12_gets_215 4 rfl rfl 216 rfl ?_
      refine v_get X (C := RX12) (T := TX12) (N := 14) (ci := 13) (v := _) dX12_gets_216 (lay_of layhx_X12) 0 rfl rfl 6 (by decide) (mw whx_15) rfl rfl 219 rfl ?_
      refine v_aload_n X dX12_gets_219 3 rfl rfl 220 rfl ?_
      refine v_iconst X dX12_gets_220 ic_2 221 rfl ?_
      refine v_ildF X dX12_gets_221 (11 + k1) 0 (row_at (ws := [_, _, _, _, _, _, _, _, _, _, _]) hRi) rfl (rd_nI9 (f := g) (k := 2) (show 2 < 10 by decide) (by decide)) 222 rfl ?_
      refine v_iald X dX12_gets_222 6 0 rfl rfl (rd_v (f := (upd (FH.had h) (g 2).toNatClampNeg (((FH.had h) (g 2).toNatClampNeg) + 1))) hu2) 223 rfl ?_
      exact v_jret (ta, ua2, R, (S ++ [(row, (useRow h g))])) ⟨rfl, by rw [List.map_append]; unfold hCut; rw [if_neg (by rw [List.length_append, List.length_map]; exact h30)]; rfl⟩ (if_pos rfl) (List.Perm.refl _) X (by first | exact Nat.le_of_ble_eq_true rfl | omega | (dsimp only; omega)) (by first | exact Nat.le_of_ble_eq_true rfl | omega | (dsimp only; omega)) dX12_gets_223
set_option maxRecDepth 100000 in
set_option maxHeartbeats 400000 in
theorem h_gets45 {p : Program} {l : Launch} {e : Env} {s : State} {m : MethodId} {args : Array Value} {below : List Frame} {meth : Method} {c : Code} {A : Nat → Prop} {G : (Nat → Prop) → State → Heap → Prop} (hG : vG G) (D : va_G) (c9 : Nat → ClassId) {sk sv : Nat → Nat} (hGU : ∀ (A : Nat → Prop) (U : State) (H : Heap), G A U H → vU sk sv A U H) (hGV : ∀ (A : Nat → Prop) (U : State) (H : Heap), G A U H → vV A U H) (X : vX p s m args meth c cX12_gets 6 (some .int) RX12 (wq yX12_gets cX12_gets 6 (some .int)) D (tyA c9) G A) {ha : Nat → Nat} {ta ua : Nat} {h : FH} {R S : List (Nat × Row)} {F0 : va_W} {k1 a1 : Nat} {g : Row} {o : HO} {k b1 : Nat} {f : Row} (ho : hGets h (S.map Prod.snd) g = o) (hl2 : S.length ≤ 30) (hRi : R[k1]? = some (a1, g)) (hu2 : vp_in (g 2) 3) (hu3 : vp_in (g 3) 3) (hp1 : ¬ (g 1 ≠ 1 ∨ g 6 ≤ FH.time h ∨ hSk h (g 2) (g 3) = true)) (hu4 : vp_in (g 4) 2) (hk : k < S.length) (hSi : S[k]? = some (b1, f)) (h0 : ((S.map Prod.snd).take k).any (hits h g) = false) (K : ((S.map Prod.snd).take (k + 1)).any (hits h g) = false → vW p l e { frames := 2, cells := 3, slots := 100, locals := 52 } s m args below meth c 6 D A (wHF c9 R S F0) 0 0 (MQ below (qJ D (tyA c9) A o.1 (fun (u : HS) => u.2.2.1.map Prod.snd = (R.map Prod.snd) ∧ u.2.2.2.map Prod.snd = o.2.2) (fun (u : HS) => wH ha c9 u.1 u.2.1 o.2.1 u.2.2.1 u.2.2.2 ++ wHF c9 u.2.2.1 u.2.2.2 F0)) args s 3 100 A) [((ha 0), .inr (13, [.int (FH.tol h), .ref (ha 1), .ref (ha 2), .ref (ha 3), .ref (ha 4), .ref (ha 5), .ref (ha 6), .ref (ha 7), .ref (ha 8), .ref ta, .ref ua, .int (FH.seed h), .int (FH.time h), .int (FH.next h)])), ((ha 1), .inl (c9 0, 3, .inl (FH.life h))), ((ha 2), .inl (c9 0, 3, .inl (FH.again h))), ((ha 3), .inl (c9 0, 3, .inl (FH.fast h))), ((ha 4), .inl (c9 0, 3, .inl (FH.home h))), ((ha 5), .inl (c9 0, 3, .inl (FH.own h))), ((ha 6), .inl (c9 0, 3, .inl (FH.had h))), ((ha 7), .inl (c9 0, 2, .inl (FH.place h))), ((ha 8), .inl (c9 0, 2, .inl (FH.left h))), (ta, .inl (c9 4, R.length, .inr (.inr (.inr (.inr (outF R)))))), (ua, .inl (c9 4, S.length, .inr (.inr (.inr (.inr (outF S))))))] 45 [(4, .int (nI (k + 1))), (3, .int (nI S.length)), (2, .ref ua), (1, .ref a1), (0, .ref (ha 0))] []) : vW p l e { frames := 2, cells := 3, slots := 100, locals := 52 } s m args below meth c 6 D A (wHF c9 R S F0) 0 0 (MQ below (qJ D (tyA c9) A o.1 (fun (u : HS) => u.2.2.1.map Prod.snd = (R.map Prod.snd) ∧ u.2.2.2.map Prod.snd = o.2.2) (fun (u : HS) => wH ha c9 u.1 u.2.1 o.2.1 u.2.2.1 u.2.2.2 ++ wHF c9 u.2.2.1 u.2.2.2 F0)) args s 3 100 A) [((ha 0), .inr (13, [.int (FH.tol h), .ref (ha 1), .ref (ha 2), .ref (ha 3), .ref (ha 4), .ref (ha 5), .ref (ha 6), .ref (ha 7), .ref (ha 8), .ref ta, .ref ua, .int (FH.seed h), .int (FH.time h), .int (FH.next h)])), ((ha 1), .inl (c9 0, 3, .inl (FH.life h))), ((ha 2), .inl (c9 0, 3, .inl (FH.again h))), ((ha 3), .inl (c9 0, 3, .inl (FH.fast h))), ((ha 4), .inl (c9 0, 3, .inl (FH.home h))), ((ha 5), .inl (c9 0, 3, .inl (FH.own h))), ((ha 6), .inl (c9 0, 3, .inl (FH.had h))), ((ha 7), .inl (c9 0, 2, .inl (FH.place h))), ((ha 8), .inl (c9 0, 2, .inl (FH.left h))), (ta, .inl (c9 4, R.length, .inr (.inr (.inr (.inr (outF R)))))), (ua, .inl (c9 4, S.length, .inr (.inr (.inr (.inr (outF S))))))] 45 [(4, .int (nI k)), (3, .int (nI S.length)), (2, .ref ua), (1, .ref a1), (0, .ref (ha 0))] [] := by
  have hov : va_AI s := (hGV A s s.heap X.2.2.2.2.2.2.2.2.2.2).2
  refine v_iload X dX12_gets_45 0 rfl 47 rfl ?_
  refine v_iload_n X dX12_gets_47 1 rfl rfl 48 rfl ?_
  refine v_icmp_ge X (tgt := 106) dX12_gets_48 rfl 51 rfl (a := none) (b := some ()) (o := ()) (if_neg (nI_ge hk (by omega))) (fun h => nomatch h) (fun _ => ?_)
  refine v_aload_n X dX12_gets_51 2 rfl rfl 52 rfl ?_
  refine v_iload X dX12_gets_52 0 rfl 54 rfl ?_
  refine v_aald X dX12_gets_54 10 4 rfl rfl (vp_in_nI (show k < S.length by omega) (by omega)) 55 rfl ?_
  rw [nI_clamp (show k < 2 ^ 31 by omega), out_some hSi]
  refine v_eq (st2 := [.ref b1]) rfl rfl rfl rfl ?_
  refine v_astore X (lv' := [(5, .ref b1), (4, .int (nI k)), (3, .int (nI S.length)), (2, .ref ua), (1, .ref a1), (0, .ref (ha 0))]) dX12_gets_55 (by decide) rfl 57 rfl ?_
  refine v_aload X dX12_gets_57 0 rfl 59 rfl ?_
  refine v_iconst X dX12_gets_59 ic_0 60 rfl ?_
  refine v_ildF X dX12_gets_60 (11 + ((rowsW c9 10 R).length + k)) 0 (row_at2 (ws := [_, _, _, _, _, _, _, _, _, _, _]) (Z := rowsW c9 10 R) hSi) rfl (rd_nI9 (f := f) (k := 0) (show 0 < 4 by decide) (by decide)) 61 rfl ?_
  refine v_aload_n X dX12_gets_61 4 rfl rfl 62 rfl ?_
  refine v_iconst X dX12_gets_62 ic_2 63 rfl ?_
  refine v_ildF X dX12_gets_63 (11 + k1) 0 (row_at (ws := [_, _, _, _, _, _, _, _, _, _, _]) hRi) rfl (rd_nI9 (f := g) (k := 2) (show 2 < 10 by decide) (by decide)) 64 rfl ?_
  by_cases hc0 : f 0 = g 2
  · refine v_icmp_ne X (tgt := 100) dX12_gets_64 rfl 67 rfl (a := none) (b := some ()) (o := ()) (if_pos hc0) (fun h => nomatch h) (fun _ => ?_)
    refine v_aload X dX12_gets_67 0 rfl 69 rfl ?_
    refine v_iconst X dX12_gets_69 ic_1 70 rfl ?_
    refine v_ildF X dX12_gets_70 (11 + ((rowsW c9 10 R).length + k)) 0 (row_at2 (ws := [_, _, _, _, _, _, _, _, _, _, _]) (Z := rowsW c9 10 R) hSi) rfl (rd_nI9 (f := f) (k := 1) (show 1 < 4 by decide) (by decide)) 71 rfl ?_
    refine v_aload_n X dX12_gets_71 4 rfl rfl 72 rfl ?_
    refine v_iconst X dX12_gets_72 ic_4 73 rfl ?_
    refine v_ildF X dX12_gets_73 (11 + k1) 0 (row_at (ws := [_, _, _, _, _, _, _, _, _, _, _]) hRi) rfl (rd_nI9 (f := g) (k := 4) (show 4 < 10 by decide) (by decide)) 74 rfl ?_
    by_cases hc1 : f 1 = g 4
    · refine v_icmp_ne X (tgt := 100) dX12_gets_74 rfl 77 rfl (a := none) (b := some ()) (o := ()) (if_pos hc1) (fun h => nomatch h) (fun _ => ?_)
      refine v_aload X dX12_gets_77 0 rfl 79 rfl ?_
      refine v_iconst X dX12_gets_79 ic_2 80 rfl ?_
      refine v_ildF X dX12_gets_80 (11 + ((rowsW c9 10 R).length + k)) 0 (row_at2 (ws := [_, _, _, _, _, _, _, _, _, _, _]) (Z := rowsW c9 10 R) hSi) rfl (rd_nI9 (f := f) (k := 2) (show 2 < 4 by decide) (by decide)) 81 rfl ?_
      refine v_aload_n X dX12_gets_81 5 rfl rfl 82 rfl ?_
      refine v_get X (C := RX12) (T := TX12) (N := 14) (ci := 13) (v := _) dX12_gets_82 (lay_of layhx_X12) 0 rfl rfl 12 (by decide) (mw whx_18) rfl rfl 85 rfl ?_
      refine v_aload_n X dX12_gets_85 5 rfl rfl 86 rfl ?_
      refine v_get X (C := RX12) (T := TX12) (N := 14) (ci := 13) (v := _) dX12_gets_86 (lay_of layhx_X12) 0 rfl rfl 5 (by decide) (mw whx_19) rfl rfl 89 rfl ?_
      refine v_aload_n X dX12_gets_89 4 rfl rfl 90 rfl ?_
      refine v_iconst X dX12_gets_90 ic_2 91 rfl ?_
      refine v_ildF X dX12_gets_91 (11 + k1) 0 (row_at (ws := [_, _, _, _, _, _, _, _, _, _, _]) hRi) rfl (rd_nI9 (f := g) (k := 2) (show 2 < 10 by decide) (by decide)) 92 rfl ?_
      refine v_iald X dX12_gets_92 5 0 rfl rfl (rd_v (f := (FH.own h)) hu2) 93 rfl ?_
      refine v_iadd X dX12_gets_93 94 rfl ?_
      by_cases hc2 : f 2 = FH.time h + FH.own h (g 2).toNatClampNeg
      · refine v_icmp_ne X (tgt := 100) dX12_gets_94 rfl 97 rfl (a := none) (b := some ()) (o := ()) (if_pos hc2) (fun h => nomatch h) (fun _ => ?_)
        have e : hGets h (S.map Prod.snd) g = (-9, h, S.map Prod.snd) := by unfold hGets; rw [if_neg hp1, if_pos (any_hit hSi (hits_of hc0 hc1 hc2))]
        rw [e] at ho
        subst ho
        refine v_bipush X dX12_gets_97 bp_m9 99 rfl ?_
        exact v_jret (ta, ua, R, S) ⟨rfl, rfl⟩ rfl (List.Perm.refl _) X (by first | exact Nat.le_of_ble_eq_true rfl | omega | (dsimp only; omega)) (by first | exact Nat.le_of_ble_eq_true rfl | omega | (dsimp only; omega)) dX12_gets_99
      · refine v_icmp_ne X (tgt := 100) dX12_gets_94 rfl 97 rfl (a := some ()) (b := none) (o := ()) (if_neg hc2) (fun _ => ?_) (fun h => nomatch h)
        refine v_iinc X (lv' := [(4, .int ((nI k) + 1)), (5, .ref b1), (3, .int (nI S.length)), (2, .ref ua), (1, .ref a1), (0, .ref (ha 0))]) dX12_gets_100 1 rfl ic_1 (by decide) rfl 103 rfl ?_
        refine v_goto X (tgt := 45) dX12_gets_103 rfl ?_
        refine v_sub (lv' := [(4, .int ((nI k) + 1)), (3, .int (nI S.length)), (2, .ref ua), (1, .ref a1), (0, .ref (ha 0))]) [0, 2, 3, 4, 5] rfl ?_
        refine v_eq (lv2 := [(4, .int (nI (k + 1))), (3, .int (nI S.length)), (2, .ref ua), (1, .ref a1), (0, .ref (ha 0))]) rfl rfl (by rw [show nI k + 1 = nI (k + 1) from nI_1 _]) rfl ?_
        exact K (any_succ hSi h0 (hits_not (fun z => hc2 z.2.2)))
    · refine v_icmp_ne X (tgt := 100) dX12_gets_74 rfl 77 rfl (a := some ()) (b := none) (o := ()) (if_neg hc1) (fun _ => ?_) (fun h => nomatch h)
      refine v_iinc X (lv' := [(4, .int ((nI k) + 1)), (5, .ref b1), (3, .int (nI S.length)), (2, .ref ua), (1, .ref a1), (0, .ref (ha 0))]) dX12_gets_100 1 rfl ic_1 (by decide) rfl 103 rfl ?_
      refine v_goto X (tgt := 45) dX12_gets_103 rfl ?_
      refine v_sub (lv' := [(4, .int ((nI k) + 1)), (3, .int (nI S.length)), (2, .ref ua), (1, .ref a1), (0, .ref (ha 0))]) [0, 2, 3, 4, 5] rfl ?_
      refine v_eq (lv2 := [(4, .int (nI (k + 1))), (3, .int (nI S.length)), (2, .ref ua), (1, .ref a1), (0, .ref (ha 0))]) rfl rfl (by rw [show nI k + 1 = nI (k + 1) from nI_1 _]) rfl ?_
      exact K (any_succ hSi h0 (hits_not (fun z => hc1 z.2.1)))
  · refine v_icmp_ne X (tgt := 100) dX12_gets_64 rfl 67 rfl (a := some ()) (b := none) (o := ()) (if_neg hc0) (fun _ => ?_) (fun h => nomatch h)
    refine v_iinc X (lv' := [(4, .int ((nI k) + 1)), (5, .ref b1), (3, .int (nI S.length)), (2, .ref ua), (1, .ref a1), (0, .ref (ha 0))]) dX12_gets_100 1 rfl ic_1 (by decide) rfl 103 rfl ?_
    refine v_goto X (tgt := 45) dX12_gets_103 rfl ?_
    refine v_sub (lv' := [(4, .int ((nI k) + 1)), (3, .int (nI S.length)), (2, .ref ua), (1, .ref a1), (0, .ref (ha 0))]) [0, 2, 3, 4, 5] rfl ?_
    refine v_eq (lv2 := [(4, .int (nI (k + 1))), (3, .int (nI S.length)), (2, .ref ua), (1, .ref a1), (0, .ref (ha 0))]) rfl rfl (by rw [show nI k + 1 = nI (k + 1) from nI_1 _]) rfl ?_
    exact K (any_succ hSi h0 (hits_not (fun z => hc0 z.1)))
set_option maxRecDepth 100000 in
set_option maxHeartbeats 400000 in
theorem h_gets34 {p : Program} {l : Launch} {e : Env} {s : State} {m : MethodId} {args : Array Value} {below : List Frame} {meth : Method} {c : Code} {A : Nat → Prop} {G : (Nat → Prop) → State → Heap → Prop} (hG : vG G) (D : va_G) (c9 : Nat → ClassId) {sk sv : Nat → Nat} (hGU : ∀ (A : Nat → Prop) (U : State) (H : Heap), G A U H → vU sk sv A U H) (hGV : ∀ (A : Nat → Prop) (U : State) (H : Heap), G A U H → vV A U H) (X : vX p s m args meth c cX12_gets 6 (some .int) RX12 (wq yX12_gets cX12_gets 6 (some .int)) D (tyA c9) G A) {ha : Nat → Nat} {ta ua : Nat} {h : FH} {R S : List (Nat × Row)} {F0 : va_W} {k1 a1 : Nat} {g : Row} {o : HO} (ho : hGets h (S.map Prod.snd) g = o) (hl2 : S.length ≤ 30) (hRi : R[k1]? = some (a1, g)) (hu2 : vp_in (g 2) 3) (hu3 : vp_in (g 3) 3) (hp1 : ¬ (g 1 ≠ 1 ∨ g 6 ≤ FH.time h ∨ hSk h (g 2) (g 3) = true)) (hu4 : vp_in (g 4) 2) : vW p l e { frames := 2, cells := 3, slots := 100, locals := 52 } s m args below meth c 6 D A (wHF c9 R S F0) 0 0 (MQ below (qJ D (tyA c9) A o.1 (fun (u : HS) => u.2.2.1.map Prod.snd = (R.map Prod.snd) ∧ u.2.2.2.map Prod.snd = o.2.2) (fun (u : HS) => wH ha c9 u.1 u.2.1 o.2.1 u.2.2.1 u.2.2.2 ++ wHF c9 u.2.2.1 u.2.2.2 F0)) args s 3 100 A) [((ha 0), .inr (13, [.int (FH.tol h), .ref (ha 1), .ref (ha 2), .ref (ha 3), .ref (ha 4), .ref (ha 5), .ref (ha 6), .ref (ha 7), .ref (ha 8), .ref ta, .ref ua, .int (FH.seed h), .int (FH.time h), .int (FH.next h)])), ((ha 1), .inl (c9 0, 3, .inl (FH.life h))), ((ha 2), .inl (c9 0, 3, .inl (FH.again h))), ((ha 3), .inl (c9 0, 3, .inl (FH.fast h))), ((ha 4), .inl (c9 0, 3, .inl (FH.home h))), ((ha 5), .inl (c9 0, 3, .inl (FH.own h))), ((ha 6), .inl (c9 0, 3, .inl (FH.had h))), ((ha 7), .inl (c9 0, 2, .inl (FH.place h))), ((ha 8), .inl (c9 0, 2, .inl (FH.left h))), (ta, .inl (c9 4, R.length, .inr (.inr (.inr (.inr (outF R)))))), (ua, .inl (c9 4, S.length, .inr (.inr (.inr (.inr (outF S))))))] 34 [(0, .ref (ha 0)), (1, .ref a1)] [] := by
  have hov : va_AI s := (hGV A s s.heap X.2.2.2.2.2.2.2.2.2.2).2
  refine v_aload_n X dX12_gets_34 0 rfl rfl 35 rfl ?_
  refine v_get X (C := RX12) (T := TX12) (N := 14) (ci := 13) (v := _) dX12_gets_35 (lay_of layhx_X12) 0 rfl rfl 10 (by decide) (mw whx_16) rfl rfl 38 rfl ?_
  refine v_astore_n X (lv' := [(2, .ref ua), (0, .ref (ha 0)), (1, .ref a1)]) dX12_gets_38 rfl (by decide) rfl 39 rfl ?_
  refine v_aload_n X dX12_gets_39 0 rfl rfl 40 rfl ?_
  refine v_alen X dX12_gets_40 10 4 rfl rfl rfl 41 rfl ?_
  refine v_istore_n X (lv' := [(3, .int (Int32.ofNat S.length)), (2, .ref ua), (0, .ref (ha 0)), (1, .ref a1)]) dX12_gets_41 rfl (by decide) rfl 42 rfl ?_
  refine v_iconst X dX12_gets_42 ic_0 43 rfl ?_
  refine v_istore X (lv' := [(4, .int 0), (3, .int (Int32.ofNat S.length)), (2, .ref ua), (0, .ref (ha 0)), (1, .ref a1)]) dX12_gets_43 (by decide) rfl 45 rfl ?_
  refine v_sub (lv' := [(4, .int 0), (3, .int (Int32.ofNat S.length)), (2, .ref ua), (1, .ref a1), (0, .ref (ha 0))]) [0, 1, 2, 4, 3] rfl ?_
  have hloop : ∀ k9 k, k + k9 = S.length → ((S.map Prod.snd).take k).any (hits h g) = false → vW p l e { frames := 2, cells := 3, slots := 100, locals := 52 } s m args below meth c 6 D A (wHF c9 R S F0) 0 0 (MQ below (qJ D (tyA c9) A o.1 (fun (u : HS) => u.2.2.1.map Prod.snd = (R.map Prod.snd) ∧ u.2.2.2.map Prod.snd = o.2.2) (fun (u : HS) => wH ha c9 u.1 u.2.1 o.2.1 u.2.2.1 u.2.2.2 ++ wHF c9 u.2.2.1 u.2.2.2 F0)) args s 3 100 A) [((ha 0), .inr (13, [.int (FH.tol h), .ref (ha 1), .ref (ha 2), .ref (ha 3), .ref (ha 4), .ref (ha 5), .ref (ha 6), .ref (ha 7), .ref (ha 8), .ref ta, .ref ua, .int (FH.seed h), .int (FH.time h), .int (FH.next h)])), ((ha 1), .inl (c9 0, 3, .inl (FH.life h))), ((ha 2), .inl (c9 0, 3, .inl (FH.again h))), ((ha 3), .inl (c9 0, 3, .inl (FH.fast h))), ((ha 4), .inl (c9 0, 3, .inl (FH.home h))), ((ha 5), .inl (c9 0, 3, .inl (FH.own h))), ((ha 6), .inl (c9 0, 3, .inl (FH.had h))), ((ha 7), .inl (c9 0, 2, .inl (FH.place h))), ((ha 8), .inl (c9 0, 2, .inl (FH.left h))), (ta, .inl (c9 4, R.length, .inr (.inr (.inr (.inr (outF R)))))), (ua, .inl (c9 4, S.length, .inr (.inr (.inr (.inr (outF S))))))] 45 [(4, .int (nI k)), (3, .int (nI S.length)), (2, .ref ua), (1, .ref a1), (0, .ref (ha 0))] [] := by
    intro k9
    induction k9 with
    | zero =>
      intro k hk h0
      obtain rfl : k = S.length := by omega
      refine v_iload X dX12_gets_45 0 rfl 47 rfl ?_
      refine v_iload_n X dX12_gets_47 1 rfl rfl 48 rfl ?_
      refine v_icmp_ge X (tgt := 106) dX12_gets_48 rfl 51 rfl (a := some ()) (b := none) (o := ()) (if_pos (nI_le (Nat.le_refl _) (by omega))) (fun _ => ?_) (fun h => nomatch h)
      exact h_gets106 hG D c9 hGU hGV X ho hl2 hRi hu2 hu3 hp1 hu4 (by rw [List.take_of_length_le (by rw [List.length_map]; exact Nat.le_refl _)] at h0; exact h0)
    | succ k9 ih =>
      intro k hk h0
      obtain ⟨⟨b1, g1⟩, h1⟩ : ∃ x, S[k]? = some x := ⟨_, List.getElem?_eq_getElem (by omega)⟩
      exact h_gets45 hG D c9 hGU hGV X ho hl2 hRi hu2 hu3 hp1 hu4 (by omega) h1 h0 (ih (k + 1) (by omega))
  exact v_eq (lv2 := [(4, .int (nI 0)), (3, .int (nI S.length)), (2, .ref ua), (1, .ref a1), (0, .ref (ha 0))]) rfl rfl rfl rfl (hloop S.length 0 (by omega) rfl)
set_option maxRecDepth 100000 in
set_option maxHeartbeats 400000 in
theorem c_gets (l : Launch) {G : (Nat → Prop) → State → Heap → Prop} (hG : vG G) (D : va_G) (c9 : Nat → ClassId) {sk sv : Nat → Nat} (hGU : ∀ (A : Nat → Prop) (U : State) (H : Heap), G A U H → vU sk sv A U H) (hGV : ∀ (A : Nat → Prop) (U : State) (H : Heap), G A U H → vV A U H) {ha : Nat → Nat} {ta ua : Nat} {h : FH} {R S : List (Nat × Row)} {F0 : va_W} {k1 a1 : Nat} {g : Row} {o : HO} (ho : hGets h (S.map Prod.snd) g = o) (hl2 : S.length ≤ 30) (hRi : R[k1]? = some (a1, g)) (hu2 : vp_in (g 2) 3) (hu3 : vp_in (g 3) 3) (hu4 : g 1 = 1 → vp_in (g 4) 2) : mH (S := HS) l yX12_gets (wq yX12_gets cX12_gets 6 (some .int)) { frames := 2, cells := 3, slots := 100, locals := 52 } G D (tyA c9) [.ref (ha 0), .ref a1] (wH ha c9 ta ua h R S ++ wHF c9 R S F0) 3 100 o.1 (fun (u : HS) => u.2.2.1.map Prod.snd = (R.map Prod.snd) ∧ u.2.2.2.map Prod.snd = o.2.2) (fun (u : HS) => wH ha c9 u.1 u.2.1 o.2.1 u.2.2.1 u.2.2.2 ++ wHF c9 u.2.2.1 u.2.2.2 F0) := by
  refine mJ_of hG (cc := cX12_gets) (maxL := 6) (ty := .int) (by decide) rfl (Nat.le_of_ble_eq_true rfl) ?_
  intro p e s m args below meth c A X
  have X : vX p s m args meth c cX12_gets 6 (some .int) RX12 (wq yX12_gets cX12_gets 6 (some .int)) D (tyA c9) G A := X
  have hov : va_AI s := (hGV A s s.heap X.2.2.2.2.2.2.2.2.2.2).2
  refine v_eq (lv2 := [(0, .ref (ha 0)), (1, .ref a1)]) rfl rfl rfl rfl ?_
  refine v_aload_n X dX12_gets_0 1 rfl rfl 1 rfl ?_
  refine v_iconst X dX12_gets_1 ic_1 2 rfl ?_
  refine v_ildF X dX12_gets_2 (11 + k1) 0 (row_at (ws := [_, _, _, _, _, _, _, _, _, _, _]) hRi) rfl (rd_nI9 (f := g) (k := 1) (show 1 < 10 by decide) (by decide)) 3 rfl ?_
  refine v_iconst X dX12_gets_3 ic_1 4 rfl ?_
  by_cases h1 : g 1 = 1
  · refine v_icmp_ne X (tgt := 31) dX12_gets_4 rfl 7 rfl (a := none) (b := some ()) (o := ()) (if_pos h1) (fun h => nomatch h) (fun _ => ?_)
    refine v_aload_n X dX12_gets_7 0 rfl rfl 8 rfl ?_
    refine v_get X (C := RX12) (T := TX12) (N := 14) (ci := 13) (v := _) dX12_gets_8 (lay_of layhx_X12) 0 rfl rfl 12 (by decide) (mw whx_18) rfl rfl 11 rfl ?_
    refine v_aload_n X dX12_gets_11 1 rfl rfl 12 rfl ?_
    refine v_bipush X dX12_gets_12 bp_6 14 rfl ?_
    refine v_ildF X dX12_gets_14 (11 + k1) 0 (row_at (ws := [_, _, _, _, _, _, _, _, _, _, _]) hRi) rfl (rd_nI9 (f := g) (k := 6) (show 6 < 10 by decide) (by decide)) 15 rfl ?_
    by_cases h6 : g 6 ≤ FH.time h
    · refine v_icmp_ge X (tgt := 31) dX12_gets_15 rfl 18 rfl (a := some ()) (b := none) (o := ()) (if_pos h6) (fun _ => ?_) (fun h => nomatch h)
      have e : hGets h (S.map Prod.snd) g = (-9, h, S.map Prod.snd) := if_pos (Or.inr (Or.inl h6))
      rw [e] at ho
      subst ho
      refine v_bipush X dX12_gets_31 bp_m9 33 rfl ?_
      exact v_jret (ta, ua, R, S) ⟨rfl, rfl⟩ rfl (List.Perm.refl _) X (by first | exact Nat.le_of_ble_eq_true rfl | omega | (dsimp only; omega)) (by first | exact Nat.le_of_ble_eq_true rfl | omega | (dsimp only; omega)) dX12_gets_33
    · refine v_icmp_ge X (tgt := 31) dX12_gets_15 rfl 18 rfl (a := none) (b := some ()) (o := ()) (if_neg h6) (fun h => nomatch h) (fun _ => ?_)
      refine v_aload_n X dX12_gets_18 0 rfl rfl 19 rfl ?_
      refine v_aload_n X dX12_gets_19 1 rfl rfl 20 rfl ?_
      refine v_iconst X dX12_gets_20 ic_2 21 rfl ?_
      refine v_ildF X dX12_gets_21 (11 + k1) 0 (row_at (ws := [_, _, _, _, _, _, _, _, _, _, _]) hRi) rfl (rd_nI9 (f := g) (k := 2) (show 2 < 10 by decide) (by decide)) 22 rfl ?_
      refine v_aload_n X dX12_gets_22 1 rfl rfl 23 rfl ?_
      refine v_iconst X dX12_gets_23 ic_3 24 rfl ?_
      refine v_ildF X dX12_gets_24 (11 + k1) 0 (row_at (ws := [_, _, _, _, _, _, _, _, _, _, _]) hRi) rfl (rd_nI9 (f := g) (k := 3) (show 3 < 10 by decide) (by decide)) 25 rfl ?_
      refine v_callVi X (C := RX12) (ci := 13) (T := TX12) (As := [.int (g 2), .int (g 3)]) (rest := []) (ws' := [((ha 0), .inr (13, [.int (FH.tol h), .ref (ha 1), .ref (ha 2), .ref (ha 3), .ref (ha 4), .ref (ha 5), .ref (ha 6), .ref (ha 7), .ref (ha 8), .ref ta, .ref ua, .int (FH.seed h), .int (FH.time h), .int (FH.next h)])), ((ha 1), .inl (c9 0, 3, .inl (FH.life h))), ((ha 2), .inl (c9 0, 3, .inl (FH.again h))), ((ha 3), .inl (c9 0, 3, .inl (FH.fast h))), ((ha 4), .inl (c9 0, 3, .inl (FH.home h))), ((ha 5), .inl (c9 0, 3, .inl (FH.own h))), ((ha 6), .inl (c9 0, 3, .inl (FH.had h))), ((ha 7), .inl (c9 0, 2, .inl (FH.place h))), ((ha 8), .inl (c9 0, 2, .inl (FH.left h))), (ta, .inl (c9 4, R.length, .inr (.inr (.inr (.inr (outF R)))))), (ua, .inl (c9 4, S.length, .inr (.inr (.inr (.inr (outF S))))))]) (c_skewed l hG D c9 hGU hGV (ha := ha) (ta := ta) (ua := ua) (h := h) (R := R) (S := S) hu2 hu3) 2 (gV whx_27 whx_28 whx_29 whx_22 whx_30) rfl rfl rfl ⟨rfl, by decide +kernel⟩ ⟨Nat.le_of_ble_eq_true rfl, Nat.le_of_ble_eq_true rfl⟩ 0 rfl rfl rfl rfl (Nat.le_of_ble_eq_true rfl) ⟨(by first | exact Nat.le_of_ble_eq_true rfl | omega | (dsimp only; omega)), (by first | exact Nat.le_of_ble_eq_true rfl | omega | (dsimp only; omega))⟩ [0, 1, 2, 3, 4, 5, 6, 7, 8, 9, 10] [] [0, 1, 2, 3, 4, 5, 6, 7, 8, 9, 10] rfl rfl rfl rfl dX12_gets_25 28 rfl ?_
      by_cases hsk : hSk h (g 2) (g 3) = true
      · refine v_if_eq X (tgt := 34) dX12_gets_28 rfl 31 rfl (a := none) (b := some ()) (o := ()) (if_neg (by rw [if_pos hsk]; decide)) (fun h => nomatch h) (fun _ => ?_)
        have e : hGets h (S.map Prod.snd) g = (-9, h, S.map Prod.snd) := if_pos (Or.inr (Or.inr hsk))
        rw [e] at ho
        subst ho
        refine v_bipush X dX12_gets_31 bp_m9 33 rfl ?_
        exact v_jret (ta, ua, R, S) ⟨rfl, rfl⟩ rfl (List.Perm.refl _) X (by first | exact Nat.le_of_ble_eq_true rfl | omega | (dsimp only; omega)) (by first | exact Nat.le_of_ble_eq_true rfl | omega | (dsimp only; omega)) dX12_gets_33
      · refine v_if_eq X (tgt := 34) dX12_gets_28 rfl 31 rfl (a := some ()) (b := none) (o := ()) (if_pos (if_neg hsk)) (fun _ => ?_) (fun h => nomatch h)
        exact h_gets34 hG D c9 hGU hGV X ho hl2 hRi hu2 hu3 (fun z => z.elim (fun z => z h1) (fun z => z.elim h6 hsk)) (hu4 h1)
  · refine v_icmp_ne X (tgt := 31) dX12_gets_4 rfl 7 rfl (a := some ()) (b := none) (o := ()) (if_neg h1) (fun _ => ?_) (fun h => nomatch h)
    have e : hGets h (S.map Prod.snd) g = (-9, h, S.map Prod.snd) := if_pos (Or.inl h1)
    rw [e] at ho
    subst ho
    refine v_bipush X dX12_gets_31 bp_m9 33 rfl ?_
    exact v_jret (ta, ua, R, S) ⟨rfl, rfl⟩ rfl (List.Perm.refl _) X (by first | exact Nat.le_of_ble_eq_true rfl | omega | (dsimp only; omega)) (by first | exact Nat.le_of_ble_eq_true rfl | omega | (dsimp only; omega)) dX12_gets_33
