/-! How the Hand is made. -/
/-- the Hand's beginning, out of the drawn numbers -/
def hInit (ce : Nat → Nat) : FH := (nI (ce 0 % 4), (upd (upd (upd (fun _ => 0) 0 (nI (1 + ce 1 % 60))) 1 (nI (1 + ce 2 % 60))) 2 (nI (1 + ce 3 % 60))), (upd (upd (upd (fun _ => 0) 0 (nI (ce 1 / 64 % 200))) 1 (nI (ce 2 / 64 % 200))) 2 (nI (ce 3 / 64 % 200))), (upd (upd (upd (fun _ => 0) 0 (nI (ce 1 / 16384 % 7) - 3)) 1 (nI (ce 2 / 16384 % 7) - 3)) 2 (nI (ce 3 / 16384 % 7) - 3)), (upd (upd (upd (fun _ => 0) 0 (nI (ce 5 % 3))) 1 (nI (ce 6 % 3))) 2 (nI (ce 7 % 3))), (upd (upd (upd (fun _ => 0) 0 (nI (ce 5 / 512 % 7) - 3)) 1 (nI (ce 6 / 512 % 7) - 3)) 2 (nI (ce 7 / 512 % 7) - 3)), (fun _ => 0), (upd (upd (fun _ => 0) 0 (nI (ce 8 % 3))) 1 (nI (ce 9 % 3))), (upd (upd (fun _ => 0) 0 (nI (ce 8 / 4 % 6))) 1 (nI (ce 9 / 4 % 6))), nI (ce 0 / 4 % 1024), 0, 0)
theorem outF_nil : (fun _ => none) = outF [] := by
  funext i
  unfold outF
  rw [List.getElem?_nil]
  rfl
theorem whu_0 : Cond.methodLink RX12 1 Lib.objectInit ∈ Wg := t4_in (List.mem_of_getElem? (i := 132) rfl) rfl
theorem whu_1 : Cond.instanceMethod Lib.objectInit ∈ Wg := t1_in (List.mem_of_getElem? (i := 39) rfl) rfl
theorem whu_2 : Cond.code Lib.objectInit ⟨#[0xb1]⟩ 1 none ∈ Wg := t1_in (List.mem_of_getElem? (i := 40) rfl) rfl
theorem whu_3 : Cond.arrayClass .int ∈ Wg := t1_in (List.mem_of_getElem? (i := 57) rfl) rfl
theorem whu_4 : Cond.fieldLink RX12 7 "TicketGateLaw$Hand" "life" "[I" ∈ Wg := t4_in (List.mem_of_getElem? (i := 143) rfl) rfl
theorem whu_5 : Cond.laysFinal RX12 "TicketGateLaw$Hand" "tolerance" "I" ∈ Wg := t4_in (List.mem_of_getElem? (i := 156) rfl) rfl
theorem whu_6 : Cond.laysFinal RX12 "TicketGateLaw$Hand" "life" "[I" ∈ Wg := t4_in (List.mem_of_getElem? (i := 158) rfl) rfl
theorem whu_7 : Cond.laysFinal RX12 "TicketGateLaw$Hand" "again" "[I" ∈ Wg := t4_in (List.mem_of_getElem? (i := 160) rfl) rfl
theorem whu_8 : Cond.laysFinal RX12 "TicketGateLaw$Hand" "fast" "[I" ∈ Wg := t4_in (List.mem_of_getElem? (i := 162) rfl) rfl
theorem whu_9 : Cond.laysFinal RX12 "TicketGateLaw$Hand" "home" "[I" ∈ Wg := t4_in (List.mem_of_getElem? (i := 164) rfl) rfl
theorem whu_10 : Cond.laysFinal RX12 "TicketGateLaw$Hand" "own" "[I" ∈ Wg := t4_in (List.mem_of_getElem? (i := 166) rfl) rfl
theorem whu_11 : Cond.laysFinal RX12 "TicketGateLaw$Hand" "had" "[I" ∈ Wg := t4_in (List.mem_of_getElem? (i := 168) rfl) rfl
theorem whu_12 : Cond.laysFinal RX12 "TicketGateLaw$Hand" "place" "[I" ∈ Wg := t4_in (List.mem_of_getElem? (i := 170) rfl) rfl
theorem whu_13 : Cond.laysFinal RX12 "TicketGateLaw$Hand" "left" "[I" ∈ Wg := t4_in (List.mem_of_getElem? (i := 172) rfl) rfl
theorem whu_14 : Cond.lays RX12 "TicketGateLaw$Hand" "ticket" "[[I" ∈ Wg := t4_in (List.mem_of_getElem? (i := 174) rfl) rfl
theorem whu_15 : Cond.lays RX12 "TicketGateLaw$Hand" "use" "[[I" ∈ Wg := t4_in (List.mem_of_getElem? (i := 176) rfl) rfl
theorem whu_16 : Cond.lays RX12 "TicketGateLaw$Hand" "seed" "I" ∈ Wg := t4_in (List.mem_of_getElem? (i := 178) rfl) rfl
theorem whu_17 : Cond.lays RX12 "TicketGateLaw$Hand" "time" "I" ∈ Wg := t4_in (List.mem_of_getElem? (i := 180) rfl) rfl
theorem whu_18 : Cond.lays RX12 "TicketGateLaw$Hand" "next" "I" ∈ Wg := t4_in (List.mem_of_getElem? (i := 182) rfl) rfl
theorem whu_19 : Cond.fieldLink RX12 13 "TicketGateLaw$Hand" "again" "[I" ∈ Wg := t4_in (List.mem_of_getElem? (i := 144) rfl) rfl
theorem whu_20 : Cond.fieldLink RX12 16 "TicketGateLaw$Hand" "fast" "[I" ∈ Wg := t4_in (List.mem_of_getElem? (i := 145) rfl) rfl
theorem whu_21 : Cond.fieldLink RX12 19 "TicketGateLaw$Hand" "home" "[I" ∈ Wg := t4_in (List.mem_of_getElem? (i := 146) rfl) rfl
theorem whu_22 : Cond.fieldLink RX12 22 "TicketGateLaw$Hand" "own" "[I" ∈ Wg := t4_in (List.mem_of_getElem? (i := 147) rfl) rfl
theorem whu_23 : Cond.fieldLink RX12 25 "TicketGateLaw$Hand" "had" "[I" ∈ Wg := t4_in (List.mem_of_getElem? (i := 148) rfl) rfl
theorem whu_24 : Cond.fieldLink RX12 28 "TicketGateLaw$Hand" "place" "[I" ∈ Wg := t4_in (List.mem_of_getElem? (i := 149) rfl) rfl
theorem whu_25 : Cond.fieldLink RX12 31 "TicketGateLaw$Hand" "left" "[I" ∈ Wg := t4_in (List.mem_of_getElem? (i := 150) rfl) rfl
theorem whu_26 : Cond.classLink RX12 34 "[I" ∈ Wg := t4_in (List.mem_of_getElem? (i := 133) rfl) rfl
theorem whu_27 : Cond.fieldLink RX12 35 "TicketGateLaw$Hand" "ticket" "[[I" ∈ Wg := t4_in (List.mem_of_getElem? (i := 151) rfl) rfl
theorem whu_28 : Cond.fieldLink RX12 39 "TicketGateLaw$Hand" "use" "[[I" ∈ Wg := t4_in (List.mem_of_getElem? (i := 152) rfl) rfl
theorem whu_29 : Cond.code yL_cell cL_cell 2 (some .int) ∈ Wg := t4_in (List.mem_of_getElem? (i := 137) rfl) rfl
theorem whu_30 : Cond.initialized RL ∈ Wg := t1_in (List.mem_of_getElem? (i := 0) rfl) rfl
theorem whu_31 : Cond.static yL_cell ∈ Wg := t4_in (List.mem_of_getElem? (i := 136) rfl) rfl
theorem whu_32 : Cond.fieldLink RX12 48 "TicketGateLaw$Hand" "tolerance" "I" ∈ Wg := t4_in (List.mem_of_getElem? (i := 142) rfl) rfl
theorem whu_33 : Cond.fieldLink RX12 52 "TicketGateLaw$Hand" "seed" "I" ∈ Wg := t4_in (List.mem_of_getElem? (i := 153) rfl) rfl
theorem whu_34 : Cond.code yL_offset cL_offset 1 (some .int) ∈ Wg := t4_in (List.mem_of_getElem? (i := 141) rfl) rfl
theorem whu_35 : Cond.static yL_offset ∈ Wg := t4_in (List.mem_of_getElem? (i := 140) rfl) rfl
theorem layhu_X12 : ∀ k, k < 14 → u_lay RX12 TX12 k ∈ Wg := fun k hk => match k, hk with
  | 0, _ => whu_5
  | 1, _ => whu_6
  | 2, _ => whu_7
  | 3, _ => whu_8
  | 4, _ => whu_9
  | 5, _ => whu_10
  | 6, _ => whu_11
  | 7, _ => whu_12
  | 8, _ => whu_13
  | 9, _ => whu_14
  | 10, _ => whu_15
  | 11, _ => whu_16
  | 12, _ => whu_17
  | 13, _ => whu_18
  | k + 14, h => absurd h (by omega)
set_option maxRecDepth 100000 in
set_option maxHeartbeats 1000000 in
theorem c_hinit (l : Launch) {G : (Nat → Prop) → State → Heap → Prop} (hG : vG G) (D : va_G) (c9 : Nat → ClassId) {sk sv : Nat → Nat} (hGU : ∀ (A : Nat → Prop) (U : State) (H : Heap), G A U H → vU sk sv A U H) (hGV : ∀ (A : Nat → Prop) (U : State) (H : Heap), G A U H → vV A U H) {bs Ls : Nat} {xs : Nat → Int32} (hGS : ∀ (A : Nat → Prop) (U : State) (H : Heap), G A U H → va_T .int bs Ls (fun j => .int (xs j)) A U H) (hLs : Ls < 2 ^ 31) {ce : Nat → Nat} (hce0 : ∀ k, scel xs Ls k = ce k) {a : Nat} : mN (S := (Nat → Nat) × Nat × Nat) l yX12_init (wq yX12_init cX12_init 5 none) { frames := 1, cells := 10, slots := 22, locals := 21 } G D (tyA c9) [.ref a, .ref bs] [(a, .inr (13, [.int 0, .null, .null, .null, .null, .null, .null, .null, .null, .null, .null, .int 0, .int 0, .int 0]))] [] 10 22 (fun u => u.1 0 = a) (fun u => wH u.1 c9 u.2.1 u.2.2 (hInit ce) [] []) := by
  refine mN_of hG (cc := cX12_init) (maxL := 5) (by decide) rfl (Nat.le_of_ble_eq_true rfl) ?_
  intro p e s m args below meth c A hnm X
  have X : vX p s m args meth c cX12_init 5 none RX12 (wq yX12_init cX12_init 5 none) D (tyA c9) G A := X
  have hnm : meth.name = "<init>" := hnm
  have hov : va_AI s := (hGV A s s.heap X.2.2.2.2.2.2.2.2.2.2).2
  have TS := hGS A s s.heap X.2.2.2.2.2.2.2.2.2.2
  refine v_eq (lv2 := [(0, .ref a), (1, .ref bs)]) rfl rfl rfl rfl ?_
  have hce : ∀ k, scel xs Ls k = ce k := hce0
  have hcb : ∀ k, ce k < 2 ^ 31 := fun k => by rw [← hce k]; exact scel_lt xs Ls k
  have hb0 := hcb 0
  have hb1 := hcb 1
  have hb2 := hcb 2
  have hb3 := hcb 3
  have hb5 := hcb 5
  have hb6 := hcb 6
  have hb7 := hcb 7
  have hb8 := hcb 8
  have hb9 := hcb 9
  refine v_aload_n X dX12_init_0 0 rfl rfl 1 rfl ?_
  refine v_oinit X dX12_init_1 (mw whu_0) (mw whu_1) (mw whu_2) (by first | exact Nat.le_of_ble_eq_true rfl | omega | (dsimp only; omega)) (by first | exact Nat.le_of_ble_eq_true rfl | omega | (dsimp only; omega)) 4 rfl ?_
  refine v_aload_n X dX12_init_4 0 rfl rfl 5 rfl ?_
  refine v_iconst X dX12_init_5 ic_3 6 rfl ?_
  refine v_newa X (ty := .int) (N' := 3) (a0 := (3, .inl (fun _ => 0))) dX12_init_6 (mw whu_3) rfl 0 rfl (fun _ _ h1 h2 => Option.some.inj (h1.symm.trans h2)) (fun _ => rfl) (by decide) (by decide) (by decide) (by first | exact Nat.le_of_ble_eq_true rfl | omega | (dsimp only; omega)) (by first | exact Nat.le_of_ble_eq_true rfl | omega | (dsimp only; omega)) 8 rfl (fun b1 => ?_)
  refine v_eq (ws2 := [(a, .inr (13, [.int 0, .null, .null, .null, .null, .null, .null, .null, .null, .null, .null, .int 0, .int 0, .int 0])), (b1, .inl (c9 0, 3, .inl (fun _ => 0)))]) rfl rfl rfl rfl ?_
  refine v_putF X (C := RX12) (T := TX12) (N := 14) (ci := 13) (ty := tyX12 1) (ws' := [(a, .inr (13, [.int 0, .ref b1, .null, .null, .null, .null, .null, .null, .null, .null, .null, .int 0, .int 0, .int 0])), (b1, .inl (c9 0, 3, .inl (fun _ => 0)))]) dX12_init_8 (lay_of layhu_X12) 0 rfl rfl 1 (by decide) tyX12 tyX12_ok nmX12 (mw whu_4) rfl rfl hnm rfl (tyX12_ok 1 (by decide)) rfl rfl (Nat.le_of_ble_eq_true rfl) rfl 11 rfl ?_
  refine v_aload_n X dX12_init_11 0 rfl rfl 12 rfl ?_
  refine v_iconst X dX12_init_12 ic_3 13 rfl ?_
  refine v_newa X (ty := .int) (N' := 3) (a0 := (3, .inl (fun _ => 0))) dX12_init_13 (mw whu_3) rfl 0 rfl (fun _ _ h1 h2 => Option.some.inj (h1.symm.trans h2)) (fun _ => rfl) (by decide) (by decide) (by decide) (by first | exact Nat.le_of_ble_eq_true rfl | omega | (dsimp only; omega)) (by first | exact Nat.le_of_ble_eq_true rfl | omega | (dsimp only; omega)) 15 rfl (fun b2 => ?_)
  refine v_eq (ws2 := [(a, .inr (13, [.int 0, .ref b1, .null, .null, .null, .null, .null, .null, .null, .null, .null, .int 0, .int 0, .int 0])), (b1, .inl (c9 0, 3, .inl (fun _ => 0))), (b2, .inl (c9 0, 3, .inl (fun _ => 0)))]) rfl rfl rfl rfl ?_
  refine v_putF X (C := RX12) (T := TX12) (N := 14) (ci := 13) (ty := tyX12 2) (ws' := [(a, .inr (13, [.int 0, .ref b1, .ref b2, .null, .null, .null, .null, .null, .null, .null, .null, .int 0, .int 0, .int 0])), (b1, .inl (c9 0, 3, .inl (fun _ => 0))), (b2, .inl (c9 0, 3, .inl (fun _ => 0)))]) dX12_init_15 (lay_of layhu_X12) 0 rfl rfl 2 (by decide) tyX12 tyX12_ok nmX12 (mw whu_19) rfl rfl hnm rfl (tyX12_ok 2 (by decide)) rfl rfl (Nat.le_of_ble_eq_true rfl) rfl 18 rfl ?_
  refine v_aload_n X dX12_init_18 0 rfl rfl 19 rfl ?_
  refine v_iconst X dX12_init_19 ic_3 20 rfl ?_
  refine v_newa X (ty := .int) (N' := 3) (a0 := (3, .inl (fun _ => 0))) dX12_init_20 (mw whu_3) rfl 0 rfl (fun _ _ h1 h2 => Option.some.inj (h1.symm.trans h2)) (fun _ => rfl) (by decide) (by decide) (by decide) (by first | exact Nat.le_of_ble_eq_true rfl | omega | (dsimp only; omega)) (by first | exact Nat.le_of_ble_eq_true rfl | omega | (dsimp only; omega)) 22 rfl (fun b3 => ?_)
  refine v_eq (ws2 := [(a, .inr (13, [.int 0, .ref b1, .ref b2, .null, .null, .null, .null, .null, .null, .null, .null, .int 0, .int 0, .int 0])), (b1, .inl (c9 0, 3, .inl (fun _ => 0))), (b2, .inl (c9 0, 3, .inl (fun _ => 0))), (b3, .inl (c9 0, 3, .inl (fun _ => 0)))]) rfl rfl rfl rfl ?_
  refine v_putF X (C := RX12) (T := TX12) (N := 14) (ci := 13) (ty := tyX12 3) (ws' := [(a, .inr (13, [.int 0, .ref b1, .ref b2, .ref b3, .null, .null, .null, .null, .null, .null, .null, .int 0, .int 0, .int 0])), (b1, .inl (c9 0, 3, .inl (fun _ => 0))), (b2, .inl (c9 0, 3, .inl (fun _ => 0))), (b3, .inl (c9 0, 3, .inl (fun _ => 0)))]) dX12_init_22 (lay_of layhu_X12) 0 rfl rfl 3 (by decide) tyX12 tyX12_ok nmX12 (mw whu_20) rfl rfl hnm rfl (tyX12_ok 3 (by decide)) rfl rfl (Nat.le_of_ble_eq_true rfl) rfl 25 rfl ?_
  refine v_aload_n X dX12_init_25 0 rfl rfl 26 rfl ?_
  refine v_iconst X dX12_init_26 ic_3 27 rfl ?_
  refine v_newa X (ty := .int) (N' := 3) (a0 := (3, .inl (fun _ => 0))) dX12_init_27 (mw whu_3) rfl 0 rfl (fun _ _ h1 h2 => Option.some.inj (h1.symm.trans h2)) (fun _ => rfl) (by decide) (by decide) (by decide) (by first | exact Nat.le_of_ble_eq_true rfl | omega | (dsimp only; omega)) (by first | exact Nat.le_of_ble_eq_true rfl | omega | (dsimp only; omega)) 29 rfl (fun b4 => ?_)
  refine v_eq (ws2 := [(a, .inr (13, [.int 0, .ref b1, .ref b2, .ref b3, .null, .null, .null, .null, .null, .null, .null, .int 0, .int 0, .int 0])), (b1, .inl (c9 0, 3, .inl (fun _ => 0))), (b2, .inl (c9 0, 3, .inl (fun _ => 0))), (b3, .inl (c9 0, 3, .inl (fun _ => 0))), (b4, .inl (c9 0, 3, .inl (fun _ => 0)))]) rfl rfl rfl rfl ?_
  refine v_putF X (C := RX12) (T := TX12) (N := 14) (ci := 13) (ty := tyX12 4) (ws' := [(a, .inr (13, [.int 0, .ref b1, .ref b2, .ref b3, .ref b4, .null, .null, .null, .null, .null, .null, .int 0, .int 0, .int 0])), (b1, .inl (c9 0, 3, .inl (fun _ => 0))), (b2, .inl (c9 0, 3, .inl (fun _ => 0))), (b3, .inl (c9 0, 3, .inl (fun _ => 0))), (b4, .inl (c9 0, 3, .inl (fun _ => 0)))]) dX12_init_29 (lay_of layhu_X12) 0 rfl rfl 4 (by decide) tyX12 tyX12_ok nmX12 (mw whu_21) rfl rfl hnm rfl (tyX12_ok 4 (by decide)) rfl rfl (Nat.le_of_ble_eq_true rfl) rfl 32 rfl ?_
  refine v_aload_n X dX12_init_32 0 rfl rfl 33 rfl ?_
  refine v_iconst X dX12_init_33 ic_3 34 rfl ?_
  refine v_newa X (ty := .int) (N' := 3) (a0 := (3, .inl (fun _ => 0))) dX12_init_34 (mw whu_3) rfl 0 rfl (fun _ _ h1 h2 => Option.some.inj (h1.symm.trans h2)) (fun _ => rfl) (by decide) (by decide) (by decide) (by first | exact Nat.le_of_ble_eq_true rfl | omega | (dsimp only; omega)) (by first | exact Nat.le_of_ble_eq_true rfl | omega | (dsimp only; omega)) 36 rfl (fun b5 => ?_)
  refine v_eq (ws2 := [(a, .inr (13, [.int 0, .ref b1, .ref b2, .ref b3, .ref b4, .null, .null, .null, .null, .null, .null, .int 0, .int 0, .int 0])), (b1, .inl (c9 0, 3, .inl (fun _ => 0))), (b2, .inl (c9 0, 3, .inl (fun _ => 0))), (b3, .inl (c9 0, 3, .inl (fun _ => 0))), (b4, .inl (c9 0, 3, .inl (fun _ => 0))), (b5, .inl (c9 0, 3, .inl (fun _ => 0)))]) rfl rfl rfl rfl ?_
  refine v_putF X (C := RX12) (T := TX12) (N := 14) (ci := 13) (ty := tyX12 5) (ws' := [(a, .inr (13, [.int 0, .ref b1, .ref b2, .ref b3, .ref b4, .ref b5, .null, .null, .null, .null, .null, .int 0, .int 0, .int 0])), (b1, .inl (c9 0, 3, .inl (fun _ => 0))), (b2, .inl (c9 0, 3, .inl (fun _ => 0))), (b3, .inl (c9 0, 3, .inl (fun _ => 0))), (b4, .inl (c9 0, 3, .inl (fun _ => 0))), (b5, .inl (c9 0, 3, .inl (fun _ => 0)))]) dX12_init_36 (lay_of layhu_X12) 0 rfl rfl 5 (by decide) tyX12 tyX12_ok nmX12 (mw whu_22) rfl rfl hnm rfl (tyX12_ok 5 (by decide)) rfl rfl (Nat.le_of_ble_eq_true rfl) rfl 39 rfl ?_
  refine v_aload_n X dX12_init_39 0 rfl rfl 40 rfl ?_
  refine v_iconst X dX12_init_40 ic_3 41 rfl ?_
  refine v_newa X (ty := .int) (N' := 3) (a0 := (3, .inl (fun _ => 0))) dX12_init_41 (mw whu_3) rfl 0 rfl (fun _ _ h1 h2 => Option.some.inj (h1.symm.trans h2)) (fun _ => rfl) (by decide) (by decide) (by decide) (by first | exact Nat.le_of_ble_eq_true rfl | omega | (dsimp only; omega)) (by first | exact Nat.le_of_ble_eq_true rfl | omega | (dsimp only; omega)) 43 rfl (fun b6 => ?_)
  refine v_eq (ws2 := [(a, .inr (13, [.int 0, .ref b1, .ref b2, .ref b3, .ref b4, .ref b5, .null, .null, .null, .null, .null, .int 0, .int 0, .int 0])), (b1, .inl (c9 0, 3, .inl (fun _ => 0))), (b2, .inl (c9 0, 3, .inl (fun _ => 0))), (b3, .inl (c9 0, 3, .inl (fun _ => 0))), (b4, .inl (c9 0, 3, .inl (fun _ => 0))), (b5, .inl (c9 0, 3, .inl (fun _ => 0))), (b6, .inl (c9 0, 3, .inl (fun _ => 0)))]) rfl rfl rfl rfl ?_
  refine v_putF X (C := RX12) (T := TX12) (N := 14) (ci := 13) (ty := tyX12 6) (ws' := [(a, .inr (13, [.int 0, .ref b1, .ref b2, .ref b3, .ref b4, .ref b5, .ref b6, .null, .null, .null, .null, .int 0, .int 0, .int 0])), (b1, .inl (c9 0, 3, .inl (fun _ => 0))), (b2, .inl (c9 0, 3, .inl (fun _ => 0))), (b3, .inl (c9 0, 3, .inl (fun _ => 0))), (b4, .inl (c9 0, 3, .inl (fun _ => 0))), (b5, .inl (c9 0, 3, .inl (fun _ => 0))), (b6, .inl (c9 0, 3, .inl (fun _ => 0)))]) dX12_init_43 (lay_of layhu_X12) 0 rfl rfl 6 (by decide) tyX12 tyX12_ok nmX12 (mw whu_23) rfl rfl hnm rfl (tyX12_ok 6 (by decide)) rfl rfl (Nat.le_of_ble_eq_true rfl) rfl 46 rfl ?_
  refine v_aload_n X dX12_init_46 0 rfl rfl 47 rfl ?_
  refine v_iconst X dX12_init_47 ic_2 48 rfl ?_
  refine v_newa X (ty := .int) (N' := 2) (a0 := (2, .inl (fun _ => 0))) dX12_init_48 (mw whu_3) rfl 0 rfl (fun _ _ h1 h2 => Option.some.inj (h1.symm.trans h2)) (fun _ => rfl) (by decide) (by decide) (by decide) (by first | exact Nat.le_of_ble_eq_true rfl | omega | (dsimp only; omega)) (by first | exact Nat.le_of_ble_eq_true rfl | omega | (dsimp only; omega)) 50 rfl (fun b7 => ?_)
  refine v_eq (ws2 := [(a, .inr (13, [.int 0, .ref b1, .ref b2, .ref b3, .ref b4, .ref b5, .ref b6, .null, .null, .null, .null, .int 0, .int 0, .int 0])), (b1, .inl (c9 0, 3, .inl (fun _ => 0))), (b2, .inl (c9 0, 3, .inl (fun _ => 0))), (b3, .inl (c9 0, 3, .inl (fun _ => 0))), (b4, .inl (c9 0, 3, .inl (fun _ => 0))), (b5, .inl (c9 0, 3, .inl (fun _ => 0))), (b6, .inl (c9 0, 3, .inl (fun _ => 0))), (b7, .inl (c9 0, 2, .inl (fun _ => 0)))]) rfl rfl rfl rfl ?_
  refine v_putF X (C := RX12) (T := TX12) (N := 14) (ci := 13) (ty := tyX12 7) (ws' := [(a, .inr (13, [.int 0, .ref b1, .ref b2, .ref b3, .ref b4, .ref b5, .ref b6, .ref b7, .null, .null, .null, .int 0, .int 0, .int 0])), (b1, .inl (c9 0, 3, .inl (fun _ => 0))), (b2, .inl (c9 0, 3, .inl (fun _ => 0))), (b3, .inl (c9 0, 3, .inl (fun _ => 0))), (b4, .inl (c9 0, 3, .inl (fun _ => 0))), (b5, .inl (c9 0, 3, .inl (fun _ => 0))), (b6, .inl (c9 0, 3, .inl (fun _ => 0))), (b7, .inl (c9 0, 2, .inl (fun _ => 0)))]) dX12_init_50 (lay_of layhu_X12) 0 rfl rfl 7 (by decide) tyX12 tyX12_ok nmX12 (mw whu_24) rfl rfl hnm rfl (tyX12_ok 7 (by decide)) rfl rfl (Nat.le_of_ble_eq_true rfl) rfl 53 rfl ?_
  refine v_aload_n X dX12_init_53 0 rfl rfl 54 rfl ?_
  refine v_iconst X dX12_init_54 ic_2 55 rfl ?_
  refine v_newa X (ty := .int) (N' := 2) (a0 := (2, .inl (fun _ => 0))) dX12_init_55 (mw whu_3) rfl 0 rfl (fun _ _ h1 h2 => Option.some.inj (h1.symm.trans h2)) (fun _ => rfl) (by decide) (by decide) (by decide) (by first | exact Nat.le_of_ble_eq_true rfl | omega | (dsimp only; omega)) (by first | exact Nat.le_of_ble_eq_true rfl | omega | (dsimp only; omega)) 57 rfl (fun b8 => ?_)
  refine v_eq (ws2 := [(a, .inr (13, [.int 0, .ref b1, .ref b2, .ref b3, .ref b4, .ref b5, .ref b6, .ref b7, .null, .null, .null, .int 0, .int 0, .int 0])), (b1, .inl (c9 0, 3, .inl (fun _ => 0))), (b2, .inl (c9 0, 3, .inl (fun _ => 0))), (b3, .inl (c9 0, 3, .inl (fun _ => 0))), (b4, .inl (c9 0, 3, .inl (fun _ => 0))), (b5, .inl (c9 0, 3, .inl (fun _ => 0))), (b6, .inl (c9 0, 3, .inl (fun _ => 0))), (b7, .inl (c9 0, 2, .inl (fun _ => 0))), (b8, .inl (c9 0, 2, .inl (fun _ => 0)))]) rfl rfl rfl rfl ?_
  refine v_putF X (C := RX12) (T := TX12) (N := 14) (ci := 13) (ty := tyX12 8) (ws' := [(a, .inr (13, [.int 0, .ref b1, .ref b2, .ref b3, .ref b4, .ref b5, .ref b6, .ref b7, .ref b8, .null, .null, .int 0, .int 0, .int 0])), (b1, .inl (c9 0, 3, .inl (fun _ => 0))), (b2, .inl (c9 0, 3, .inl (fun _ => 0))), (b3, .inl (c9 0, 3, .inl (fun _ => 0))), (b4, .inl (c9 0, 3, .inl (fun _ => 0))), (b5, .inl (c9 0, 3, .inl (fun _ => 0))), (b6, .inl (c9 0, 3, .inl (fun _ => 0))), (b7, .inl (c9 0, 2, .inl (fun _ => 0))), (b8, .inl (c9 0, 2, .inl (fun _ => 0)))]) dX12_init_57 (lay_of layhu_X12) 0 rfl rfl 8 (by decide) tyX12 tyX12_ok nmX12 (mw whu_25) rfl rfl hnm rfl (tyX12_ok 8 (by decide)) rfl rfl (Nat.le_of_ble_eq_true rfl) rfl 60 rfl ?_
  refine v_aload_n X dX12_init_60 0 rfl rfl 61 rfl ?_
  refine v_iconst X dX12_init_61 ic_0 62 rfl ?_
  refine v_newA X dX12_init_62 (mw whu_26) hov 4 rfl (by decide) (show _ = 0 by decide) (by decide) (by first | exact Nat.le_of_ble_eq_true rfl | omega | (dsimp only; omega)) (by first | exact Nat.le_of_ble_eq_true rfl | omega | (dsimp only; omega)) 65 rfl (fun ta => ?_)
  refine v_eq (ws2 := [(a, .inr (13, [.int 0, .ref b1, .ref b2, .ref b3, .ref b4, .ref b5, .ref b6, .ref b7, .ref b8, .null, .null, .int 0, .int 0, .int 0])), (b1, .inl (c9 0, 3, .inl (fun _ => 0))), (b2, .inl (c9 0, 3, .inl (fun _ => 0))), (b3, .inl (c9 0, 3, .inl (fun _ => 0))), (b4, .inl (c9 0, 3, .inl (fun _ => 0))), (b5, .inl (c9 0, 3, .inl (fun _ => 0))), (b6, .inl (c9 0, 3, .inl (fun _ => 0))), (b7, .inl (c9 0, 2, .inl (fun _ => 0))), (b8, .inl (c9 0, 2, .inl (fun _ => 0))), (ta, .inl (c9 4, 0, .inr (.inr (.inr (.inr (outF []))))))]) (by rw [← outF_nil]; rfl) rfl rfl rfl ?_
  refine v_put X (C := RX12) (T := TX12) (N := 14) (ci := 13) (ty := tyX12 9) (ws' := [(a, .inr (13, [.int 0, .ref b1, .ref b2, .ref b3, .ref b4, .ref b5, .ref b6, .ref b7, .ref b8, .ref ta, .null, .int 0, .int 0, .int 0])), (b1, .inl (c9 0, 3, .inl (fun _ => 0))), (b2, .inl (c9 0, 3, .inl (fun _ => 0))), (b3, .inl (c9 0, 3, .inl (fun _ => 0))), (b4, .inl (c9 0, 3, .inl (fun _ => 0))), (b5, .inl (c9 0, 3, .inl (fun _ => 0))), (b6, .inl (c9 0, 3, .inl (fun _ => 0))), (b7, .inl (c9 0, 2, .inl (fun _ => 0))), (b8, .inl (c9 0, 2, .inl (fun _ => 0))), (ta, .inl (c9 4, 0, .inr (.inr (.inr (.inr (outF []))))))]) dX12_init_65 (lay_of layhu_X12) 0 rfl rfl 9 (by decide) tyX12 tyX12_ok nmX12 (mw whu_27) rfl rfl (tyX12_ok 9 (by decide)) rfl rfl (Nat.le_of_ble_eq_true rfl) rfl 68 rfl ?_
  refine v_aload_n X dX12_init_68 0 rfl rfl 69 rfl ?_
  refine v_iconst X dX12_init_69 ic_0 70 rfl ?_
  refine v_newA X dX12_init_70 (mw whu_26) hov 4 rfl (by decide) (show _ = 0 by decide) (by decide) (by first | exact Nat.le_of_ble_eq_true rfl | omega | (dsimp only; omega)) (by first | exact Nat.le_of_ble_eq_true rfl | omega | (dsimp only; omega)) 73 rfl (fun ua => ?_)
  refine v_eq (ws2 := [(a, .inr (13, [.int 0, .ref b1, .ref b2, .ref b3, .ref b4, .ref b5, .ref b6, .ref b7, .ref b8, .ref ta, .null, .int 0, .int 0, .int 0])), (b1, .inl (c9 0, 3, .inl (fun _ => 0))), (b2, .inl (c9 0, 3, .inl (fun _ => 0))), (b3, .inl (c9 0, 3, .inl (fun _ => 0))), (b4, .inl (c9 0, 3, .inl (fun _ => 0))), (b5, .inl (c9 0, 3, .inl (fun _ => 0))), (b6, .inl (c9 0, 3, .inl (fun _ => 0))), (b7, .inl (c9 0, 2, .inl (fun _ => 0))), (b8, .inl (c9 0, 2, .inl (fun _ => 0))), (ta, .inl (c9 4, 0, .inr (.inr (.inr (.inr (outF [])))))), (ua, .inl (c9 4, 0, .inr (.inr (.inr (.inr (outF []))))))]) (by rw [← outF_nil]; rfl) rfl rfl rfl ?_
  refine v_put X (C := RX12) (T := TX12) (N := 14) (ci := 13) (ty := tyX12 10) (ws' := [(a, .inr (13, [.int 0, .ref b1, .ref b2, .ref b3, .ref b4, .ref b5, .ref b6, .ref b7, .ref b8, .ref ta, .ref ua, .int 0, .int 0, .int 0])), (b1, .inl (c9 0, 3, .inl (fun _ => 0))), (b2, .inl (c9 0, 3, .inl (fun _ => 0))), (b3, .inl (c9 0, 3, .inl (fun _ => 0))), (b4, .inl (c9 0, 3, .inl (fun _ => 0))), (b5, .inl (c9 0, 3, .inl (fun _ => 0))), (b6, .inl (c9 0, 3, .inl (fun _ => 0))), (b7, .inl (c9 0, 2, .inl (fun _ => 0))), (b8, .inl (c9 0, 2, .inl (fun _ => 0))), (ta, .inl (c9 4, 0, .inr (.inr (.inr (.inr (outF [])))))), (ua, .inl (c9 4, 0, .inr (.inr (.inr (.inr (outF []))))))]) dX12_init_73 (lay_of layhu_X12) 0 rfl rfl 10 (by decide) tyX12 tyX12_ok nmX12 (mw whu_28) rfl rfl (tyX12_ok 10 (by decide)) rfl rfl (Nat.le_of_ble_eq_true rfl) rfl 76 rfl ?_
  refine v_aload_n X dX12_init_76 1 rfl rfl 77 rfl ?_
  refine v_iconst X dX12_init_77 ic_0 78 rfl ?_
  refine v_eq (st2 := [.int (nI 0), .ref bs]) rfl rfl rfl rfl ?_
  refine v_callNi X (As := [.ref bs, .int (nI 0)]) (rest := []) (c_cell l hG D c9 hGU hGS hLs (k := 0) (by decide)) 2 (wg_sub _ whu_29 _) rfl rfl rfl nest_RX12_42 (mw whu_30) (mw whu_31) (by decide +kernel) ⟨Nat.le_of_ble_eq_true rfl, Nat.le_of_ble_eq_true rfl⟩ rfl rfl (Nat.le_of_ble_eq_true rfl) ⟨(by first | exact Nat.le_of_ble_eq_true rfl | omega | (dsimp only; omega)), (by first | exact Nat.le_of_ble_eq_true rfl | omega | (dsimp only; omega))⟩ dX12_init_78 81 rfl ?_
  rw [show scel xs Ls 0 = ce 0 from hce 0]
  refine v_istore_n X (lv' := [(2, .int (nI (ce 0))), (0, .ref a), (1, .ref bs)]) dX12_init_81 rfl (by decide) rfl 82 rfl ?_
  refine v_aload_n X dX12_init_82 1 rfl rfl 83 rfl ?_
  refine v_iload_n X dX12_init_83 0 rfl rfl 84 rfl ?_
  refine v_iconst X dX12_init_84 ic_4 85 rfl ?_
  refine v_irem X dX12_init_85 (by decide) 86 rfl ?_
  rw [show irm (nI (ce 0)) 4 = nI ((ce 0) % 4) from irm_nI (by omega) (by decide) (by decide)]
  refine v_putF X (C := RX12) (T := TX12) (N := 14) (ci := 13) (ty := tyX12 0) (ws' := [(a, .inr (13, [.int (nI ((ce 0) % 4)), .ref b1, .ref b2, .ref b3, .ref b4, .ref b5, .ref b6, .ref b7, .ref b8, .ref ta, .ref ua, .int 0, .int 0, .int 0])), (b1, .inl (c9 0, 3, .inl (fun _ => 0))), (b2, .inl (c9 0, 3, .inl (fun _ => 0))), (b3, .inl (c9 0, 3, .inl (fun _ => 0))), (b4, .inl (c9 0, 3, .inl (fun _ => 0))), (b5, .inl (c9 0, 3, .inl (fun _ => 0))), (b6, .inl (c9 0, 3, .inl (fun _ => 0))), (b7, .inl (c9 0, 2, .inl (fun _ => 0))), (b8, .inl (c9 0, 2, .inl (fun _ => 0))), (ta, .inl (c9 4, 0, .inr (.inr (.inr (.inr (outF [])))))), (ua, .inl (c9 4, 0, .inr (.inr (.inr (.inr (outF []))))))]) dX12_init_86 (lay_of layhu_X12) 0 rfl rfl 0 (by decide) tyX12 tyX12_ok nmX12 (mw whu_32) rfl rfl hnm rfl (tyX12_ok 0 (by decide)) rfl rfl (Nat.le_of_ble_eq_true rfl) rfl 89 rfl ?_
  refine v_aload_n X dX12_init_89 1 rfl rfl 90 rfl ?_
  refine v_iload_n X dX12_init_90 0 rfl rfl 91 rfl ?_
  refine v_iconst X dX12_init_91 ic_4 92 rfl ?_
  refine v_idiv X dX12_init_92 (by decide) 93 rfl ?_
  rw [show nI (ce 0) / 4 = nI ((ce 0) / 4) from pk_div (by omega) (by decide) (by decide)]
  refine v_sipush X dX12_init_93 sp_1024 96 rfl ?_
  refine v_irem X dX12_init_96 (by decide) 97 rfl ?_
  rw [show irm (nI (ce 0 / 4)) 1024 = nI ((ce 0 / 4) % 1024) from irm_nI (by omega) (by decide) (by decide)]
  refine v_put X (C := RX12) (T := TX12) (N := 14) (ci := 13) (ty := tyX12 11) (ws' := [(a, .inr (13, [.int (nI ((ce 0) % 4)), .ref b1, .ref b2, .ref b3, .ref b4, .ref b5, .ref b6, .ref b7, .ref b8, .ref ta, .ref ua, .int (nI ((ce 0 / 4) % 1024)), .int 0, .int 0])), (b1, .inl (c9 0, 3, .inl (fun _ => 0))), (b2, .inl (c9 0, 3, .inl (fun _ => 0))), (b3, .inl (c9 0, 3, .inl (fun _ => 0))), (b4, .inl (c9 0, 3, .inl (fun _ => 0))), (b5, .inl (c9 0, 3, .inl (fun _ => 0))), (b6, .inl (c9 0, 3, .inl (fun _ => 0))), (b7, .inl (c9 0, 2, .inl (fun _ => 0))), (b8, .inl (c9 0, 2, .inl (fun _ => 0))), (ta, .inl (c9 4, 0, .inr (.inr (.inr (.inr (outF [])))))), (ua, .inl (c9 4, 0, .inr (.inr (.inr (.inr (outF []))))))]) dX12_init_97 (lay_of layhu_X12) 0 rfl rfl 11 (by decide) tyX12 tyX12_ok nmX12 (mw whu_33) rfl rfl (tyX12_ok 11 (by decide)) rfl rfl (Nat.le_of_ble_eq_true rfl) rfl 100 rfl ?_
  refine v_iconst X dX12_init_100 ic_0 101 rfl ?_
  refine v_istore_n X (lv' := [(3, .int 0), (2, .int (nI (ce 0))), (0, .ref a), (1, .ref bs)]) dX12_init_101 rfl (by decide) rfl 102 rfl ?_
  refine v_iload_n X dX12_init_102 0 rfl rfl 103 rfl ?_
  refine v_iconst X dX12_init_103 ic_3 104 rfl ?_
  refine v_icmp_ge X (tgt := 200) dX12_init_104 rfl 107 rfl (a := none) (b := some ()) (o := ()) (if_neg (by decide)) (fun h => nomatch h) (fun _ => ?_)
  refine v_aload_n X dX12_init_107 3 rfl rfl 108 rfl ?_
  refine v_iconst X dX12_init_108 ic_1 109 rfl ?_
  refine v_iload_n X dX12_init_109 0 rfl rfl 110 rfl ?_
  refine v_iadd X dX12_init_110 111 rfl ?_
  refine v_eq (st2 := [.int (nI 1), .ref bs]) rfl rfl rfl rfl ?_
  refine v_callNi X (As := [.ref bs, .int (nI 1)]) (rest := []) (c_cell l hG D c9 hGU hGS hLs (k := 1) (by decide)) 2 (wg_sub _ whu_29 _) rfl rfl rfl nest_RX12_42 (mw whu_30) (mw whu_31) (by decide +kernel) ⟨Nat.le_of_ble_eq_true rfl, Nat.le_of_ble_eq_true rfl⟩ rfl rfl (Nat.le_of_ble_eq_true rfl) ⟨(by first | exact Nat.le_of_ble_eq_true rfl | omega | (dsimp only; omega)), (by first | exact Nat.le_of_ble_eq_true rfl | omega | (dsimp only; omega))⟩ dX12_init_111 114 rfl ?_
  rw [show scel xs Ls 1 = ce 1 from hce 1]
  refine v_istore X (lv' := [(4, .int (nI (ce 1))), (3, .int 0), (2, .int (nI (ce 0))), (0, .ref a), (1, .ref bs)]) dX12_init_114 (by decide) rfl 116 rfl ?_
  refine v_aload_n X dX12_init_116 3 rfl rfl 117 rfl ?_
  refine v_get X (C := RX12) (T := TX12) (N := 14) (ci := 13) (v := _) dX12_init_117 (lay_of layhu_X12) 0 rfl rfl 1 (by decide) (mw whu_4) rfl rfl 120 rfl ?_
  refine v_iload_n X dX12_init_120 1 rfl rfl 121 rfl ?_
  refine v_iconst X dX12_init_121 ic_1 122 rfl ?_
  refine v_iload X dX12_init_122 0 rfl 124 rfl ?_
  refine v_bipush X dX12_init_124 bp_60 126 rfl ?_
  refine v_irem X dX12_init_126 (by decide) 127 rfl ?_
  rw [show irm (nI (ce 1)) 60 = nI ((ce 1) % 60) from irm_nI (by omega) (by decide) (by decide)]
  refine v_iadd X dX12_init_127 128 rfl ?_
  rw [show (1 : Int32) + nI ((ce 1) % 60) = nI (1 + ((ce 1) % 60)) from nI_add 1 ((ce 1) % 60)]
  refine v_iast X (ws' := [(a, .inr (13, [.int (nI ((ce 0) % 4)), .ref b1, .ref b2, .ref b3, .ref b4, .ref b5, .ref b6, .ref b7, .ref b8, .ref ta, .ref ua, .int (nI ((ce 0 / 4) % 1024)), .int 0, .int 0])), (b1, .inl (c9 0, 3, .inl (upd (fun _ => 0) 0 (nI (1 + ((ce 1) % 60)))))), (b2, .inl (c9 0, 3, .inl (fun _ => 0))), (b3, .inl (c9 0, 3, .inl (fun _ => 0))), (b4, .inl (c9 0, 3, .inl (fun _ => 0))), (b5, .inl (c9 0, 3, .inl (fun _ => 0))), (b6, .inl (c9 0, 3, .inl (fun _ => 0))), (b7, .inl (c9 0, 2, .inl (fun _ => 0))), (b8, .inl (c9 0, 2, .inl (fun _ => 0))), (ta, .inl (c9 4, 0, .inr (.inr (.inr (.inr (outF [])))))), (ua, .inl (c9 4, 0, .inr (.inr (.inr (.inr (outF []))))))]) dX12_init_128 1 0 rfl rfl (wr_nI9 (f := (fun _ => 0)) (k := 0) (show 0 < 3 by decide) (by decide)) rfl 129 rfl ?_
  refine v_aload_n X dX12_init_129 3 rfl rfl 130 rfl ?_
  refine v_get X (C := RX12) (T := TX12) (N := 14) (ci := 13) (v := _) dX12_init_130 (lay_of layhu_X12) 0 rfl rfl 2 (by decide) (mw whu_19) rfl rfl 133 rfl ?_
  refine v_iload_n X dX12_init_133 1 rfl rfl 134 rfl ?_
  refine v_iload X dX12_init_134 0 rfl 136 rfl ?_
  refine v_bipush X dX12_init_136 bp_64 138 rfl ?_
  refine v_idiv X dX12_init_138 (by decide) 139 rfl ?_
  rw [show nI (ce 1) / 64 = nI ((ce 1) / 64) from pk_div (by omega) (by decide) (by decide)]
  refine v_sipush X dX12_init_139 sp_200 142 rfl ?_
  refine v_irem X dX12_init_142 (by decide) 143 rfl ?_
  rw [show irm (nI ((ce 1) / 64)) 200 = nI (((ce 1) / 64) % 200) from irm_nI (by omega) (by decide) (by decide)]
  refine v_iast X (ws' := [(a, .inr (13, [.int (nI ((ce 0) % 4)), .ref b1, .ref b2, .ref b3, .ref b4, .ref b5, .ref b6, .ref b7, .ref b8, .ref ta, .ref ua, .int (nI ((ce 0 / 4) % 1024)), .int 0, .int 0])), (b1, .inl (c9 0, 3, .inl (upd (fun _ => 0) 0 (nI (1 + ((ce 1) % 60)))))), (b2, .inl (c9 0, 3, .inl (upd (fun _ => 0) 0 (nI (((ce 1) / 64) % 200))))), (b3, .inl (c9 0, 3, .inl (fun _ => 0))), (b4, .inl (c9 0, 3, .inl (fun _ => 0))), (b5, .inl (c9 0, 3, .inl (fun _ => 0))), (b6, .inl (c9 0, 3, .inl (fun _ => 0))), (b7, .inl (c9 0, 2, .inl (fun _ => 0))), (b8, .inl (c9 0, 2, .inl (fun _ => 0))), (ta, .inl (c9 4, 0, .inr (.inr (.inr (.inr (outF [])))))), (ua, .inl (c9 4, 0, .inr (.inr (.inr (.inr (outF []))))))]) dX12_init_143 2 0 rfl rfl (wr_nI9 (f := (fun _ => 0)) (k := 0) (show 0 < 3 by decide) (by decide)) rfl 144 rfl ?_
  refine v_aload_n X dX12_init_144 3 rfl rfl 145 rfl ?_
  refine v_get X (C := RX12) (T := TX12) (N := 14) (ci := 13) (v := _) dX12_init_145 (lay_of layhu_X12) 0 rfl rfl 3 (by decide) (mw whu_20) rfl rfl 148 rfl ?_
  refine v_iload_n X dX12_init_148 1 rfl rfl 149 rfl ?_
  refine v_iload X dX12_init_149 0 rfl 151 rfl ?_
  refine v_sipush X dX12_init_151 sp_16384 154 rfl ?_
  refine v_idiv X dX12_init_154 (by decide) 155 rfl ?_
  rw [show nI (ce 1) / 16384 = nI ((ce 1) / 16384) from pk_div (by omega) (by decide) (by decide)]
  refine v_callNi X (As := [.int (nI ((ce 1) / 16384))]) (rest := [.int 0, .ref b3]) (c_offset l hG D c9 hGU (n := (ce 1) / 16384) (by omega)) 1 (wg_sub _ whu_34 _) rfl rfl rfl nest_RX12_55 (mw whu_30) (mw whu_35) (by decide +kernel) ⟨Nat.le_of_ble_eq_true rfl, Nat.le_of_ble_eq_true rfl⟩ rfl rfl (Nat.le_of_ble_eq_true rfl) ⟨(by first | exact Nat.le_of_ble_eq_true rfl | omega | (dsimp only; omega)), (by first | exact Nat.le_of_ble_eq_true rfl | omega | (dsimp only; omega))⟩ dX12_init_155 158 rfl ?_
  refine v_iast X (ws' := [(a, .inr (13, [.int (nI ((ce 0) % 4)), .ref b1, .ref b2, .ref b3, .ref b4, .ref b5, .ref b6, .ref b7, .ref b8, .ref ta, .ref ua, .int (nI ((ce 0 / 4) % 1024)), .int 0, .int 0])), (b1, .inl (c9 0, 3, .inl (upd (fun _ => 0) 0 (nI (1 + ((ce 1) % 60)))))), (b2, .inl (c9 0, 3, .inl (upd (fun _ => 0) 0 (nI (((ce 1) / 64) % 200))))), (b3, .inl (c9 0, 3, .inl (upd (fun _ => 0) 0 (nI ((ce 1) / 16384 % 7) - 3)))), (b4, .inl (c9 0, 3, .inl (fun _ => 0))), (b5, .inl (c9 0, 3, .inl (fun _ => 0))), (b6, .inl (c9 0, 3, .inl (fun _ => 0))), (b7, .inl (c9 0, 2, .inl (fun _ => 0))), (b8, .inl (c9 0, 2, .inl (fun _ => 0))), (ta, .inl (c9 4, 0, .inr (.inr (.inr (.inr (outF [])))))), (ua, .inl (c9 4, 0, .inr (.inr (.inr (.inr (outF []))))))]) dX12_init_158 3 0 rfl rfl (wr_nI9 (f := (fun _ => 0)) (k := 0) (show 0 < 3 by decide) (by decide)) rfl 159 rfl ?_
  refine v_aload_n X dX12_init_159 3 rfl rfl 160 rfl ?_
  refine v_get X (C := RX12) (T := TX12) (N := 14) (ci := 13) (v := _) dX12_init_160 (lay_of layhu_X12) 0 rfl rfl 4 (by decide) (mw whu_21) rfl rfl 163 rfl ?_
  refine v_iload_n X dX12_init_163 1 rfl rfl 164 rfl ?_
  refine v_aload_n X dX12_init_164 4 rfl rfl 165 rfl ?_
  refine v_iconst X dX12_init_165 ic_5 166 rfl ?_
  refine v_iload_n X dX12_init_166 1 rfl rfl 167 rfl ?_
  refine v_iadd X dX12_init_167 168 rfl ?_
  refine v_eq (st2 := [.int (nI 5), .ref bs, .int 0, .ref b4]) rfl rfl rfl rfl ?_
  refine v_callNi X (As := [.ref bs, .int (nI 5)]) (rest := [.int 0, .ref b4]) (c_cell l hG D c9 hGU hGS hLs (k := 5) (by decide)) 2 (wg_sub _ whu_29 _) rfl rfl rfl nest_RX12_42 (mw whu_30) (mw whu_31) (by decide +kernel) ⟨Nat.le_of_ble_eq_true rfl, Nat.le_of_ble_eq_true rfl⟩ rfl rfl (Nat.le_of_ble_eq_true rfl) ⟨(by first | exact Nat.le_of_ble_eq_true rfl | omega | (dsimp only; omega)), (by first | exact Nat.le_of_ble_eq_true rfl | omega | (dsimp only; omega))⟩ dX12_init_168 171 rfl ?_
  rw [show scel xs Ls 5 = ce 5 from hce 5]
  refine v_iconst X dX12_init_171 ic_3 172 rfl ?_
  refine v_irem X dX12_init_172 (by decide) 173 rfl ?_
  rw [show irm (nI (ce 5)) 3 = nI ((ce 5) % 3) from irm_nI (by omega) (by decide) (by decide)]
  refine v_iast X (ws' := [(a, .inr (13, [.int (nI ((ce 0) % 4)), .ref b1, .ref b2, .ref b3, .ref b4, .ref b5, .ref b6, .ref b7, .ref b8, .ref ta, .ref ua, .int (nI ((ce 0 / 4) % 1024)), .int 0, .int 0])), (b1, .inl (c9 0, 3, .inl (upd (fun _ => 0) 0 (nI (1 + ((ce 1) % 60)))))), (b2, .inl (c9 0, 3, .inl (upd (fun _ => 0) 0 (nI (((ce 1) / 64) % 200))))), (b3, .inl (c9 0, 3, .inl (upd (fun _ => 0) 0 (nI ((ce 1) / 16384 % 7) - 3)))), (b4, .inl (c9 0, 3, .inl (upd (fun _ => 0) 0 (nI ((ce 5) % 3))))), (b5, .inl (c9 0, 3, .inl (fun _ => 0))), (b6, .inl (c9 0, 3, .inl (fun _ => 0))), (b7, .inl (c9 0, 2, .inl (fun _ => 0))), (b8, .inl (c9 0, 2, .inl (fun _ => 0))), (ta, .inl (c9 4, 0, .inr (.inr (.inr (.inr (outF [])))))), (ua, .inl (c9 4, 0, .inr (.inr (.inr (.inr (outF []))))))]) dX12_init_173 4 0 rfl rfl (wr_nI9 (f := (fun _ => 0)) (k := 0) (show 0 < 3 by decide) (by decide)) rfl 174 rfl ?_
  refine v_aload_n X dX12_init_174 3 rfl rfl 175 rfl ?_
  refine v_get X (C := RX12) (T := TX12) (N := 14) (ci := 13) (v := _) dX12_init_175 (lay_of layhu_X12) 0 rfl rfl 5 (by decide) (mw whu_22) rfl rfl 178 rfl ?_
  refine v_iload_n X dX12_init_178 1 rfl rfl 179 rfl ?_
  refine v_aload_n X dX12_init_179 4 rfl rfl 180 rfl ?_
  refine v_iconst X dX12_init_180 ic_5 181 rfl ?_
  refine v_iload_n X dX12_init_181 1 rfl rfl 182 rfl ?_
  refine v_iadd X dX12_init_182 183 rfl ?_
  refine v_eq (st2 := [.int (nI 5), .ref bs, .int 0, .ref b5]) rfl rfl rfl rfl ?_
  refine v_callNi X (As := [.ref bs, .int (nI 5)]) (rest := [.int 0, .ref b5]) (c_cell l hG D c9 hGU hGS hLs (k := 5) (by decide)) 2 (wg_sub _ whu_29 _) rfl rfl rfl nest_RX12_42 (mw whu_30) (mw whu_31) (by decide +kernel) ⟨Nat.le_of_ble_eq_true rfl, Nat.le_of_ble_eq_true rfl⟩ rfl rfl (Nat.le_of_ble_eq_true rfl) ⟨(by first | exact Nat.le_of_ble_eq_true rfl | omega | (dsimp only; omega)), (by first | exact Nat.le_of_ble_eq_true rfl | omega | (dsimp only; omega))⟩ dX12_init_183 186 rfl ?_
  rw [show scel xs Ls 5 = ce 5 from hce 5]
  refine v_sipush X dX12_init_186 sp_512 189 rfl ?_
  refine v_idiv X dX12_init_189 (by decide) 190 rfl ?_
  rw [show nI (ce 5) / 512 = nI ((ce 5) / 512) from pk_div (by omega) (by decide) (by decide)]
  refine v_callNi X (As := [.int (nI (ce 5 / 512))]) (rest := [.int 0, .ref b5]) (c_offset l hG D c9 hGU (n := ce 5 / 512) (by omega)) 1 (wg_sub _ whu_34 _) rfl rfl rfl nest_RX12_55 (mw whu_30) (mw whu_35) (by decide +kernel) ⟨Nat.le_of_ble_eq_true rfl, Nat.le_of_ble_eq_true rfl⟩ rfl rfl (Nat.le_of_ble_eq_true rfl) ⟨(by first | exact Nat.le_of_ble_eq_true rfl | omega | (dsimp only; omega)), (by first | exact Nat.le_of_ble_eq_true rfl | omega | (dsimp only; omega))⟩ dX12_init_190 193 rfl ?_
  refine v_iast X (ws' := [(a, .inr (13, [.int (nI ((ce 0) % 4)), .ref b1, .ref b2, .ref b3, .ref b4, .ref b5, .ref b6, .ref b7, .ref b8, .ref ta, .ref ua, .int (nI ((ce 0 / 4) % 1024)), .int 0, .int 0])), (b1, .inl (c9 0, 3, .inl (upd (fun _ => 0) 0 (nI (1 + ((ce 1) % 60)))))), (b2, .inl (c9 0, 3, .inl (upd (fun _ => 0) 0 (nI (((ce 1) / 64) % 200))))), (b3, .inl (c9 0, 3, .inl (upd (fun _ => 0) 0 (nI ((ce 1) / 16384 % 7) - 3)))), (b4, .inl (c9 0, 3, .inl (upd (fun _ => 0) 0 (nI ((ce 5) % 3))))), (b5, .inl (c9 0, 3, .inl (upd (fun _ => 0) 0 (nI (ce 5 / 512 % 7) - 3)))), (b6, .inl (c9 0, 3, .inl (fun _ => 0))), (b7, .inl (c9 0, 2, .inl (fun _ => 0))), (b8, .inl (c9 0, 2, .inl (fun _ => 0))), (ta, .inl (c9 4, 0, .inr (.inr (.inr (.inr (outF [])))))), (ua, .inl (c9 4, 0, .inr (.inr (.inr (.inr (outF []))))))]) dX12_init_193 5 0 rfl rfl (wr_nI9 (f := (fun _ => 0)) (k := 0) (show 0 < 3 by decide) (by decide)) rfl 194 rfl ?_
  refine v_iinc X (lv' := [(3, .int (0 + 1)), (4, .int (nI (ce 1))), (2, .int (nI (ce 0))), (0, .ref a), (1, .ref bs)]) dX12_init_194 1 rfl ic_1 (by decide) rfl 197 rfl ?_
  refine v_goto X (tgt := 102) dX12_init_197 rfl ?_
  refine v_sub (lv' := [(3, .int 1), (2, .int (nI (ce 0))), (1, .ref bs), (0, .ref a)]) [0, 2, 4, 3] rfl ?_
  refine v_iload_n X dX12_init_102 0 rfl rfl 103 rfl ?_
  refine v_iconst X dX12_init_103 ic_3 104 rfl ?_
  refine v_icmp_ge X (tgt := 200) dX12_init_104 rfl 107 rfl (a := none) (b := some ()) (o := ()) (if_neg (by decide)) (fun h => nomatch h) (fun _ => ?_)
  refine v_aload_n X dX12_init_107 2 rfl rfl 108 rfl ?_
  refine v_iconst X dX12_init_108 ic_1 109 rfl ?_
  refine v_iload_n X dX12_init_109 0 rfl rfl 110 rfl ?_
  refine v_iadd X dX12_init_110 111 rfl ?_
  refine v_eq (st2 := [.int (nI 2), .ref bs]) rfl rfl rfl rfl ?_
  refine v_callNi X (As := [.ref bs, .int (nI 2)]) (rest := []) (c_cell l hG D c9 hGU hGS hLs (k := 2) (by decide)) 2 (wg_sub _ whu_29 _) rfl rfl rfl nest_RX12_42 (mw whu_30) (mw whu_31) (by decide +kernel) ⟨Nat.le_of_ble_eq_true rfl, Nat.le_of_ble_eq_true rfl⟩ rfl rfl (Nat.le_of_ble_eq_true rfl) ⟨(by first | exact Nat.le_of_ble_eq_true rfl | omega | (dsimp only; omega)), (by first | exact Nat.le_of_ble_eq_true rfl | omega | (dsimp only; omega))⟩ dX12_init_111 114 rfl ?_
  rw [show scel xs Ls 2 = ce 2 from hce 2]
  refine v_istore X (lv' := [(4, .int (nI (ce 2))), (3, .int 1), (2, .int (nI (ce 0))), (1, .ref bs), (0, .ref a)]) dX12_init_114 (by decide) rfl 116 rfl ?_
  refine v_aload_n X dX12_init_116 4 rfl rfl 117 rfl ?_
  refine v_get X (C := RX12) (T := TX12) (N := 14) (ci := 13) (v := _) dX12_init_117 (lay_of layhu_X12) 0 rfl rfl 1 (by decide) (mw whu_4) rfl rfl 120 rfl ?_
  refine v_iload_n X dX12_init_120 1 rfl rfl 121 rfl ?_
  refine v_iconst X dX12_init_121 ic_1 122 rfl ?_
  refine v_iload X dX12_init_122 0 rfl 124 rfl ?_
  refine v_bipush X dX12_init_124 bp_60 126 rfl ?_
  refine v_irem X dX12_init_126 (by decide) 127 rfl ?_
  rw [show irm (nI (ce 2)) 60 = nI ((ce 2) % 60) from irm_nI (by omega) (by decide) (by decide)]
  refine v_iadd X dX12_init_127 128 rfl ?_
  rw [show (1 : Int32) + nI ((ce 2) % 60) = nI (1 + ((ce 2) % 60)) from nI_add 1 ((ce 2) % 60)]
  refine v_iast X (ws' := [(a, .inr (13, [.int (nI ((ce 0) % 4)), .ref b1, .ref b2, .ref b3, .ref b4, .ref b5, .ref b6, .ref b7, .ref b8, .ref ta, .ref ua, .int (nI ((ce 0 / 4) % 1024)), .int 0, .int 0])), (b1, .inl (c9 0, 3, .inl (upd (upd (fun _ => 0) 0 (nI (1 + ((ce 1) % 60)))) 1 (nI (1 + ((ce 2) % 60)))))), (b2, .inl (c9 0, 3, .inl (upd (fun _ => 0) 0 (nI (((ce 1) / 64) % 200))))), (b3, .inl (c9 0, 3, .inl (upd (fun _ => 0) 0 (nI ((ce 1) / 16384 % 7) - 3)))), (b4, .inl (c9 0, 3, .inl (upd (fun _ => 0) 0 (nI ((ce 5) % 3))))), (b5, .inl (c9 0, 3, .inl (upd (fun _ => 0) 0 (nI (ce 5 / 512 % 7) - 3)))), (b6, .inl (c9 0, 3, .inl (fun _ => 0))), (b7, .inl (c9 0, 2, .inl (fun _ => 0))), (b8, .inl (c9 0, 2, .inl (fun _ => 0))), (ta, .inl (c9 4, 0, .inr (.inr (.inr (.inr (outF [])))))), (ua, .inl (c9 4, 0, .inr (.inr (.inr (.inr (outF []))))))]) dX12_init_128 1 0 rfl rfl (wr_nI9 (f := (upd (fun _ => 0) 0 (nI (1 + ((ce 1) % 60))))) (k := 1) (show 1 < 3 by decide) (by decide)) rfl 129 rfl ?_
  refine v_aload_n X dX12_init_129 4 rfl rfl 130 rfl ?_
  refine v_get X (C := RX12) (T := TX12) (N := 14) (ci := 13) (v := _) dX12_init_130 (lay_of layhu_X12) 0 rfl rfl 2 (by decide) (mw whu_19) rfl rfl 133 rfl ?_
  refine v_iload_n X dX12_init_133 1 rfl rfl 134 rfl ?_
  refine v_iload X dX12_init_134 0 rfl 136 rfl ?_
  refine v_bipush X dX12_init_136 bp_64 138 rfl ?_
  refine v_idiv X dX12_init_138 (by decide) 139 rfl ?_
  rw [show nI (ce 2) / 64 = nI ((ce 2) / 64) from pk_div (by omega) (by decide) (by decide)]
  refine v_sipush X dX12_init_139 sp_200 142 rfl ?_
  refine v_irem X dX12_init_142 (by decide) 143 rfl ?_
  rw [show irm (nI ((ce 2) / 64)) 200 = nI (((ce 2) / 64) % 200) from irm_nI (by omega) (by decide) (by decide)]
  refine v_iast X (ws' := [(a, .inr (13, [.int (nI ((ce 0) % 4)), .ref b1, .ref b2, .ref b3, .ref b4, .ref b5, .ref b6, .ref b7, .ref b8, .ref ta, .ref ua, .int (nI ((ce 0 / 4) % 1024)), .int 0, .int 0])), (b1, .inl (c9 0, 3, .inl (upd (upd (fun _ => 0) 0 (nI (1 + ((ce 1) % 60)))) 1 (nI (1 + ((ce 2) % 60)))))), (b2, .inl (c9 0, 3, .inl (upd (upd (fun _ => 0) 0 (nI (((ce 1) / 64) % 200))) 1 (nI (((ce 2) / 64) % 200))))), (b3, .inl (c9 0, 3, .inl (upd (fun _ => 0) 0 (nI ((ce 1) / 16384 % 7) - 3)))), (b4, .inl (c9 0, 3, .inl (upd (fun _ => 0) 0 (nI ((ce 5) % 3))))), (b5, .inl (c9 0, 3, .inl (upd (fun _ => 0) 0 (nI (ce 5 / 512 % 7) - 3)))), (b6, .inl (c9 0, 3, .inl (fun _ => 0))), (b7, .inl (c9 0, 2, .inl (fun _ => 0))), (b8, .inl (c9 0, 2, .inl (fun _ => 0))), (ta, .inl (c9 4, 0, .inr (.inr (.inr (.inr (outF [])))))), (ua, .inl (c9 4, 0, .inr (.inr (.inr (.inr (outF []))))))]) dX12_init_143 2 0 rfl rfl (wr_nI9 (f := (upd (fun _ => 0) 0 (nI (((ce 1) / 64) % 200)))) (k := 1) (show 1 < 3 by decide) (by decide)) rfl 144 rfl ?_
  refine v_aload_n X dX12_init_144 4 rfl rfl 145 rfl ?_
  refine v_get X (C := RX12) (T := TX12) (N := 14) (ci := 13) (v := _) dX12_init_145 (lay_of layhu_X12) 0 rfl rfl 3 (by decide) (mw whu_20) rfl rfl 148 rfl ?_
  refine v_iload_n X dX12_init_148 1 rfl rfl 149 rfl ?_
  refine v_iload X dX12_init_149 0 rfl 151 rfl ?_
  refine v_sipush X dX12_init_151 sp_16384 154 rfl ?_
  refine v_idiv X dX12_init_154 (by decide) 155 rfl ?_
  rw [show nI (ce 2) / 16384 = nI ((ce 2) / 16384) from pk_div (by omega) (by decide) (by decide)]
  refine v_callNi X (As := [.int (nI ((ce 2) / 16384))]) (rest := [.int 1, .ref b3]) (c_offset l hG D c9 hGU (n := (ce 2) / 16384) (by omega)) 1 (wg_sub _ whu_34 _) rfl rfl rfl nest_RX12_55 (mw whu_30) (mw whu_35) (by decide +kernel) ⟨Nat.le_of_ble_eq_true rfl, Nat.le_of_ble_eq_true rfl⟩ rfl rfl (Nat.le_of_ble_eq_true rfl) ⟨(by first | exact Nat.le_of_ble_eq_true rfl | omega | (dsimp only; omega)), (by first | exact Nat.le_of_ble_eq_true rfl | omega | (dsimp only; omega))⟩ dX12_init_155 158 rfl ?_
  refine v_iast X (ws' := [(a, .inr (13, [.int (nI ((ce 0) % 4)), .ref b1, .ref b2, .ref b3, .ref b4, .ref b5, .ref b6, .ref b7, .ref b8, .ref ta, .ref ua, .int (nI ((ce 0 / 4) % 1024)), .int 0, .int 0])), (b1, .inl (c9 0, 3, .inl (upd (upd (fun _ => 0) 0 (nI (1 + ((ce 1) % 60)))) 1 (nI (1 + ((ce 2) % 60)))))), (b2, .inl (c9 0, 3, .inl (upd (upd (fun _ => 0) 0 (nI (((ce 1) / 64) % 200))) 1 (nI (((ce 2) / 64) % 200))))), (b3, .inl (c9 0, 3, .inl (upd (upd (fun _ => 0) 0 (nI ((ce 1) / 16384 % 7) - 3)) 1 (nI ((ce 2) / 16384 % 7) - 3)))), (b4, .inl (c9 0, 3, .inl (upd (fun _ => 0) 0 (nI ((ce 5) % 3))))), (b5, .inl (c9 0, 3, .inl (upd (fun _ => 0) 0 (nI (ce 5 / 512 % 7) - 3)))), (b6, .inl (c9 0, 3, .inl (fun _ => 0))), (b7, .inl (c9 0, 2, .inl (fun _ => 0))), (b8, .inl (c9 0, 2, .inl (fun _ => 0))), (ta, .inl (c9 4, 0, .inr (.inr (.inr (.inr (outF [])))))), (ua, .inl (c9 4, 0, .inr (.inr (.inr (.inr (outF []))))))]) dX12_init_158 3 0 rfl rfl (wr_nI9 (f := (upd (fun _ => 0) 0 (nI ((ce 1) / 16384 % 7) - 3))) (k := 1) (show 1 < 3 by decide) (by decide)) rfl 159 rfl ?_
  refine v_aload_n X dX12_init_159 4 rfl rfl 160 rfl ?_
  refine v_get X (C := RX12) (T := TX12) (N := 14) (ci := 13) (v := _) dX12_init_160 (lay_of layhu_X12) 0 rfl rfl 4 (by decide) (mw whu_21) rfl rfl 163 rfl ?_
  refine v_iload_n X dX12_init_163 1 rfl rfl 164 rfl ?_
  refine v_aload_n X dX12_init_164 3 rfl rfl 165 rfl ?_
  refine v_iconst X dX12_init_165 ic_5 166 rfl ?_
  refine v_iload_n X dX12_init_166 1 rfl rfl 167 rfl ?_
  refine v_iadd X dX12_init_167 168 rfl ?_
  refine v_eq (st2 := [.int (nI 6), .ref bs, .int 1, .ref b4]) rfl rfl rfl rfl ?_
  refine v_callNi X (As := [.ref bs, .int (nI 6)]) (rest := [.int 1, .ref b4]) (c_cell l hG D c9 hGU hGS hLs (k := 6) (by decide)) 2 (wg_sub _ whu_29 _) rfl rfl rfl nest_RX12_42 (mw whu_30) (mw whu_31) (by decide +kernel) ⟨Nat.le_of_ble_eq_true rfl, Nat.le_of_ble_eq_true rfl⟩ rfl rfl (Nat.le_of_ble_eq_true rfl) ⟨(by first | exact Nat.le_of_ble_eq_true rfl | omega | (dsimp only; omega)), (by first | exact Nat.le_of_ble_eq_true rfl | omega | (dsimp only; omega))⟩ dX12_init_168 171 rfl ?_
  rw [show scel xs Ls 6 = ce 6 from hce 6]
  refine v_iconst X dX12_init_171 ic_3 172 rfl ?_
  refine v_irem X dX12_init_172 (by decide) 173 rfl ?_
  rw [show irm (nI (ce 6)) 3 = nI ((ce 6) % 3) from irm_nI (by omega) (by decide) (by decide)]
  refine v_iast X (ws' := [(a, .inr (13, [.int (nI ((ce 0) % 4)), .ref b1, .ref b2, .ref b3, .ref b4, .ref b5, .ref b6, .ref b7, .ref b8, .ref ta, .ref ua, .int (nI ((ce 0 / 4) % 1024)), .int 0, .int 0])), (b1, .inl (c9 0, 3, .inl (upd (upd (fun _ => 0) 0 (nI (1 + ((ce 1) % 60)))) 1 (nI (1 + ((ce 2) % 60)))))), (b2, .inl (c9 0, 3, .inl (upd (upd (fun _ => 0) 0 (nI (((ce 1) / 64) % 200))) 1 (nI (((ce 2) / 64) % 200))))), (b3, .inl (c9 0, 3, .inl (upd (upd (fun _ => 0) 0 (nI ((ce 1) / 16384 % 7) - 3)) 1 (nI ((ce 2) / 16384 % 7) - 3)))), (b4, .inl (c9 0, 3, .inl (upd (upd (fun _ => 0) 0 (nI ((ce 5) % 3))) 1 (nI ((ce 6) % 3))))), (b5, .inl (c9 0, 3, .inl (upd (fun _ => 0) 0 (nI (ce 5 / 512 % 7) - 3)))), (b6, .inl (c9 0, 3, .inl (fun _ => 0))), (b7, .inl (c9 0, 2, .inl (fun _ => 0))), (b8, .inl (c9 0, 2, .inl (fun _ => 0))), (ta, .inl (c9 4, 0, .inr (.inr (.inr (.inr (outF [])))))), (ua, .inl (c9 4, 0, .inr (.inr (.inr (.inr (outF []))))))]) dX12_init_173 4 0 rfl rfl (wr_nI9 (f := (upd (fun _ => 0) 0 (nI ((ce 5) % 3)))) (k := 1) (show 1 < 3 by decide) (by decide)) rfl 174 rfl ?_
  refine v_aload_n X dX12_init_174 4 rfl rfl 175 rfl ?_
  refine v_get X (C := RX12) (T := TX12) (N := 14) (ci := 13) (v := _) dX12_init_175 (lay_of layhu_X12) 0 rfl rfl 5 (by decide) (mw whu_22) rfl rfl 178 rfl ?_
  refine v_iload_n X dX12_init_178 1 rfl rfl 179 rfl ?_
  refine v_aload_n X dX12_init_179 3 rfl rfl 180 rfl ?_
  refine v_iconst X dX12_init_180 ic_5 181 rfl ?_
  refine v_iload_n X dX12_init_181 1 rfl rfl 182 rfl ?_
  refine v_iadd X dX12_init_182 183 rfl ?_
  refine v_eq (st2 := [.int (nI 6), .ref bs, .int 1, .ref b5]) rfl rfl rfl rfl ?_
  refine v_callNi X (As := [.ref bs, .int (nI 6)]) (rest := [.int 1, .ref b5]) (c_cell l hG D c9 hGU hGS hLs (k := 6) (by decide)) 2 (wg_sub _ whu_29 _) rfl rfl rfl nest_RX12_42 (mw whu_30) (mw whu_31) (by decide +kernel) ⟨Nat.le_of_ble_eq_true rfl, Nat.le_of_ble_eq_true rfl⟩ rfl rfl (Nat.le_of_ble_eq_true rfl) ⟨(by first | exact Nat.le_of_ble_eq_true rfl | omega | (dsimp only; omega)), (by first | exact Nat.le_of_ble_eq_true rfl | omega | (dsimp only; omega))⟩ dX12_init_183 186 rfl ?_
  rw [show scel xs Ls 6 = ce 6 from hce 6]
  refine v_sipush X dX12_init_186 sp_512 189 rfl ?_
  refine v_idiv X dX12_init_189 (by decide) 190 rfl ?_
  rw [show nI (ce 6) / 512 = nI ((ce 6) / 512) from pk_div (by omega) (by decide) (by decide)]
  refine v_callNi X (As := [.int (nI (ce 6 / 512))]) (rest := [.int 1, .ref b5]) (c_offset l hG D c9 hGU (n := ce 6 / 512) (by omega)) 1 (wg_sub _ whu_34 _) rfl rfl rfl nest_RX12_55 (mw whu_30) (mw whu_35) (by decide +kernel) ⟨Nat.le_of_ble_eq_true rfl, Nat.le_of_ble_eq_true rfl⟩ rfl rfl (Nat.le_of_ble_eq_true rfl) ⟨(by first | exact Nat.le_of_ble_eq_true rfl | omega | (dsimp only; omega)), (by first | exact Nat.le_of_ble_eq_true rfl | omega | (dsimp only; omega))⟩ dX12_init_190 193 rfl ?_
  refine v_iast X (ws' := [(a, .inr (13, [.int (nI ((ce 0) % 4)), .ref b1, .ref b2, .ref b3, .ref b4, .ref b5, .ref b6, .ref b7, .ref b8, .ref ta, .ref ua, .int (nI ((ce 0 / 4) % 1024)), .int 0, .int 0])), (b1, .inl (c9 0, 3, .inl (upd (upd (fun _ => 0) 0 (nI (1 + ((ce 1) % 60)))) 1 (nI (1 + ((ce 2) % 60)))))), (b2, .inl (c9 0, 3, .inl (upd (upd (fun _ => 0) 0 (nI (((ce 1) / 64) % 200))) 1 (nI (((ce 2) / 64) % 200))))), (b3, .inl (c9 0, 3, .inl (upd (upd (fun _ => 0) 0 (nI ((ce 1) / 16384 % 7) - 3)) 1 (nI ((ce 2) / 16384 % 7) - 3)))), (b4, .inl (c9 0, 3, .inl (upd (upd (fun _ => 0) 0 (nI ((ce 5) % 3))) 1 (nI ((ce 6) % 3))))), (b5, .inl (c9 0, 3, .inl (upd (upd (fun _ => 0) 0 (nI (ce 5 / 512 % 7) - 3)) 1 (nI (ce 6 / 512 % 7) - 3)))), (b6, .inl (c9 0, 3, .inl (fun _ => 0))), (b7, .inl (c9 0, 2, .inl (fun _ => 0))), (b8, .inl (c9 0, 2, .inl (fun _ => 0))), (ta, .inl (c9 4, 0, .inr (.inr (.inr (.inr (outF [])))))), (ua, .inl (c9 4, 0, .inr (.inr (.inr (.inr (outF []))))))]) dX12_init_193 5 0 rfl rfl (wr_nI9 (f := (upd (fun _ => 0) 0 (nI (ce 5 / 512 % 7) - 3))) (k := 1) (show 1 < 3 by decide) (by decide)) rfl 194 rfl ?_
  refine v_iinc X (lv' := [(3, .int (1 + 1)), (4, .int (nI (ce 2))), (2, .int (nI (ce 0))), (1, .ref bs), (0, .ref a)]) dX12_init_194 1 rfl ic_1 (by decide) rfl 197 rfl ?_
  refine v_goto X (tgt := 102) dX12_init_197 rfl ?_
  refine v_sub (lv' := [(3, .int 2), (2, .int (nI (ce 0))), (1, .ref bs), (0, .ref a)]) [0, 2, 3, 4] rfl ?_
  refine v_iload_n X dX12_init_102 0 rfl rfl 103 rfl ?_
  refine v_iconst X dX12_init_103 ic_3 104 rfl ?_
  refine v_icmp_ge X (tgt := 200) dX12_init_104 rfl 107 rfl (a := none) (b := some ()) (o := ()) (if_neg (by decide)) (fun h => nomatch h) (fun _ => ?_)
  refine v_aload_n X dX12_init_107 2 rfl rfl 108 rfl ?_
  refine v_iconst X dX12_init_108 ic_1 109 rfl ?_
  refine v_iload_n X dX12_init_109 0 rfl rfl 110 rfl ?_
  refine v_iadd X dX12_init_110 111 rfl ?_
  refine v_eq (st2 := [.int (nI 3), .ref bs]) rfl rfl rfl rfl ?_
  refine v_callNi X (As := [.ref bs, .int (nI 3)]) (rest := []) (c_cell l hG D c9 hGU hGS hLs (k := 3) (by decide)) 2 (wg_sub _ whu_29 _) rfl rfl rfl nest_RX12_42 (mw whu_30) (mw whu_31) (by decide +kernel) ⟨Nat.le_of_ble_eq_true rfl, Nat.le_of_ble_eq_true rfl⟩ rfl rfl (Nat.le_of_ble_eq_true rfl) ⟨(by first | exact Nat.le_of_ble_eq_true rfl | omega | (dsimp only; omega)), (by first | exact Nat.le_of_ble_eq_true rfl | omega | (dsimp only; omega))⟩ dX12_init_111 114 rfl ?_
  rw [show scel xs Ls 3 = ce 3 from hce 3]
  refine v_istore X (lv' := [(4, .int (nI (ce 3))), (3, .int 2), (2, .int (nI (ce 0))), (1, .ref bs), (0, .ref a)]) dX12_init_114 (by decide) rfl 116 rfl ?_
  refine v_aload_n X dX12_init_116 4 rfl rfl 117 rfl ?_
  refine v_get X (C := RX12) (T := TX12) (N := 14) (ci := 13) (v := _) dX12_init_117 (lay_of layhu_X12) 0 rfl rfl 1 (by decide) (mw whu_4) rfl rfl 120 rfl ?_
  refine v_iload_n X dX12_init_120 1 rfl rfl 121 rfl ?_
  refine v_iconst X dX12_init_121 ic_1 122 rfl ?_
  refine v_iload X dX12_init_122 0 rfl 124 rfl ?_
  refine v_bipush X dX12_init_124 bp_60 126 rfl ?_
  refine v_irem X dX12_init_126 (by decide) 127 rfl ?_
  rw [show irm (nI (ce 3)) 60 = nI ((ce 3) % 60) from irm_nI (by omega) (by decide) (by decide)]
  refine v_iadd X dX12_init_127 128 rfl ?_
  rw [show (1 : Int32) + nI ((ce 3) % 60) = nI (1 + ((ce 3) % 60)) from nI_add 1 ((ce 3) % 60)]
  refine v_iast X (ws' := [(a, .inr (13, [.int (nI ((ce 0) % 4)), .ref b1, .ref b2, .ref b3, .ref b4, .ref b5, .ref b6, .ref b7, .ref b8, .ref ta, .ref ua, .int (nI ((ce 0 / 4) % 1024)), .int 0, .int 0])), (b1, .inl (c9 0, 3, .inl (upd (upd (upd (fun _ => 0) 0 (nI (1 + ((ce 1) % 60)))) 1 (nI (1 + ((ce 2) % 60)))) 2 (nI (1 + ((ce 3) % 60)))))), (b2, .inl (c9 0, 3, .inl (upd (upd (fun _ => 0) 0 (nI (((ce 1) / 64) % 200))) 1 (nI (((ce 2) / 64) % 200))))), (b3, .inl (c9 0, 3, .inl (upd (upd (fun _ => 0) 0 (nI ((ce 1) / 16384 % 7) - 3)) 1 (nI ((ce 2) / 16384 % 7) - 3)))), (b4, .inl (c9 0, 3, .inl (upd (upd (fun _ => 0) 0 (nI ((ce 5) % 3))) 1 (nI ((ce 6) % 3))))), (b5, .inl (c9 0, 3, .inl (upd (upd (fun _ => 0) 0 (nI (ce 5 / 512 % 7) - 3)) 1 (nI (ce 6 / 512 % 7) - 3)))), (b6, .inl (c9 0, 3, .inl (fun _ => 0))), (b7, .inl (c9 0, 2, .inl (fun _ => 0))), (b8, .inl (c9 0, 2, .inl (fun _ => 0))), (ta, .inl (c9 4, 0, .inr (.inr (.inr (.inr (outF [])))))), (ua, .inl (c9 4, 0, .inr (.inr (.inr (.inr (outF []))))))]) dX12_init_128 1 0 rfl rfl (wr_nI9 (f := (upd (upd (fun _ => 0) 0 (nI (1 + ((ce 1) % 60)))) 1 (nI (1 + ((ce 2) % 60))))) (k := 2) (show 2 < 3 by decide) (by decide)) rfl 129 rfl ?_
  refine v_aload_n X dX12_init_129 4 rfl rfl 130 rfl ?_
  refine v_get X (C := RX12) (T := TX12) (N := 14) (ci := 13) (v := _) dX12_init_130 (lay_of layhu_X12) 0 rfl rfl 2 (by decide) (mw whu_19) rfl rfl 133 rfl ?_
  refine v_iload_n X dX12_init_133 1 rfl rfl 134 rfl ?_
  refine v_iload X dX12_init_134 0 rfl 136 rfl ?_
  refine v_bipush X dX12_init_136 bp_64 138 rfl ?_
  refine v_idiv X dX12_init_138 (by decide) 139 rfl ?_
  rw [show nI (ce 3) / 64 = nI ((ce 3) / 64) from pk_div (by omega) (by decide) (by decide)]
  refine v_sipush X dX12_init_139 sp_200 142 rfl ?_
  refine v_irem X dX12_init_142 (by decide) 143 rfl ?_
  rw [show irm (nI ((ce 3) / 64)) 200 = nI (((ce 3) / 64) % 200) from irm_nI (by omega) (by decide) (by decide)]
  refine v_iast X (ws' := [(a, .inr (13, [.int (nI ((ce 0) % 4)), .ref b1, .ref b2, .ref b3, .ref b4, .ref b5, .ref b6, .ref b7, .ref b8, .ref ta, .ref ua, .int (nI ((ce 0 / 4) % 1024)), .int 0, .int 0])), (b1, .inl (c9 0, 3, .inl (upd (upd (upd (fun _ => 0) 0 (nI (1 + ((ce 1) % 60)))) 1 (nI (1 + ((ce 2) % 60)))) 2 (nI (1 + ((ce 3) % 60)))))), (b2, .inl (c9 0, 3, .inl (upd (upd (upd (fun _ => 0) 0 (nI (((ce 1) / 64) % 200))) 1 (nI (((ce 2) / 64) % 200))) 2 (nI (((ce 3) / 64) % 200))))), (b3, .inl (c9 0, 3, .inl (upd (upd (fun _ => 0) 0 (nI ((ce 1) / 16384 % 7) - 3)) 1 (nI ((ce 2) / 16384 % 7) - 3)))), (b4, .inl (c9 0, 3, .inl (upd (upd (fun _ => 0) 0 (nI ((ce 5) % 3))) 1 (nI ((ce 6) % 3))))), (b5, .inl (c9 0, 3, .inl (upd (upd (fun _ => 0) 0 (nI (ce 5 / 512 % 7) - 3)) 1 (nI (ce 6 / 512 % 7) - 3)))), (b6, .inl (c9 0, 3, .inl (fun _ => 0))), (b7, .inl (c9 0, 2, .inl (fun _ => 0))), (b8, .inl (c9 0, 2, .inl (fun _ => 0))), (ta, .inl (c9 4, 0, .inr (.inr (.inr (.inr (outF [])))))), (ua, .inl (c9 4, 0, .inr (.inr (.inr (.inr (outF []))))))]) dX12_init_143 2 0 rfl rfl (wr_nI9 (f := (upd (upd (fun _ => 0) 0 (nI (((ce 1) / 64) % 200))) 1 (nI (((ce 2) / 64) % 200)))) (k := 2) (show 2 < 3 by decide) (by decide)) rfl 144 rfl ?_
  refine v_aload_n X dX12_init_144 4 rfl rfl 145 rfl ?_
  refine v_get X (C := RX12) (T := TX12) (N := 14) (ci := 13) (v := _) dX12_init_145 (lay_of layhu_X12) 0 rfl rfl 3 (by decide) (mw whu_20) rfl rfl 148 rfl ?_
  refine v_iload_n X dX12_init_148 1 rfl rfl 149 rfl ?_
  refine v_iload X dX12_init_149 0 rfl 151 rfl ?_
  refine v_sipush X dX12_init_151 sp_16384 154 rfl ?_
  refine v_idiv X dX12_init_154 (by decide) 155 rfl ?_
  rw [show nI (ce 3) / 16384 = nI ((ce 3) / 16384) from pk_div (by omega) (by decide) (by decide)]
  refine v_callNi X (As := [.int (nI ((ce 3) / 16384))]) (rest := [.int 2, .ref b3]) (c_offset l hG D c9 hGU (n := (ce 3) / 16384) (by omega)) 1 (wg_sub _ whu_34 _) rfl rfl rfl nest_RX12_55 (mw whu_30) (mw whu_35) (by decide +kernel) ⟨Nat.le_of_ble_eq_true rfl, Nat.le_of_ble_eq_true rfl⟩ rfl rfl (Nat.le_of_ble_eq_true rfl) ⟨(by first | exact Nat.le_of_ble_eq_true rfl | omega | (dsimp only; omega)), (by first | exact Nat.le_of_ble_eq_true rfl | omega | (dsimp only; omega))⟩ dX12_init_155 158 rfl ?_
  refine v_iast X (ws' := [(a, .inr (13, [.int (nI ((ce 0) % 4)), .ref b1, .ref b2, .ref b3, .ref b4, .ref b5, .ref b6, .ref b7, .ref b8, .ref ta, .ref ua, .int (nI ((ce 0 / 4) % 1024)), .int 0, .int 0])), (b1, .inl (c9 0, 3, .inl (upd (upd (upd (fun _ => 0) 0 (nI (1 + ((ce 1) % 60)))) 1 (nI (1 + ((ce 2) % 60)))) 2 (nI (1 + ((ce 3) % 60)))))), (b2, .inl (c9 0, 3, .inl (upd (upd (upd (fun _ => 0) 0 (nI (((ce 1) / 64) % 200))) 1 (nI (((ce 2) / 64) % 200))) 2 (nI (((ce 3) / 64) % 200))))), (b3, .inl (c9 0, 3, .inl (upd (upd (upd (fun _ => 0) 0 (nI ((ce 1) / 16384 % 7) - 3)) 1 (nI ((ce 2) / 16384 % 7) - 3)) 2 (nI ((ce 3) / 16384 % 7) - 3)))), (b4, .inl (c9 0, 3, .inl (upd (upd (fun _ => 0) 0 (nI ((ce 5) % 3))) 1 (nI ((ce 6) % 3))))), (b5, .inl (c9 0, 3, .inl (upd (upd (fun _ => 0) 0 (nI (ce 5 / 512 % 7) - 3)) 1 (nI (ce 6 / 512 % 7) - 3)))), (b6, .inl (c9 0, 3, .inl (fun _ => 0))), (b7, .inl (c9 0, 2, .inl (fun _ => 0))), (b8, .inl (c9 0, 2, .inl (fun _ => 0))), (ta, .inl (c9 4, 0, .inr (.inr (.inr (.inr (outF [])))))), (ua, .inl (c9 4, 0, .inr (.inr (.inr (.inr (outF []))))))]) dX12_init_158 3 0 rfl rfl (wr_nI9 (f := (upd (upd (fun _ => 0) 0 (nI ((ce 1) / 16384 % 7) - 3)) 1 (nI ((ce 2) / 16384 % 7) - 3))) (k := 2) (show 2 < 3 by decide) (by decide)) rfl 159 rfl ?_
  refine v_aload_n X dX12_init_159 4 rfl rfl 160 rfl ?_
  refine v_get X (C := RX12) (T := TX12) (N := 14) (ci := 13) (v := _) dX12_init_160 (lay_of layhu_X12) 0 rfl rfl 4 (by decide) (mw whu_21) rfl rfl 163 rfl ?_
  refine v_iload_n X dX12_init_163 1 rfl rfl 164 rfl ?_
  refine v_aload_n X dX12_init_164 3 rfl rfl 165 rfl ?_
  refine v_iconst X dX12_init_165 ic_5 166 rfl ?_
  refine v_iload_n X dX12_init_166 1 rfl rfl 167 rfl ?_
  refine v_iadd X dX12_init_167 168 rfl ?_
  refine v_eq (st2 := [.int (nI 7), .ref bs, .int 2, .ref b4]) rfl rfl rfl rfl ?_
  refine v_callNi X (As := [.ref bs, .int (nI 7)]) (rest := [.int 2, .ref b4]) (c_cell l hG D c9 hGU hGS hLs (k := 7) (by decide)) 2 (wg_sub _ whu_29 _) rfl rfl rfl nest_RX12_42 (mw whu_30) (mw whu_31) (by decide +kernel) ⟨Nat.le_of_ble_eq_true rfl, Nat.le_of_ble_eq_true rfl⟩ rfl rfl (Nat.le_of_ble_eq_true rfl) ⟨(by first | exact Nat.le_of_ble_eq_true rfl | omega | (dsimp only; omega)), (by first | exact Nat.le_of_ble_eq_true rfl | omega | (dsimp only; omega))⟩ dX12_init_168 171 rfl ?_
  rw [show scel xs Ls 7 = ce 7 from hce 7]
  refine v_iconst X dX12_init_171 ic_3 172 rfl ?_
  refine v_irem X dX12_init_172 (by decide) 173 rfl ?_
  rw [show irm (nI (ce 7)) 3 = nI ((ce 7) % 3) from irm_nI (by omega) (by decide) (by decide)]
  refine v_iast X (ws' := [(a, .inr (13, [.int (nI ((ce 0) % 4)), .ref b1, .ref b2, .ref b3, .ref b4, .ref b5, .ref b6, .ref b7, .ref b8, .ref ta, .ref ua, .int (nI ((ce 0 / 4) % 1024)), .int 0, .int 0])), (b1, .inl (c9 0, 3, .inl (upd (upd (upd (fun _ => 0) 0 (nI (1 + ((ce 1) % 60)))) 1 (nI (1 + ((ce 2) % 60)))) 2 (nI (1 + ((ce 3) % 60)))))), (b2, .inl (c9 0, 3, .inl (upd (upd (upd (fun _ => 0) 0 (nI (((ce 1) / 64) % 200))) 1 (nI (((ce 2) / 64) % 200))) 2 (nI (((ce 3) / 64) % 200))))), (b3, .inl (c9 0, 3, .inl (upd (upd (upd (fun _ => 0) 0 (nI ((ce 1) / 16384 % 7) - 3)) 1 (nI ((ce 2) / 16384 % 7) - 3)) 2 (nI ((ce 3) / 16384 % 7) - 3)))), (b4, .inl (c9 0, 3, .inl (upd (upd (upd (fun _ => 0) 0 (nI ((ce 5) % 3))) 1 (nI ((ce 6) % 3))) 2 (nI ((ce 7) % 3))))), (b5, .inl (c9 0, 3, .inl (upd (upd (fun _ => 0) 0 (nI (ce 5 / 512 % 7) - 3)) 1 (nI (ce 6 / 512 % 7) - 3)))), (b6, .inl (c9 0, 3, .inl (fun _ => 0))), (b7, .inl (c9 0, 2, .inl (fun _ => 0))), (b8, .inl (c9 0, 2, .inl (fun _ => 0))), (ta, .inl (c9 4, 0, .inr (.inr (.inr (.inr (outF [])))))), (ua, .inl (c9 4, 0, .inr (.inr (.inr (.inr (outF []))))))]) dX12_init_173 4 0 rfl rfl (wr_nI9 (f := (upd (upd (fun _ => 0) 0 (nI ((ce 5) % 3))) 1 (nI ((ce 6) % 3)))) (k := 2) (show 2 < 3 by decide) (by decide)) rfl 174 rfl ?_
  refine v_aload_n X dX12_init_174 4 rfl rfl 175 rfl ?_
  refine v_get X (C := RX12) (T := TX12) (N := 14) (ci := 13) (v := _) dX12_init_175 (lay_of layhu_X12) 0 rfl rfl 5 (by decide) (mw whu_22) rfl rfl 178 rfl ?_
  refine v_iload_n X dX12_init_178 1 rfl rfl 179 rfl ?_
  refine v_aload_n X dX12_init_179 3 rfl rfl 180 rfl ?_
  refine v_iconst X dX12_init_180 ic_5 181 rfl ?_
  refine v_iload_n X dX12_init_181 1 rfl rfl 182 rfl ?_
  refine v_iadd X dX12_init_182 183 rfl ?_
  refine v_eq (st2 := [.int (nI 7), .ref bs, .int 2, .ref b5]) rfl rfl rfl rfl ?_
  refine v_callNi X (As := [.ref bs, .int (nI 7)]) (rest := [.int 2, .ref b5]) (c_cell l hG D c9 hGU hGS hLs (k := 7) (by decide)) 2 (wg_sub _ whu_29 _) rfl rfl rfl nest_RX12_42 (mw whu_30) (mw whu_31) (by decide +kernel) ⟨Nat.le_of_ble_eq_true rfl, Nat.le_of_ble_eq_true rfl⟩ rfl rfl (Nat.le_of_ble_eq_true rfl) ⟨(by first | exact Nat.le_of_ble_eq_true rfl | omega | (dsimp only; omega)), (by first | exact Nat.le_of_ble_eq_true rfl | omega | (dsimp only; omega))⟩ dX12_init_183 186 rfl ?_
  rw [show scel xs Ls 7 = ce 7 from hce 7]
  refine v_sipush X dX12_init_186 sp_512 189 rfl ?_
  refine v_idiv X dX12_init_189 (by decide) 190 rfl ?_
  rw [show nI (ce 7) / 512 = nI ((ce 7) / 512) from pk_div (by omega) (by decide) (by decide)]
  refine v_callNi X (As := [.int (nI (ce 7 / 512))]) (rest := [.int 2, .ref b5]) (c_offset l hG D c9 hGU (n := ce 7 / 512) (by omega)) 1 (wg_sub _ whu_34 _) rfl rfl rfl nest_RX12_55 (mw whu_30) (mw whu_35) (by decide +kernel) ⟨Nat.le_of_ble_eq_true rfl, Nat.le_of_ble_eq_true rfl⟩ rfl rfl (Nat.le_of_ble_eq_true rfl) ⟨(by first | exact Nat.le_of_ble_eq_true rfl | omega | (dsimp only; omega)), (by first | exact Nat.le_of_ble_eq_true rfl | omega | (dsimp only; omega))⟩ dX12_init_190 193 rfl ?_
  refine v_iast X (ws' := [(a, .inr (13, [.int (nI ((ce 0) % 4)), .ref b1, .ref b2, .ref b3, .ref b4, .ref b5, .ref b6, .ref b7, .ref b8, .ref ta, .ref ua, .int (nI ((ce 0 / 4) % 1024)), .int 0, .int 0])), (b1, .inl (c9 0, 3, .inl (upd (upd (upd (fun _ => 0) 0 (nI (1 + ((ce 1) % 60)))) 1 (nI (1 + ((ce 2) % 60)))) 2 (nI (1 + ((ce 3) % 60)))))), (b2, .inl (c9 0, 3, .inl (upd (upd (upd (fun _ => 0) 0 (nI (((ce 1) / 64) % 200))) 1 (nI (((ce 2) / 64) % 200))) 2 (nI (((ce 3) / 64) % 200))))), (b3, .inl (c9 0, 3, .inl (upd (upd (upd (fun _ => 0) 0 (nI ((ce 1) / 16384 % 7) - 3)) 1 (nI ((ce 2) / 16384 % 7) - 3)) 2 (nI ((ce 3) / 16384 % 7) - 3)))), (b4, .inl (c9 0, 3, .inl (upd (upd (upd (fun _ => 0) 0 (nI ((ce 5) % 3))) 1 (nI ((ce 6) % 3))) 2 (nI ((ce 7) % 3))))), (b5, .inl (c9 0, 3, .inl (upd (upd (upd (fun _ => 0) 0 (nI (ce 5 / 512 % 7) - 3)) 1 (nI (ce 6 / 512 % 7) - 3)) 2 (nI (ce 7 / 512 % 7) - 3)))), (b6, .inl (c9 0, 3, .inl (fun _ => 0))), (b7, .inl (c9 0, 2, .inl (fun _ => 0))), (b8, .inl (c9 0, 2, .inl (fun _ => 0))), (ta, .inl (c9 4, 0, .inr (.inr (.inr (.inr (outF [])))))), (ua, .inl (c9 4, 0, .inr (.inr (.inr (.inr (outF []))))))]) dX12_init_193 5 0 rfl rfl (wr_nI9 (f := (upd (upd (fun _ => 0) 0 (nI (ce 5 / 512 % 7) - 3)) 1 (nI (ce 6 / 512 % 7) - 3))) (k := 2) (show 2 < 3 by decide) (by decide)) rfl 194 rfl ?_
  refine v_iinc X (lv' := [(3, .int (2 + 1)), (4, .int (nI (ce 3))), (2, .int (nI (ce 0))), (1, .ref bs), (0, .ref a)]) dX12_init_194 1 rfl ic_1 (by decide) rfl 197 rfl ?_
  refine v_goto X (tgt := 102) dX12_init_197 rfl ?_
  refine v_sub (lv' := [(3, .int 3), (2, .int (nI (ce 0))), (1, .ref bs), (0, .ref a)]) [0, 2, 3, 4] rfl ?_
  refine v_iload_n X dX12_init_102 0 rfl rfl 103 rfl ?_
  refine v_iconst X dX12_init_103 ic_3 104 rfl ?_
  refine v_icmp_ge X (tgt := 200) dX12_init_104 rfl 107 rfl (a := some ()) (b := none) (o := ()) (if_pos (by decide)) (fun _ => ?_) (fun h => nomatch h)
  refine v_iconst X dX12_init_200 ic_0 201 rfl ?_
  refine v_istore_n X (lv' := [(3, .int 0), (2, .int (nI (ce 0))), (1, .ref bs), (0, .ref a)]) dX12_init_201 rfl (by decide) rfl 202 rfl ?_
  refine v_iload_n X dX12_init_202 0 rfl rfl 203 rfl ?_
  refine v_iconst X dX12_init_203 ic_2 204 rfl ?_
  refine v_icmp_ge X (tgt := 248) dX12_init_204 rfl 207 rfl (a := none) (b := some ()) (o := ()) (if_neg (by decide)) (fun h => nomatch h) (fun _ => ?_)
  refine v_aload_n X dX12_init_207 3 rfl rfl 208 rfl ?_
  refine v_get X (C := RX12) (T := TX12) (N := 14) (ci := 13) (v := _) dX12_init_208 (lay_of layhu_X12) 0 rfl rfl 7 (by decide) (mw whu_24) rfl rfl 211 rfl ?_
  refine v_iload_n X dX12_init_211 0 rfl rfl 212 rfl ?_
  refine v_aload_n X dX12_init_212 2 rfl rfl 213 rfl ?_
  refine v_bipush X dX12_init_213 bp_8 215 rfl ?_
  refine v_iload_n X dX12_init_215 0 rfl rfl 216 rfl ?_
  refine v_iadd X dX12_init_216 217 rfl ?_
  refine v_eq (st2 := [.int (nI 8), .ref bs, .int 0, .ref b7]) rfl rfl rfl rfl ?_
  refine v_callNi X (As := [.ref bs, .int (nI 8)]) (rest := [.int 0, .ref b7]) (c_cell l hG D c9 hGU hGS hLs (k := 8) (by decide)) 2 (wg_sub _ whu_29 _) rfl rfl rfl nest_RX12_42 (mw whu_30) (mw whu_31) (by decide +kernel) ⟨Nat.le_of_ble_eq_true rfl, Nat.le_of_ble_eq_true rfl⟩ rfl rfl (Nat.le_of_ble_eq_true rfl) ⟨(by first | exact Nat.le_of_ble_eq_true rfl | omega | (dsimp only; omega)), (by first | exact Nat.le_of_ble_eq_true rfl | omega | (dsimp only; omega))⟩ dX12_init_217 220 rfl ?_
  rw [show scel xs Ls 8 = ce 8 from hce 8]
  refine v_iconst X dX12_init_220 ic_3 221 rfl ?_
  refine v_irem X dX12_init_221 (by decide) 222 rfl ?_
  rw [show irm (nI (ce 8)) 3 = nI ((ce 8) % 3) from irm_nI (by omega) (by decide) (by decide)]
  refine v_iast X (ws' := [(a, .inr (13, [.int (nI ((ce 0) % 4)), .ref b1, .ref b2, .ref b3, .ref b4, .ref b5, .ref b6, .ref b7, .ref b8, .ref ta, .ref ua, .int (nI ((ce 0 / 4) % 1024)), .int 0, .int 0])), (b1, .inl (c9 0, 3, .inl (upd (upd (upd (fun _ => 0) 0 (nI (1 + ((ce 1) % 60)))) 1 (nI (1 + ((ce 2) % 60)))) 2 (nI (1 + ((ce 3) % 60)))))), (b2, .inl (c9 0, 3, .inl (upd (upd (upd (fun _ => 0) 0 (nI (((ce 1) / 64) % 200))) 1 (nI (((ce 2) / 64) % 200))) 2 (nI (((ce 3) / 64) % 200))))), (b3, .inl (c9 0, 3, .inl (upd (upd (upd (fun _ => 0) 0 (nI ((ce 1) / 16384 % 7) - 3)) 1 (nI ((ce 2) / 16384 % 7) - 3)) 2 (nI ((ce 3) / 16384 % 7) - 3)))), (b4, .inl (c9 0, 3, .inl (upd (upd (upd (fun _ => 0) 0 (nI ((ce 5) % 3))) 1 (nI ((ce 6) % 3))) 2 (nI ((ce 7) % 3))))), (b5, .inl (c9 0, 3, .inl (upd (upd (upd (fun _ => 0) 0 (nI (ce 5 / 512 % 7) - 3)) 1 (nI (ce 6 / 512 % 7) - 3)) 2 (nI (ce 7 / 512 % 7) - 3)))), (b6, .inl (c9 0, 3, .inl (fun _ => 0))), (b7, .inl (c9 0, 2, .inl (upd (fun _ => 0) 0 (nI ((ce 8) % 3))))), (b8, .inl (c9 0, 2, .inl (fun _ => 0))), (ta, .inl (c9 4, 0, .inr (.inr (.inr (.inr (outF [])))))), (ua, .inl (c9 4, 0, .inr (.inr (.inr (.inr (outF []))))))]) dX12_init_222 7 0 rfl rfl (wr_nI9 (f := (fun _ => 0)) (k := 0) (show 0 < 2 by decide) (by decide)) rfl 223 rfl ?_
  refine v_aload_n X dX12_init_223 3 rfl rfl 224 rfl ?_
  refine v_get X (C := RX12) (T := TX12) (N := 14) (ci := 13) (v := _) dX12_init_224 (lay_of layhu_X12) 0 rfl rfl 8 (by decide) (mw whu_25) rfl rfl 227 rfl ?_
  refine v_iload_n X dX12_init_227 0 rfl rfl 228 rfl ?_
  refine v_aload_n X dX12_init_228 2 rfl rfl 229 rfl ?_
  refine v_bipush X dX12_init_229 bp_8 231 rfl ?_
  refine v_iload_n X dX12_init_231 0 rfl rfl 232 rfl ?_
  refine v_iadd X dX12_init_232 233 rfl ?_
  refine v_eq (st2 := [.int (nI 8), .ref bs, .int 0, .ref b8]) rfl rfl rfl rfl ?_
  refine v_callNi X (As := [.ref bs, .int (nI 8)]) (rest := [.int 0, .ref b8]) (c_cell l hG D c9 hGU hGS hLs (k := 8) (by decide)) 2 (wg_sub _ whu_29 _) rfl rfl rfl nest_RX12_42 (mw whu_30) (mw whu_31) (by decide +kernel) ⟨Nat.le_of_ble_eq_true rfl, Nat.le_of_ble_eq_true rfl⟩ rfl rfl (Nat.le_of_ble_eq_true rfl) ⟨(by first | exact Nat.le_of_ble_eq_true rfl | omega | (dsimp only; omega)), (by first | exact Nat.le_of_ble_eq_true rfl | omega | (dsimp only; omega))⟩ dX12_init_233 236 rfl ?_
  rw [show scel xs Ls 8 = ce 8 from hce 8]
  refine v_iconst X dX12_init_236 ic_4 237 rfl ?_
  refine v_idiv X dX12_init_237 (by decide) 238 rfl ?_
  rw [show nI (ce 8) / 4 = nI ((ce 8) / 4) from pk_div (by omega) (by decide) (by decide)]
  refine v_bipush X dX12_init_238 bp_6 240 rfl ?_
  refine v_irem X dX12_init_240 (by decide) 241 rfl ?_
  rw [show irm (nI (ce 8 / 4)) 6 = nI ((ce 8 / 4) % 6) from irm_nI (by omega) (by decide) (by decide)]
  refine v_iast X (ws' := [(a, .inr (13, [.int (nI ((ce 0) % 4)), .ref b1, .ref b2, .ref b3, .ref b4, .ref b5, .ref b6, .ref b7, .ref b8, .ref ta, .ref ua, .int (nI ((ce 0 / 4) % 1024)), .int 0, .int 0])), (b1, .inl (c9 0, 3, .inl (upd (upd (upd (fun _ => 0) 0 (nI (1 + ((ce 1) % 60)))) 1 (nI (1 + ((ce 2) % 60)))) 2 (nI (1 + ((ce 3) % 60)))))), (b2, .inl (c9 0, 3, .inl (upd (upd (upd (fun _ => 0) 0 (nI (((ce 1) / 64) % 200))) 1 (nI (((ce 2) / 64) % 200))) 2 (nI (((ce 3) / 64) % 200))))), (b3, .inl (c9 0, 3, .inl (upd (upd (upd (fun _ => 0) 0 (nI ((ce 1) / 16384 % 7) - 3)) 1 (nI ((ce 2) / 16384 % 7) - 3)) 2 (nI ((ce 3) / 16384 % 7) - 3)))), (b4, .inl (c9 0, 3, .inl (upd (upd (upd (fun _ => 0) 0 (nI ((ce 5) % 3))) 1 (nI ((ce 6) % 3))) 2 (nI ((ce 7) % 3))))), (b5, .inl (c9 0, 3, .inl (upd (upd (upd (fun _ => 0) 0 (nI (ce 5 / 512 % 7) - 3)) 1 (nI (ce 6 / 512 % 7) - 3)) 2 (nI (ce 7 / 512 % 7) - 3)))), (b6, .inl (c9 0, 3, .inl (fun _ => 0))), (b7, .inl (c9 0, 2, .inl (upd (fun _ => 0) 0 (nI ((ce 8) % 3))))), (b8, .inl (c9 0, 2, .inl (upd (fun _ => 0) 0 (nI ((ce 8 / 4) % 6))))), (ta, .inl (c9 4, 0, .inr (.inr (.inr (.inr (outF [])))))), (ua, .inl (c9 4, 0, .inr (.inr (.inr (.inr (outF []))))))]) dX12_init_241 8 0 rfl rfl (wr_nI9 (f := (fun _ => 0)) (k := 0) (show 0 < 2 by decide) (by decide)) rfl 242 rfl ?_
  refine v_iinc X (lv' := [(3, .int (0 + 1)), (2, .int (nI (ce 0))), (1, .ref bs), (0, .ref a)]) dX12_init_242 0 rfl ic_1 (by decide) rfl 245 rfl ?_
  refine v_goto X (tgt := 202) dX12_init_245 rfl ?_
  refine v_sub (lv' := [(3, .int 1), (2, .int (nI (ce 0))), (1, .ref bs), (0, .ref a)]) [0, 1, 2, 3] rfl ?_
  refine v_iload_n X dX12_init_202 0 rfl rfl 203 rfl ?_
  refine v_iconst X dX12_init_203 ic_2 204 rfl ?_
  refine v_icmp_ge X (tgt := 248) dX12_init_204 rfl 207 rfl (a := none) (b := some ()) (o := ()) (if_neg (by decide)) (fun h => nomatch h) (fun _ => ?_)
  refine v_aload_n X dX12_init_207 3 rfl rfl 208 rfl ?_
  refine v_get X (C := RX12) (T := TX12) (N := 14) (ci := 13) (v := _) dX12_init_208 (lay_of layhu_X12) 0 rfl rfl 7 (by decide) (mw whu_24) rfl rfl 211 rfl ?_
  refine v_iload_n X dX12_init_211 0 rfl rfl 212 rfl ?_
  refine v_aload_n X dX12_init_212 2 rfl rfl 213 rfl ?_
  refine v_bipush X dX12_init_213 bp_8 215 rfl ?_
  refine v_iload_n X dX12_init_215 0 rfl rfl 216 rfl ?_
  refine v_iadd X dX12_init_216 217 rfl ?_
  refine v_eq (st2 := [.int (nI 9), .ref bs, .int 1, .ref b7]) rfl rfl rfl rfl ?_
  refine v_callNi X (As := [.ref bs, .int (nI 9)]) (rest := [.int 1, .ref b7]) (c_cell l hG D c9 hGU hGS hLs (k := 9) (by decide)) 2 (wg_sub _ whu_29 _) rfl rfl rfl nest_RX12_42 (mw whu_30) (mw whu_31) (by decide +kernel) ⟨Nat.le_of_ble_eq_true rfl, Nat.le_of_ble_eq_true rfl⟩ rfl rfl (Nat.le_of_ble_eq_true rfl) ⟨(by first | exact Nat.le_of_ble_eq_true rfl | omega | (dsimp only; omega)), (by first | exact Nat.le_of_ble_eq_true rfl | omega | (dsimp only; omega))⟩ dX12_init_217 220 rfl ?_
  rw [show scel xs Ls 9 = ce 9 from hce 9]
  refine v_iconst X dX12_init_220 ic_3 221 rfl ?_
  refine v_irem X dX12_init_221 (by decide) 222 rfl ?_
  rw [show irm (nI (ce 9)) 3 = nI ((ce 9) % 3) from irm_nI (by omega) (by decide) (by decide)]
  refine v_iast X (ws' := [(a, .inr (13, [.int (nI ((ce 0) % 4)), .ref b1, .ref b2, .ref b3, .ref b4, .ref b5, .ref b6, .ref b7, .ref b8, .ref ta, .ref ua, .int (nI ((ce 0 / 4) % 1024)), .int 0, .int 0])), (b1, .inl (c9 0, 3, .inl (upd (upd (upd (fun _ => 0) 0 (nI (1 + ((ce 1) % 60)))) 1 (nI (1 + ((ce 2) % 60)))) 2 (nI (1 + ((ce 3) % 60)))))), (b2, .inl (c9 0, 3, .inl (upd (upd (upd (fun _ => 0) 0 (nI (((ce 1) / 64) % 200))) 1 (nI (((ce 2) / 64) % 200))) 2 (nI (((ce 3) / 64) % 200))))), (b3, .inl (c9 0, 3, .inl (upd (upd (upd (fun _ => 0) 0 (nI ((ce 1) / 16384 % 7) - 3)) 1 (nI ((ce 2) / 16384 % 7) - 3)) 2 (nI ((ce 3) / 16384 % 7) - 3)))), (b4, .inl (c9 0, 3, .inl (upd (upd (upd (fun _ => 0) 0 (nI ((ce 5) % 3))) 1 (nI ((ce 6) % 3))) 2 (nI ((ce 7) % 3))))), (b5, .inl (c9 0, 3, .inl (upd (upd (upd (fun _ => 0) 0 (nI (ce 5 / 512 % 7) - 3)) 1 (nI (ce 6 / 512 % 7) - 3)) 2 (nI (ce 7 / 512 % 7) - 3)))), (b6, .inl (c9 0, 3, .inl (fun _ => 0))), (b7, .inl (c9 0, 2, .inl (upd (upd (fun _ => 0) 0 (nI ((ce 8) % 3))) 1 (nI ((ce 9) % 3))))), (b8, .inl (c9 0, 2, .inl (upd (fun _ => 0) 0 (nI ((ce 8 / 4) % 6))))), (ta, .inl (c9 4, 0, .inr (.inr (.inr (.inr (outF [])))))), (ua, .inl (c9 4, 0, .inr (.inr (.inr (.inr (outF []))))))]) dX12_init_222 7 0 rfl rfl (wr_nI9 (f := (upd (fun _ => 0) 0 (nI ((ce 8) % 3)))) (k := 1) (show 1 < 2 by decide) (by decide)) rfl 223 rfl ?_
  refine v_aload_n X dX12_init_223 3 rfl rfl 224 rfl ?_
  refine v_get X (C := RX12) (T := TX12) (N := 14) (ci := 13) (v := _) dX12_init_224 (lay_of layhu_X12) 0 rfl rfl 8 (by decide) (mw whu_25) rfl rfl 227 rfl ?_
  refine v_iload_n X dX12_init_227 0 rfl rfl 228 rfl ?_
  refine v_aload_n X dX12_init_228 2 rfl rfl 229 rfl ?_
  refine v_bipush X dX12_init_229 bp_8 231 rfl ?_
  refine v_iload_n X dX12_init_231 0 rfl rfl 232 rfl ?_
  refine v_iadd X dX12_init_232 233 rfl ?_
  refine v_eq (st2 := [.int (nI 9), .ref bs, .int 1, .ref b8]) rfl rfl rfl rfl ?_
  refine v_callNi X (As := [.ref bs, .int (nI 9)]) (rest := [.int 1, .ref b8]) (c_cell l hG D c9 hGU hGS hLs (k := 9) (by decide)) 2 (wg_sub _ whu_29 _) rfl rfl rfl nest_RX12_42 (mw whu_30) (mw whu_31) (by decide +kernel) ⟨Nat.le_of_ble_eq_true rfl, Nat.le_of_ble_eq_true rfl⟩ rfl rfl (Nat.le_of_ble_eq_true rfl) ⟨(by first | exact Nat.le_of_ble_eq_true rfl | omega | (dsimp only; omega)), (by first | exact Nat.le_of_ble_eq_true rfl | omega | (dsimp only; omega))⟩ dX12_init_233 236 rfl ?_
  rw [show scel xs Ls 9 = ce 9 from hce 9]
  refine v_iconst X dX12_init_236 ic_4 237 rfl ?_
  refine v_idiv X dX12_init_237 (by decide) 238 rfl ?_
  rw [show nI (ce 9) / 4 = nI ((ce 9) / 4) from pk_div (by omega) (by decide) (by decide)]
  refine v_bipush X dX12_init_238 bp_6 240 rfl ?_
  refine v_irem X dX12_init_240 (by decide) 241 rfl ?_
  rw [show irm (nI (ce 9 / 4)) 6 = nI ((ce 9 / 4) % 6) from irm_nI (by omega) (by decide) (by decide)]
  refine v_iast X (ws' := [(a, .inr (13, [.int (nI ((ce 0) % 4)), .ref b1, .ref b2, .ref b3, .ref b4, .ref b5, .ref b6, .ref b7, .ref b8, .ref ta, .ref ua, .int (nI ((ce 0 / 4) % 1024)), .int 0, .int 0])), (b1, .inl (c9 0, 3, .inl (upd (upd (upd (fun _ => 0) 0 (nI (1 + ((ce 1) % 60)))) 1 (nI (1 + ((ce 2) % 60)))) 2 (nI (1 + ((ce 3) % 60)))))), (b2, .inl (c9 0, 3, .inl (upd (upd (upd (fun _ => 0) 0 (nI (((ce 1) / 64) % 200))) 1 (nI (((ce 2) / 64) % 200))) 2 (nI (((ce 3) / 64) % 200))))), (b3, .inl (c9 0, 3, .inl (upd (upd (upd (fun _ => 0) 0 (nI ((ce 1) / 16384 % 7) - 3)) 1 (nI ((ce 2) / 16384 % 7) - 3)) 2 (nI ((ce 3) / 16384 % 7) - 3)))), (b4, .inl (c9 0, 3, .inl (upd (upd (upd (fun _ => 0) 0 (nI ((ce 5) % 3))) 1 (nI ((ce 6) % 3))) 2 (nI ((ce 7) % 3))))), (b5, .inl (c9 0, 3, .inl (upd (upd (upd (fun _ => 0) 0 (nI (ce 5 / 512 % 7) - 3)) 1 (nI (ce 6 / 512 % 7) - 3)) 2 (nI (ce 7 / 512 % 7) - 3)))), (b6, .inl (c9 0, 3, .inl (fun _ => 0))), (b7, .inl (c9 0, 2, .inl (upd (upd (fun _ => 0) 0 (nI ((ce 8) % 3))) 1 (nI ((ce 9) % 3))))), (b8, .inl (c9 0, 2, .inl (upd (upd (fun _ => 0) 0 (nI ((ce 8 / 4) % 6))) 1 (nI ((ce 9 / 4) % 6))))), (ta, .inl (c9 4, 0, .inr (.inr (.inr (.inr (outF [])))))), (ua, .inl (c9 4, 0, .inr (.inr (.inr (.inr (outF []))))))]) dX12_init_241 8 0 rfl rfl (wr_nI9 (f := (upd (fun _ => 0) 0 (nI ((ce 8 / 4) % 6)))) (k := 1) (show 1 < 2 by decide) (by decide)) rfl 242 rfl ?_
  refine v_iinc X (lv' := [(3, .int (1 + 1)), (2, .int (nI (ce 0))), (1, .ref bs), (0, .ref a)]) dX12_init_242 0 rfl ic_1 (by decide) rfl 245 rfl ?_
  refine v_goto X (tgt := 202) dX12_init_245 rfl ?_
  refine v_sub (lv' := [(3, .int 2), (2, .int (nI (ce 0))), (1, .ref bs), (0, .ref a)]) [0, 1, 2, 3] rfl ?_
  refine v_iload_n X dX12_init_202 0 rfl rfl 203 rfl ?_
  refine v_iconst X dX12_init_203 ic_2 204 rfl ?_
  refine v_icmp_ge X (tgt := 248) dX12_init_204 rfl 207 rfl (a := some ()) (b := none) (o := ()) (if_pos (by decide)) (fun _ => ?_) (fun h => nomatch h)
  exact v_nret (S := (Nat → Nat) × Nat × Nat) ((fun k => [a, b1, b2, b3, b4, b5, b6, b7, b8].getD k 0), ta, ua) rfl (List.Perm.refl _) X (by first | exact Nat.le_of_ble_eq_true rfl | omega | (dsimp only; omega)) (by first | exact Nat.le_of_ble_eq_true rfl | omega | (dsimp only; omega)) dX12_init_248
