/-! The law, from its entry. -/
theorem wlx_0 : Cond.laysFinal RX11 "TicketGate" "input" "LTicketGate$Bytes;" ∈ Wg := t4_in (List.mem_of_getElem? (i := 15) rfl) rfl
theorem wlx_1 : Cond.laysFinal RX11 "TicketGate" "output" "LTicketGate$Bytes;" ∈ Wg := t4_in (List.mem_of_getElem? (i := 17) rfl) rfl
theorem wlx_2 : Cond.laysFinal RX11 "TicketGate" "parser" "LTicketGate$Parser;" ∈ Wg := t4_in (List.mem_of_getElem? (i := 19) rfl) rfl
theorem wlx_3 : Cond.laysFinal RX11 "TicketGate" "state" "LTicketGate$State;" ∈ Wg := t4_in (List.mem_of_getElem? (i := 21) rfl) rfl
theorem wlx_4 : Cond.laysFinal RX11 "TicketGate" "slots" "LTicketGate$Shelf;" ∈ Wg := t4_in (List.mem_of_getElem? (i := 23) rfl) rfl
theorem wlx_5 : Cond.laysFinal RX11 "TicketGate" "past" "LTicketGate$Shelf;" ∈ Wg := t4_in (List.mem_of_getElem? (i := 25) rfl) rfl
theorem wlx_6 : Cond.lays RX11 "TicketGate" "nextPast" "I" ∈ Wg := t4_in (List.mem_of_getElem? (i := 27) rfl) rfl
theorem wlx_7 : Cond.lays RX11 "TicketGate" "pastCount" "I" ∈ Wg := t4_in (List.mem_of_getElem? (i := 29) rfl) rfl
theorem wlx_8 : Cond.classLink RL 19 RX11 ∈ Wg := t1_in (List.mem_of_getElem? (i := 33) rfl) rfl
theorem wlx_9 : Cond.instantiable RX11 8 ∈ Wg := t1_in (List.mem_of_getElem? (i := 34) rfl) rfl
theorem wlx_10 : Cond.initialized RX11 ∈ Wg := t1_in (List.mem_of_getElem? (i := 1) rfl) rfl
theorem wlx_11 : Cond.code yX11_init cX11_init 1 none ∈ Wg := t1_in (List.mem_of_getElem? (i := 37) rfl) rfl
theorem wlx_12 : Cond.methodLink RL 128 yX11_init ∈ Wg := t1_in (List.mem_of_getElem? (i := 35) rfl) rfl
theorem wlx_13 : Cond.instanceMethod yX11_init ∈ Wg := t1_in (List.mem_of_getElem? (i := 36) rfl) rfl
theorem wlx_14 : Cond.methodLink RL 129 yL_text ∈ Wg := t6_in (List.mem_of_getElem? (i := 30) rfl) rfl
theorem wlx_15 : Cond.static yL_text ∈ Wg := t6_in (List.mem_of_getElem? (i := 31) rfl) rfl
theorem wlx_16 : Cond.initialized RL ∈ Wg := t1_in (List.mem_of_getElem? (i := 0) rfl) rfl
theorem wlx_17 : Cond.code yL_text cL_text 5 (some (.object "java/lang/String")) ∈ Wg := t6_in (List.mem_of_getElem? (i := 32) rfl) rfl
theorem wlx_18 : Cond.laysFinal RJ0 "java/lang/String" "value" "[B" ∈ Wg := t7_in (List.mem_of_getElem? (i := 34) rfl) rfl
theorem wlx_19 : Cond.laysFinal RJ0 "java/lang/String" "coder" "B" ∈ Wg := t7_in (List.mem_of_getElem? (i := 36) rfl) rfl
theorem wlx_20 : Cond.lays RJ0 "java/lang/String" "hash" "I" ∈ Wg := t7_in (List.mem_of_getElem? (i := 38) rfl) rfl
theorem wlx_21 : Cond.lays RJ0 "java/lang/String" "hashIsZero" "Z" ∈ Wg := t7_in (List.mem_of_getElem? (i := 40) rfl) rfl
theorem wlx_22 : Cond.methodLink RL 133 yL_says ∈ Wg := t5_in (List.mem_of_getElem? (i := 197) rfl) rfl
theorem wlx_23 : Cond.static yL_says ∈ Wg := t5_in (List.mem_of_getElem? (i := 198) rfl) rfl
theorem wlx_24 : Cond.code yL_says cL_says 5 none ∈ Wg := t5_in (List.mem_of_getElem? (i := 199) rfl) rfl
theorem wlx_25 : Cond.methodLink RL 137 yL_loaded ∈ Wg := t6_in (List.mem_of_getElem? (i := 10) rfl) rfl
theorem wlx_26 : Cond.static yL_loaded ∈ Wg := t6_in (List.mem_of_getElem? (i := 11) rfl) rfl
theorem wlx_27 : Cond.codeWith yL_loaded cL_loaded 2 (some .int) [(0, 4, 5, 31)] ∈ Wg := t6_in (List.mem_of_getElem? (i := 12) rfl) rfl
theorem wlx_28 : Cond.methodLink RL 141 yX11_errorCode ∈ Wg := t4_in (List.mem_of_getElem? (i := 33) rfl) rfl
theorem wlx_29 : Cond.instanceMethod yX11_errorCode ∈ Wg := t4_in (List.mem_of_getElem? (i := 34) rfl) rfl
theorem wlx_30 : Cond.selects RX11 yX11_errorCode yX11_errorCode ∈ Wg := t4_in (List.mem_of_getElem? (i := 35) rfl) rfl
theorem wlx_31 : Cond.code yX11_errorCode cX11_errorCode 1 (some .int) ∈ Wg := t4_in (List.mem_of_getElem? (i := 36) rfl) rfl
theorem wlx_32 : Cond.methodLink RL 144 yX11_realmCount ∈ Wg := t4_in (List.mem_of_getElem? (i := 37) rfl) rfl
theorem wlx_33 : Cond.instanceMethod yX11_realmCount ∈ Wg := t4_in (List.mem_of_getElem? (i := 38) rfl) rfl
theorem wlx_34 : Cond.selects RX11 yX11_realmCount yX11_realmCount ∈ Wg := t4_in (List.mem_of_getElem? (i := 39) rfl) rfl
theorem wlx_35 : Cond.code yX11_realmCount cX11_realmCount 1 (some .int) ∈ Wg := t4_in (List.mem_of_getElem? (i := 40) rfl) rfl
theorem wlx_36 : Cond.methodLink RL 147 yX11_serviceCount ∈ Wg := t4_in (List.mem_of_getElem? (i := 44) rfl) rfl
theorem wlx_37 : Cond.instanceMethod yX11_serviceCount ∈ Wg := t4_in (List.mem_of_getElem? (i := 45) rfl) rfl
theorem wlx_38 : Cond.selects RX11 yX11_serviceCount yX11_serviceCount ∈ Wg := t4_in (List.mem_of_getElem? (i := 46) rfl) rfl
theorem wlx_39 : Cond.code yX11_serviceCount cX11_serviceCount 1 (some .int) ∈ Wg := t4_in (List.mem_of_getElem? (i := 47) rfl) rfl
theorem wlx_40 : Cond.laysFinal RX12 "TicketGateLaw$Hand" "tolerance" "I" ∈ Wg := t4_in (List.mem_of_getElem? (i := 156) rfl) rfl
theorem wlx_41 : Cond.laysFinal RX12 "TicketGateLaw$Hand" "life" "[I" ∈ Wg := t4_in (List.mem_of_getElem? (i := 158) rfl) rfl
theorem wlx_42 : Cond.laysFinal RX12 "TicketGateLaw$Hand" "again" "[I" ∈ Wg := t4_in (List.mem_of_getElem? (i := 160) rfl) rfl
theorem wlx_43 : Cond.laysFinal RX12 "TicketGateLaw$Hand" "fast" "[I" ∈ Wg := t4_in (List.mem_of_getElem? (i := 162) rfl) rfl
theorem wlx_44 : Cond.laysFinal RX12 "TicketGateLaw$Hand" "home" "[I" ∈ Wg := t4_in (List.mem_of_getElem? (i := 164) rfl) rfl
theorem wlx_45 : Cond.laysFinal RX12 "TicketGateLaw$Hand" "own" "[I" ∈ Wg := t4_in (List.mem_of_getElem? (i := 166) rfl) rfl
theorem wlx_46 : Cond.laysFinal RX12 "TicketGateLaw$Hand" "had" "[I" ∈ Wg := t4_in (List.mem_of_getElem? (i := 168) rfl) rfl
theorem wlx_47 : Cond.laysFinal RX12 "TicketGateLaw$Hand" "place" "[I" ∈ Wg := t4_in (List.mem_of_getElem? (i := 170) rfl) rfl
theorem wlx_48 : Cond.laysFinal RX12 "TicketGateLaw$Hand" "left" "[I" ∈ Wg := t4_in (List.mem_of_getElem? (i := 172) rfl) rfl
theorem wlx_49 : Cond.lays RX12 "TicketGateLaw$Hand" "ticket" "[[I" ∈ Wg := t4_in (List.mem_of_getElem? (i := 174) rfl) rfl
theorem wlx_50 : Cond.lays RX12 "TicketGateLaw$Hand" "use" "[[I" ∈ Wg := t4_in (List.mem_of_getElem? (i := 176) rfl) rfl
theorem wlx_51 : Cond.lays RX12 "TicketGateLaw$Hand" "seed" "I" ∈ Wg := t4_in (List.mem_of_getElem? (i := 178) rfl) rfl
theorem wlx_52 : Cond.lays RX12 "TicketGateLaw$Hand" "time" "I" ∈ Wg := t4_in (List.mem_of_getElem? (i := 180) rfl) rfl
theorem wlx_53 : Cond.lays RX12 "TicketGateLaw$Hand" "next" "I" ∈ Wg := t4_in (List.mem_of_getElem? (i := 182) rfl) rfl
theorem wlx_54 : Cond.classLink RL 150 RX12 ∈ Wg := t4_in (List.mem_of_getElem? (i := 127) rfl) rfl
theorem wlx_55 : Cond.instantiable RX12 14 ∈ Wg := t4_in (List.mem_of_getElem? (i := 128) rfl) rfl
theorem wlx_56 : Cond.initialized RX12 ∈ Wg := t1_in (List.mem_of_getElem? (i := 29) rfl) rfl
theorem wlx_57 : Cond.code yX12_init cX12_init 5 none ∈ Wg := t4_in (List.mem_of_getElem? (i := 131) rfl) rfl
theorem wlx_58 : Cond.methodLink RL 152 yX12_init ∈ Wg := t4_in (List.mem_of_getElem? (i := 129) rfl) rfl
theorem wlx_59 : Cond.instanceMethod yX12_init ∈ Wg := t4_in (List.mem_of_getElem? (i := 130) rfl) rfl
theorem laylx_X11 : ∀ k, k < 8 → u_lay RX11 TX11 k ∈ Wg := fun k hk => match k, hk with
  | 0, _ => wlx_0
  | 1, _ => wlx_1
  | 2, _ => wlx_2
  | 3, _ => wlx_3
  | 4, _ => wlx_4
  | 5, _ => wlx_5
  | 6, _ => wlx_6
  | 7, _ => wlx_7
  | k + 8, h => absurd h (by omega)
theorem laylx_J0 : ∀ k, k < 4 → u_lay RJ0 TJ0 k ∈ Wg := fun k hk => match k, hk with
  | 0, _ => wlx_18
  | 1, _ => wlx_19
  | 2, _ => wlx_20
  | 3, _ => wlx_21
  | k + 4, h => absurd h (by omega)
theorem laylx_X12 : ∀ k, k < 14 → u_lay RX12 TX12 k ∈ Wg := fun k hk => match k, hk with
  | 0, _ => wlx_40
  | 1, _ => wlx_41
  | 2, _ => wlx_42
  | 3, _ => wlx_43
  | 4, _ => wlx_44
  | 5, _ => wlx_45
  | 6, _ => wlx_46
  | 7, _ => wlx_47
  | 8, _ => wlx_48
  | 9, _ => wlx_49
  | 10, _ => wlx_50
  | 11, _ => wlx_51
  | 12, _ => wlx_52
  | 13, _ => wlx_53
  | k + 14, h => absurd h (by omega)
theorem optA_nil {c9 : Nat → ClassId} {ap : Nat → Nat → Nat} : ∀ {L : List Nat}, optA c9 L (fun _ => none) ap = []
  | [] => rfl
  | x :: L => by
    unfold optA
    rw [List.flatMap_cons, optW_none rfl, List.nil_append]
    exact optA_nil
theorem wCF_none {c9 : Nat → ClassId} {x : FX} {asl apa : Nat → Nat → Nat} (h1 : FX.pa x = fun _ => none) (h2 : FX.sl x = fun _ => none) : wCF c9 x asl apa [] = [] := by
  unfold wCF
  rw [h1, h2, optA_nil, optA_nil]
  rfl
theorem perm_md {A B : va_W} {x : Nat × va_E} : ((A ++ [x]) ++ B).Perm ([x] ++ (A ++ B)) := by
  rw [List.append_assoc]
  exact List.perm_middle
theorem clkT_lt9 (n : Nat) : ∀ x ∈ clkT n, x < 128 := clkT_lt n
theorem dgs_lt9 {n : Nat} (h : n < 1024) : ∀ x ∈ dgs n, x < 128 := fun x hx => by
  have := dgs_lt h x hx
  omega
theorem app_lt {A B : List Nat} (h1 : ∀ x ∈ A, x < 128) (h2 : ∀ x ∈ B, x < 128) : ∀ x ∈ A ++ B, x < 128 := fun x hx => (List.mem_append.mp hx).elim (h1 x) (h2 x)
theorem one_lt {c : Nat} (h : c < 128) : ∀ x ∈ [c], x < 128 := fun x hx => by rw [List.mem_singleton.mp hx]; exact h
theorem gateA_lt (n : Nat) : ∀ x ∈ gateA n, x < 128 := app_lt (app_lt (app_lt (app_lt kGate_lt (dgs_lt9 (by omega))) (one_lt (by decide))) (dgs_lt9 (by omega))) (one_lt (by decide))
theorem realmA_lt {y k : Nat} {L : List Nat} (hk : k < 3) (h : ∀ x ∈ L, x < 128) : ∀ x ∈ realmA y k L, x < 128 := app_lt (app_lt (app_lt (app_lt (app_lt (app_lt (app_lt h kRealm_lt) (one_lt (by omega))) (one_lt (by decide))) (dgs_lt9 (by omega))) (one_lt (by decide))) (dgs_lt9 (by omega))) (clkT_lt9 _)
theorem trustA_lt {n x z : Nat} {L : List Nat} (hx : x < 3) (hz : z < 3) (h : ∀ x ∈ L, x < 128) : ∀ c ∈ trustA n x z L, c < 128 := by
  unfold trustA
  split
  · exact app_lt (app_lt (app_lt (app_lt (app_lt h kTrust_lt) (one_lt (by omega))) (one_lt (by decide))) (one_lt (by omega))) (one_lt (by decide))
  · exact h
theorem userA_lt {y k : Nat} {L : List Nat} (hk : k < 3) (h : ∀ x ∈ L, x < 128) : ∀ x ∈ userA y k L, x < 128 := app_lt (app_lt (app_lt (app_lt (app_lt (app_lt (app_lt h kUser_lt) (one_lt (by omega))) (one_lt (by decide))) (one_lt (by omega))) (one_lt (by decide))) (dgs_lt9 (by omega))) (clkT_lt9 _)
theorem servA_lt {y k : Nat} {L : List Nat} (hk : k < 2) (h : ∀ x ∈ L, x < 128) : ∀ x ∈ servA y k L, x < 128 := app_lt (app_lt (app_lt (app_lt (app_lt (app_lt (app_lt h kServ_lt) (one_lt (by omega))) (one_lt (by decide))) (one_lt (by omega))) (one_lt (by decide))) (dgs_lt9 (by omega))) (one_lt (by decide))
theorem txtA_lt (ce : Nat → Nat) : ∀ x ∈ txtA ce, x < 128 := by
  exact servA_lt (by decide) (servA_lt (by decide) (userA_lt (by decide) (userA_lt (by decide) (userA_lt (by decide) (trustA_lt (by decide) (by decide) (trustA_lt (by decide) (by decide) (trustA_lt (by decide) (by decide) (trustA_lt (by decide) (by decide) (trustA_lt (by decide) (by decide) (trustA_lt (by decide) (by decide) (trustA_lt (by decide) (by decide) (trustA_lt (by decide) (by decide) (trustA_lt (by decide) (by decide) (realmA_lt (by decide) (realmA_lt (by decide) (realmA_lt (by decide) (gateA_lt _)))))))))))))))))
set_option maxRecDepth 100000 in
set_option maxHeartbeats 1000000 in
theorem law_walks {p : Program} {l : Launch} {e : Env} {s : State} {m : MethodId} {args : Array Value} {below : List Frame} {meth : Method} {c : Code} {A : Nat → Prop} {Q : State → Prop} {G : (Nat → Prop) → State → Heap → Prop} (hG : vG G) (D : va_G) (c9 : Nat → ClassId) {sk sv : Nat → Nat} (hGU : ∀ (A : Nat → Prop) (U : State) (H : Heap), G A U H → vU sk sv A U H) (hGV : ∀ (A : Nat → Prop) (U : State) (H : Heap), G A U H → vV A U H) (hl0 : l.stackTraces = false) {bs Ls : Nat} {xs : Nat → Int32} (hGS : ∀ (A : Nat → Prop) (U : State) (H : Heap), G A U H → va_T .int bs Ls (fun j => .int (xs j)) A U H) (hLs : Ls < 2 ^ 31) (hGA : ∀ (A : Nat → Prop) (U : State) (H : Heap), G A U H → va_AO RX5 U) (X : vX p s m args meth c cL_law 6 (some .boolean) RL (Cond.tt :: Wg) D (tyA c9) G A) (KX : ∀ (W9 F9 : va_W) (C9 S9 : Nat) (lv9 : List (Nat × Value)), C9 ≤ 600086 → S9 ≤ 7301442 → vW p l e room_1 s m args below meth c 6 D A F9 C9 S9 Q W9 132 lv9 [.int 1]) (hask : ASKED xs Ls) : vW p l e room_1 s m args below meth c 6 D A [] 0 0 Q [] 0 [(0, .ref bs)] [] := by
  have TS := hGS A s s.heap X.2.2.2.2.2.2.2.2.2.2
  have hrmc : room_1.cells = 600086 := rfl
  have hrms : room_1.slots = 7301442 := rfl
  obtain ⟨oi, IC, IX, n, c1, ol, REL, hx1, hsay, hload, hol0, hol1, her, hrc3, hsc, hrel, hST⟩ := hask
  refine v_new X (C := RX11) (T := TX11) (N := 8) (ci := 12) (fs := [.null, .null, .null, .null, .null, .null, .int 0, .int 0]) dL_law_0 (lay_of laylx_X11) tyX11 tyX11_ok (mw wlx_8) (mw wlx_9) (mw wlx_10) rfl (fun j hj => match j, hj with | 0, _ => rfl | 1, _ => rfl | 2, _ => rfl | 3, _ => rfl | 4, _ => rfl | 5, _ => rfl | 6, _ => rfl | 7, _ => rfl | z + 8, h => absurd h (by omega)) (by first | exact Nat.le_of_ble_eq_true rfl | omega | (dsimp only; omega)) (by first | exact Nat.le_of_ble_eq_true rfl | omega | (dsimp only; omega)) 3 rfl (fun a => ?_)
  refine v_dup X dL_law_3 rfl 4 rfl ?_
  refine v_gn X (S := Nat → Nat) (ws' := fun u => (wC u c9 (xInit oi) (fun _ _ => 0) (fun _ _ => 0))) (F' := fun _ => (wCF c9 (xInit oi) (fun _ _ => 0) (fun _ _ => 0) [])) (r_I X (As := []) (rest := [.ref a]) (r_pc X) (c_X11_init l hG D c9 sk sv hGU hGA a hx1) 0 (wg_sub _ wlx_11 _) rfl rfl rfl (mw wlx_10) (mw wlx_12) (mw wlx_13) rfl (by decide +kernel) ⟨Nat.le_of_ble_eq_true rfl, Nat.le_of_ble_eq_true rfl⟩ rfl rfl (Nat.le_of_ble_eq_true rfl) ⟨(by first | exact Nat.le_of_ble_eq_true rfl | omega | (dsimp only; omega)), (by first | exact Nat.le_of_ble_eq_true rfl | omega | (dsimp only; omega))⟩ dL_law_4) (fun u => by rw [wCF_none rfl rfl, List.append_nil]) 7 rfl (fun u hu => ?_)
  subst hu
  refine v_astore_n X (lv' := [(1, .ref (u 0)), (0, .ref bs)]) dL_law_7 rfl (by decide) rfl 8 rfl ?_
  refine v_aload_n X dL_law_8 0 rfl rfl 9 rfl ?_
  refine v_aload_n X dL_law_9 1 rfl rfl 10 rfl ?_
  refine v_perm (ws' := []) (F' := (wC u c9 (xInit oi) (fun _ _ => 0) (fun _ _ => 0)) ++ (wCF c9 (xInit oi) (fun _ _ => 0) (fun _ _ => 0) [])) (List.Perm.refl _) ?_
  refine v_gr X (S := Nat × Nat × (Nat → Int32)) (ws' := fun tx => wStr c9 tx.1 tx.2.1 (txtA (scel xs Ls)).length tx.2.2) (F' := fun _ => (wC u c9 (xInit oi) (fun _ _ => 0) (fun _ _ => 0)) ++ (wCF c9 (xInit oi) (fun _ _ => 0) (fun _ _ => 0) [])) (r_S X (As := [.ref bs]) (rest := [.ref (u 0)]) (r_pc X) (c_text l hG D c9 hGU hGV hGS hLs) 1 (gS wlx_14 wlx_15 wlx_16 wlx_17) rfl rfl rfl (by decide +kernel) ⟨Nat.le_of_ble_eq_true rfl, Nat.le_of_ble_eq_true rfl⟩ rfl rfl (Nat.le_of_ble_eq_true rfl) ⟨(by first | exact Nat.le_of_ble_eq_true rfl | omega | (dsimp only; omega)), (by first | exact Nat.le_of_ble_eq_true rfl | omega | (dsimp only; omega))⟩ dL_law_10) (fun _ => rfl) 13 rfl (fun tx htx => ?_)
  refine v_perm (ws' := []) (F' := ((wC u c9 (xInit oi) (fun _ _ => 0) (fun _ _ => 0)) ++ (wCF c9 (xInit oi) (fun _ _ => 0) (fun _ _ => 0) [])) ++ wStr c9 tx.1 tx.2.1 (txtA (scel xs Ls)).length tx.2.2) List.perm_append_comm ?_
  have hML : (txtA (scel xs Ls)).length ≤ 265 := txtA_len _
  refine v_gns X (S := Unit) (W0 := [] ++ ((wC u c9 (xInit oi) (fun _ _ => 0) (fun _ _ => 0)) ++ (wCF c9 (xInit oi) (fun _ _ => 0) (fun _ _ => 0) []))) (Sx := wStr c9 tx.1 tx.2.1 (txtA (scel xs Ls)).length tx.2.2) (ws' := fun _ => []) (F' := fun _ => (wC u c9 (xin (xInit oi) c1 (IX n)) (fun _ _ => 0) (fun _ _ => 0)) ++ (wCF c9 (xin (xInit oi) c1 (IX n)) (fun _ _ => 0) (fun _ _ => 0) [])) (r_S X (As := [.ref (u 0), .ref tx.1]) (rest := []) (r_pcs X (lay_of laylx_J0) (by omega) htx.2 rfl) (c_says l (gStr_ok hG) D c9 (fun A U H h => hGU A U H h.1) (fun A U H h => h.2) (txtA_lt _) (by omega) hl0 hsay) 2 (gS wlx_22 wlx_23 wlx_16 wlx_24) rfl rfl rfl (by decide +kernel) ⟨Nat.le_of_ble_eq_true rfl, Nat.le_of_ble_eq_true rfl⟩ rfl rfl (Nat.le_of_ble_eq_true rfl) ⟨(by first | exact Nat.le_of_ble_eq_true rfl | omega | (dsimp only; omega)), (by first | exact Nat.le_of_ble_eq_true rfl | omega | (dsimp only; omega))⟩ dL_law_13) rfl (fun _ => rfl) 16 rfl (fun _ _ => ?_)
  refine v_dropF ?_
  refine v_perm (ws' := (wC u c9 (xin (xInit oi) c1 (IX n)) (fun _ _ => 0) (fun _ _ => 0))) (F' := (wCF c9 (xin (xInit oi) c1 (IX n)) (fun _ _ => 0) (fun _ _ => 0) [])) (List.Perm.refl _) ?_
  refine v_aload_n X dL_law_16 0 rfl rfl 17 rfl ?_
  refine v_hcallS X (S := Nat → Nat → Nat) (As := [.ref (u 0)]) (rest := []) (ws' := fun v => (wC u c9 (xLoad (xin (xInit oi) c1 (IX n)) ol) (fun _ _ => 0) v)) (F' := fun v => (wCF c9 (xLoad (xin (xInit oi) c1 (IX n)) ol) (fun _ _ => 0) v [])) (c_loaded l hG D c9 hGU hl0 (ad := u) (x := (xin (xInit oi) c1 (IX n))) (asl := (fun _ _ => 0)) (apa := (fun _ _ => 0)) (F0 := []) hload hol0) 1 (gS wlx_25 wlx_26 wlx_16 wlx_27) rfl rfl rfl (by decide +kernel) ⟨Nat.le_of_ble_eq_true rfl, Nat.le_of_ble_eq_true rfl⟩ rfl rfl (Nat.le_of_ble_eq_true rfl) ⟨(by first | exact Nat.le_of_ble_eq_true rfl | omega | (dsimp only; omega)), (by first | exact Nat.le_of_ble_eq_true rfl | omega | (dsimp only; omega))⟩ (fun _ => rfl) dL_law_17 20 rfl (fun v _ => ?_)
  refine v_eq (st2 := [.int 0]) rfl rfl rfl (by rw [hol1]) ?_
  refine v_if_ne X (tgt := 46) dL_law_20 rfl 23 rfl (a := none) (b := some ()) (o := ()) (if_pos rfl) (fun h => nomatch h) (fun _ => ?_)
  refine v_aload_n X dL_law_23 0 rfl rfl 24 rfl ?_
  refine v_callVi X (C := RX11) (ci := 12) (T := TX11) (As := []) (rest := []) (ws' := (wC u c9 (xLoad (xin (xInit oi) c1 (IX n)) ol) (fun _ _ => 0) v)) (c_X11_errorCode l hG D c9 u (FX.nextPast (xLoad (xin (xInit oi) c1 (IX n)) ol)) (FX.pastCount (xLoad (xin (xInit oi) c1 (IX n)) ol)) (FX.i_count (xLoad (xin (xInit oi) c1 (IX n)) ol)) (FX.i_cells (xLoad (xin (xInit oi) c1 (IX n)) ol)) (FX.o_count (xLoad (xin (xInit oi) c1 (IX n)) ol)) (FX.o_cells (xLoad (xin (xInit oi) c1 (IX n)) ol)) (FX.p_start (xLoad (xin (xInit oi) c1 (IX n)) ol)) (FX.p_end (xLoad (xin (xInit oi) c1 (IX n)) ol)) (FX.p_kind (xLoad (xin (xInit oi) c1 (IX n)) ol)) (FX.p_value (xLoad (xin (xInit oi) c1 (IX n)) ol)) (FX.p_error (xLoad (xin (xInit oi) c1 (IX n)) ol)) (FX.p_errorAt (xLoad (xin (xInit oi) c1 (IX n)) ol)) (FX.p_d_time (xLoad (xin (xInit oi) c1 (IX n)) ol)) (FX.p_d_tolerance (xLoad (xin (xInit oi) c1 (IX n)) ol)) (FX.p_d_seed (xLoad (xin (xInit oi) c1 (IX n)) ol)) (FX.p_d_madeTickets (xLoad (xin (xInit oi) c1 (IX n)) ol)) (FX.p_d_cheesesOfText (xLoad (xin (xInit oi) c1 (IX n)) ol)) (FX.p_d_R_rows (xLoad (xin (xInit oi) c1 (IX n)) ol)) (FX.p_d_R_cells (xLoad (xin (xInit oi) c1 (IX n)) ol)) (FX.p_d_U_rows (xLoad (xin (xInit oi) c1 (IX n)) ol)) (FX.p_d_U_cells (xLoad (xin (xInit oi) c1 (IX n)) ol)) (FX.p_d_S_rows (xLoad (xin (xInit oi) c1 (IX n)) ol)) (FX.p_d_S_cells (xLoad (xin (xInit oi) c1 (IX n)) ol)) (FX.p_d_T_rows (xLoad (xin (xInit oi) c1 (IX n)) ol)) (FX.p_d_T_cells (xLoad (xin (xInit oi) c1 (IX n)) ol)) (FX.p_d_E_rows (xLoad (xin (xInit oi) c1 (IX n)) ol)) (FX.p_d_E_cells (xLoad (xin (xInit oi) c1 (IX n)) ol)) (FX.s_time (xLoad (xin (xInit oi) c1 (IX n)) ol)) (FX.s_tolerance (xLoad (xin (xInit oi) c1 (IX n)) ol)) (FX.s_seed (xLoad (xin (xInit oi) c1 (IX n)) ol)) (FX.s_madeTickets (xLoad (xin (xInit oi) c1 (IX n)) ol)) (FX.s_cheesesOfText (xLoad (xin (xInit oi) c1 (IX n)) ol)) (FX.s_R_rows (xLoad (xin (xInit oi) c1 (IX n)) ol)) (FX.s_R_cells (xLoad (xin (xInit oi) c1 (IX n)) ol)) (FX.s_U_rows (xLoad (xin (xInit oi) c1 (IX n)) ol)) (FX.s_U_cells (xLoad (xin (xInit oi) c1 (IX n)) ol)) (FX.s_S_rows (xLoad (xin (xInit oi) c1 (IX n)) ol)) (FX.s_S_cells (xLoad (xin (xInit oi) c1 (IX n)) ol)) (FX.s_T_rows (xLoad (xin (xInit oi) c1 (IX n)) ol)) (FX.s_T_cells (xLoad (xin (xInit oi) c1 (IX n)) ol)) (FX.s_E_rows (xLoad (xin (xInit oi) c1 (IX n)) ol)) (FX.s_E_cells (xLoad (xin (xInit oi) c1 (IX n)) ol)) (FX.sl (xLoad (xin (xInit oi) c1 (IX n)) ol)) (fun _ _ => 0) (FX.pa (xLoad (xin (xInit oi) c1 (IX n)) ol)) v her) 0 (gV wlx_28 wlx_29 wlx_30 wlx_10 wlx_31) rfl rfl rfl ⟨rfl, pd_X11_errorCode⟩ ⟨Nat.le_of_ble_eq_true rfl, Nat.le_of_ble_eq_true rfl⟩ 0 rfl rfl rfl rfl (Nat.le_of_ble_eq_true rfl) ⟨(by first | exact Nat.le_of_ble_eq_true rfl | omega | (dsimp only; omega)), (by first | exact Nat.le_of_ble_eq_true rfl | omega | (dsimp only; omega))⟩ [0, 1, 2, 3, 4, 5, 6, 7, 8, 9, 10, 11, 12, 13, 14, 15, 16, 17, 18, 19, 20, 21, 22, 23, 24, 25, 26, 27, 28, 29, 30, 31] [] [0, 1, 2, 3, 4, 5, 6, 7, 8, 9, 10, 11, 12, 13, 14, 15, 16, 17, 18, 19, 20, 21, 22, 23, 24, 25, 26, 27, 28, 29, 30, 31] rfl rfl rfl rfl dL_law_24 27 rfl ?_
  refine v_if_ne X (tgt := 46) dL_law_27 rfl 30 rfl (a := none) (b := some ()) (o := ()) (if_pos rfl) (fun h => nomatch h) (fun _ => ?_)
  refine v_aload_n X dL_law_30 0 rfl rfl 31 rfl ?_
  refine v_callVi X (C := RX11) (ci := 12) (T := TX11) (As := []) (rest := []) (ws' := (wC u c9 (xLoad (xin (xInit oi) c1 (IX n)) ol) (fun _ _ => 0) v)) (c_X11_realmCount l hG D c9 u (FX.nextPast (xLoad (xin (xInit oi) c1 (IX n)) ol)) (FX.pastCount (xLoad (xin (xInit oi) c1 (IX n)) ol)) (FX.i_count (xLoad (xin (xInit oi) c1 (IX n)) ol)) (FX.i_cells (xLoad (xin (xInit oi) c1 (IX n)) ol)) (FX.o_count (xLoad (xin (xInit oi) c1 (IX n)) ol)) (FX.o_cells (xLoad (xin (xInit oi) c1 (IX n)) ol)) (FX.p_start (xLoad (xin (xInit oi) c1 (IX n)) ol)) (FX.p_end (xLoad (xin (xInit oi) c1 (IX n)) ol)) (FX.p_kind (xLoad (xin (xInit oi) c1 (IX n)) ol)) (FX.p_value (xLoad (xin (xInit oi) c1 (IX n)) ol)) (FX.p_error (xLoad (xin (xInit oi) c1 (IX n)) ol)) (FX.p_errorAt (xLoad (xin (xInit oi) c1 (IX n)) ol)) (FX.p_d_time (xLoad (xin (xInit oi) c1 (IX n)) ol)) (FX.p_d_tolerance (xLoad (xin (xInit oi) c1 (IX n)) ol)) (FX.p_d_seed (xLoad (xin (xInit oi) c1 (IX n)) ol)) (FX.p_d_madeTickets (xLoad (xin (xInit oi) c1 (IX n)) ol)) (FX.p_d_cheesesOfText (xLoad (xin (xInit oi) c1 (IX n)) ol)) (FX.p_d_R_rows (xLoad (xin (xInit oi) c1 (IX n)) ol)) (FX.p_d_R_cells (xLoad (xin (xInit oi) c1 (IX n)) ol)) (FX.p_d_U_rows (xLoad (xin (xInit oi) c1 (IX n)) ol)) (FX.p_d_U_cells (xLoad (xin (xInit oi) c1 (IX n)) ol)) (FX.p_d_S_rows (xLoad (xin (xInit oi) c1 (IX n)) ol)) (FX.p_d_S_cells (xLoad (xin (xInit oi) c1 (IX n)) ol)) (FX.p_d_T_rows (xLoad (xin (xInit oi) c1 (IX n)) ol)) (FX.p_d_T_cells (xLoad (xin (xInit oi) c1 (IX n)) ol)) (FX.p_d_E_rows (xLoad (xin (xInit oi) c1 (IX n)) ol)) (FX.p_d_E_cells (xLoad (xin (xInit oi) c1 (IX n)) ol)) (FX.s_time (xLoad (xin (xInit oi) c1 (IX n)) ol)) (FX.s_tolerance (xLoad (xin (xInit oi) c1 (IX n)) ol)) (FX.s_seed (xLoad (xin (xInit oi) c1 (IX n)) ol)) (FX.s_madeTickets (xLoad (xin (xInit oi) c1 (IX n)) ol)) (FX.s_cheesesOfText (xLoad (xin (xInit oi) c1 (IX n)) ol)) (FX.s_R_rows (xLoad (xin (xInit oi) c1 (IX n)) ol)) (FX.s_R_cells (xLoad (xin (xInit oi) c1 (IX n)) ol)) (FX.s_U_rows (xLoad (xin (xInit oi) c1 (IX n)) ol)) (FX.s_U_cells (xLoad (xin (xInit oi) c1 (IX n)) ol)) (FX.s_S_rows (xLoad (xin (xInit oi) c1 (IX n)) ol)) (FX.s_S_cells (xLoad (xin (xInit oi) c1 (IX n)) ol)) (FX.s_T_rows (xLoad (xin (xInit oi) c1 (IX n)) ol)) (FX.s_T_cells (xLoad (xin (xInit oi) c1 (IX n)) ol)) (FX.s_E_rows (xLoad (xin (xInit oi) c1 (IX n)) ol)) (FX.s_E_cells (xLoad (xin (xInit oi) c1 (IX n)) ol)) (FX.sl (xLoad (xin (xInit oi) c1 (IX n)) ol)) (fun _ _ => 0) (FX.pa (xLoad (xin (xInit oi) c1 (IX n)) ol)) v hrc3) 0 (gV wlx_32 wlx_33 wlx_34 wlx_10 wlx_35) rfl rfl rfl ⟨rfl, pd_X11_realmCount⟩ ⟨Nat.le_of_ble_eq_true rfl, Nat.le_of_ble_eq_true rfl⟩ 0 rfl rfl rfl rfl (Nat.le_of_ble_eq_true rfl) ⟨(by first | exact Nat.le_of_ble_eq_true rfl | omega | (dsimp only; omega)), (by first | exact Nat.le_of_ble_eq_true rfl | omega | (dsimp only; omega))⟩ [0, 1, 2, 3, 4, 5, 6, 7, 8, 9, 10, 11, 12, 13, 14, 15, 16, 17, 18, 19, 20, 21, 22, 23, 24, 25, 26, 27, 28, 29, 30, 31] [] [0, 1, 2, 3, 4, 5, 6, 7, 8, 9, 10, 11, 12, 13, 14, 15, 16, 17, 18, 19, 20, 21, 22, 23, 24, 25, 26, 27, 28, 29, 30, 31] rfl rfl rfl rfl dL_law_31 34 rfl ?_
  refine v_iconst X dL_law_34 ic_3 35 rfl ?_
  refine v_icmp_ne X (tgt := 46) dL_law_35 rfl 38 rfl (a := none) (b := some ()) (o := ()) (if_pos rfl) (fun h => nomatch h) (fun _ => ?_)
  refine v_aload_n X dL_law_38 0 rfl rfl 39 rfl ?_
  refine v_callVi X (C := RX11) (ci := 12) (T := TX11) (As := []) (rest := []) (ws' := (wC u c9 (xLoad (xin (xInit oi) c1 (IX n)) ol) (fun _ _ => 0) v)) (c_X11_serviceCount l hG D c9 u (FX.nextPast (xLoad (xin (xInit oi) c1 (IX n)) ol)) (FX.pastCount (xLoad (xin (xInit oi) c1 (IX n)) ol)) (FX.i_count (xLoad (xin (xInit oi) c1 (IX n)) ol)) (FX.i_cells (xLoad (xin (xInit oi) c1 (IX n)) ol)) (FX.o_count (xLoad (xin (xInit oi) c1 (IX n)) ol)) (FX.o_cells (xLoad (xin (xInit oi) c1 (IX n)) ol)) (FX.p_start (xLoad (xin (xInit oi) c1 (IX n)) ol)) (FX.p_end (xLoad (xin (xInit oi) c1 (IX n)) ol)) (FX.p_kind (xLoad (xin (xInit oi) c1 (IX n)) ol)) (FX.p_value (xLoad (xin (xInit oi) c1 (IX n)) ol)) (FX.p_error (xLoad (xin (xInit oi) c1 (IX n)) ol)) (FX.p_errorAt (xLoad (xin (xInit oi) c1 (IX n)) ol)) (FX.p_d_time (xLoad (xin (xInit oi) c1 (IX n)) ol)) (FX.p_d_tolerance (xLoad (xin (xInit oi) c1 (IX n)) ol)) (FX.p_d_seed (xLoad (xin (xInit oi) c1 (IX n)) ol)) (FX.p_d_madeTickets (xLoad (xin (xInit oi) c1 (IX n)) ol)) (FX.p_d_cheesesOfText (xLoad (xin (xInit oi) c1 (IX n)) ol)) (FX.p_d_R_rows (xLoad (xin (xInit oi) c1 (IX n)) ol)) (FX.p_d_R_cells (xLoad (xin (xInit oi) c1 (IX n)) ol)) (FX.p_d_U_rows (xLoad (xin (xInit oi) c1 (IX n)) ol)) (FX.p_d_U_cells (xLoad (xin (xInit oi) c1 (IX n)) ol)) (FX.p_d_S_rows (xLoad (xin (xInit oi) c1 (IX n)) ol)) (FX.p_d_S_cells (xLoad (xin (xInit oi) c1 (IX n)) ol)) (FX.p_d_T_rows (xLoad (xin (xInit oi) c1 (IX n)) ol)) (FX.p_d_T_cells (xLoad (xin (xInit oi) c1 (IX n)) ol)) (FX.p_d_E_rows (xLoad (xin (xInit oi) c1 (IX n)) ol)) (FX.p_d_E_cells (xLoad (xin (xInit oi) c1 (IX n)) ol)) (FX.s_time (xLoad (xin (xInit oi) c1 (IX n)) ol)) (FX.s_tolerance (xLoad (xin (xInit oi) c1 (IX n)) ol)) (FX.s_seed (xLoad (xin (xInit oi) c1 (IX n)) ol)) (FX.s_madeTickets (xLoad (xin (xInit oi) c1 (IX n)) ol)) (FX.s_cheesesOfText (xLoad (xin (xInit oi) c1 (IX n)) ol)) (FX.s_R_rows (xLoad (xin (xInit oi) c1 (IX n)) ol)) (FX.s_R_cells (xLoad (xin (xInit oi) c1 (IX n)) ol)) (FX.s_U_rows (xLoad (xin (xInit oi) c1 (IX n)) ol)) (FX.s_U_cells (xLoad (xin (xInit oi) c1 (IX n)) ol)) (FX.s_S_rows (xLoad (xin (xInit oi) c1 (IX n)) ol)) (FX.s_S_cells (xLoad (xin (xInit oi) c1 (IX n)) ol)) (FX.s_T_rows (xLoad (xin (xInit oi) c1 (IX n)) ol)) (FX.s_T_cells (xLoad (xin (xInit oi) c1 (IX n)) ol)) (FX.s_E_rows (xLoad (xin (xInit oi) c1 (IX n)) ol)) (FX.s_E_cells (xLoad (xin (xInit oi) c1 (IX n)) ol)) (FX.sl (xLoad (xin (xInit oi) c1 (IX n)) ol)) (fun _ _ => 0) (FX.pa (xLoad (xin (xInit oi) c1 (IX n)) ol)) v hsc) 0 (gV wlx_36 wlx_37 wlx_38 wlx_10 wlx_39) rfl rfl rfl ⟨rfl, pd_X11_serviceCount⟩ ⟨Nat.le_of_ble_eq_true rfl, Nat.le_of_ble_eq_true rfl⟩ 0 rfl rfl rfl rfl (Nat.le_of_ble_eq_true rfl) ⟨(by first | exact Nat.le_of_ble_eq_true rfl | omega | (dsimp only; omega)), (by first | exact Nat.le_of_ble_eq_true rfl | omega | (dsimp only; omega))⟩ [0, 1, 2, 3, 4, 5, 6, 7, 8, 9, 10, 11, 12, 13, 14, 15, 16, 17, 18, 19, 20, 21, 22, 23, 24, 25, 26, 27, 28, 29, 30, 31] [] [0, 1, 2, 3, 4, 5, 6, 7, 8, 9, 10, 11, 12, 13, 14, 15, 16, 17, 18, 19, 20, 21, 22, 23, 24, 25, 26, 27, 28, 29, 30, 31] rfl rfl rfl rfl dL_law_39 42 rfl ?_
  refine v_iconst X dL_law_42 ic_2 43 rfl ?_
  refine v_icmp_eq X (tgt := 48) dL_law_43 rfl 46 rfl (a := some ()) (b := none) (o := ()) (if_pos rfl) (fun _ => ?_) (fun h => nomatch h)
  refine v_new X (C := RX12) (T := TX12) (N := 14) (ci := 13) (fs := [.int 0, .null, .null, .null, .null, .null, .null, .null, .null, .null, .null, .int 0, .int 0, .int 0]) dL_law_48 (lay_of laylx_X12) tyX12 tyX12_ok (mw wlx_54) (mw wlx_55) (mw wlx_56) rfl (fun j hj => match j, hj with | 0, _ => rfl | 1, _ => rfl | 2, _ => rfl | 3, _ => rfl | 4, _ => rfl | 5, _ => rfl | 6, _ => rfl | 7, _ => rfl | 8, _ => rfl | 9, _ => rfl | 10, _ => rfl | 11, _ => rfl | 12, _ => rfl | 13, _ => rfl | z + 14, h => absurd h (by omega)) (by first | exact Nat.le_of_ble_eq_true rfl | omega | (dsimp only; omega)) (by first | exact Nat.le_of_ble_eq_true rfl | omega | (dsimp only; omega)) 51 rfl (fun b => ?_)
  refine v_dup X dL_law_51 rfl 52 rfl ?_
  refine v_aload_n X dL_law_52 1 rfl rfl 53 rfl ?_
  refine v_perm (ws' := [(b, .inr (13, [.int 0, .null, .null, .null, .null, .null, .null, .null, .null, .null, .null, .int 0, .int 0, .int 0]))]) (F' := (wC u c9 (xLoad (xin (xInit oi) c1 (IX n)) ol) (fun _ _ => 0) v) ++ (wCF c9 (xLoad (xin (xInit oi) c1 (IX n)) ol) (fun _ _ => 0) v [])) perm_md ?_
  refine v_gns X (S := (Nat → Nat) × Nat × Nat) (W0 := ([(b, .inr (13, [.int 0, .null, .null, .null, .null, .null, .null, .null, .null, .null, .null, .int 0, .int 0, .int 0]))] : va_W) ++ []) (Sx := (wC u c9 (xLoad (xin (xInit oi) c1 (IX n)) ol) (fun _ _ => 0) v) ++ (wCF c9 (xLoad (xin (xInit oi) c1 (IX n)) ol) (fun _ _ => 0) v [])) (ws' := fun z => wH z.1 c9 z.2.1 z.2.2 (hInit (scel xs Ls)) [] []) (F' := fun _ => []) (r_I X (As := [.ref bs]) (rest := [.ref b]) (r_pcx X rfl) (c_hinit l hG D c9 hGU hGV hGS hLs (fun _ => rfl)) 1 (wg_sub _ wlx_57 _) rfl rfl rfl (mw wlx_56) (mw wlx_58) (mw wlx_59) rfl (by decide +kernel) ⟨Nat.le_of_ble_eq_true rfl, Nat.le_of_ble_eq_true rfl⟩ rfl rfl (Nat.le_of_ble_eq_true rfl) ⟨(by first | exact Nat.le_of_ble_eq_true rfl | omega | (dsimp only; omega)), (by first | exact Nat.le_of_ble_eq_true rfl | omega | (dsimp only; omega))⟩ dL_law_53) rfl (fun z => (List.append_nil _).symm) 56 rfl (fun z hz => ?_)
  subst hz
  refine v_astore_n X (lv' := [(2, .ref (z.1 0)), (1, .ref (u 0)), (0, .ref bs)]) dL_law_56 rfl (by decide) rfl 57 rfl ?_
  refine v_bipush X dL_law_57 bp_10 59 rfl ?_
  refine v_istore_n X (lv' := [(3, .int 10), (2, .ref (z.1 0)), (1, .ref (u 0)), (0, .ref bs)]) dL_law_59 rfl (by decide) rfl 60 rfl ?_
  refine v_sub (lv' := [(3, .int 10), (2, .ref (z.1 0)), (1, .ref (u 0)), (0, .ref bs)]) [0, 1, 2, 3] rfl ?_
  refine v_perm (ws' := wH z.1 c9 z.2.1 z.2.2 (hInit (scel xs Ls)) [] []) (F' := wHF c9 [] [] ((wC u c9 (xLoad (xin (xInit oi) c1 (IX n)) ol) (fun _ _ => 0) v) ++ (wCF c9 (xLoad (xin (xInit oi) c1 (IX n)) ol) (fun _ _ => 0) v []))) (List.Perm.refl _) ?_
  refine v_eq (lv2 := [(3, .int (nI 10)), (2, .ref (z.1 0)), (1, .ref (u 0)), (0, .ref bs)]) rfl rfl rfl rfl ?_
  refine v_widen (k := 1000) (n := 200000) (by omega) (by omega) ?_
  exact w_loop hG D c9 hGU hGV hl0 hGS hLs X KX REL hST 36 10 z.2.1 z.2.2 _ _ [] [] v 1000 200000 rfl hrel (by decide) (by decide)
