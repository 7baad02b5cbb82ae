/-! Saved states: a place of a shelf holds none or one; a copy is the state itself again. -/
abbrev SV : Type := Int32 × Int32 × Int32 × Int32 × Int32 × Int32 × (Nat → Int32) × Int32 × (Nat → Int32) × Int32 × (Nat → Int32) × Int32 × (Nat → Int32) × Int32 × (Nat → Int32)
abbrev wSV (ad : Nat → Nat) (c9 : Nat → ClassId) (v : SV) : va_W := wX5 ad c9 v.1 v.2.1 v.2.2.1 v.2.2.2.1 v.2.2.2.2.1 v.2.2.2.2.2.1 v.2.2.2.2.2.2.1 v.2.2.2.2.2.2.2.1 v.2.2.2.2.2.2.2.2.1 v.2.2.2.2.2.2.2.2.2.1 v.2.2.2.2.2.2.2.2.2.2.1 v.2.2.2.2.2.2.2.2.2.2.2.1 v.2.2.2.2.2.2.2.2.2.2.2.2.1 v.2.2.2.2.2.2.2.2.2.2.2.2.2.1 v.2.2.2.2.2.2.2.2.2.2.2.2.2.2
def optW (c9 : Nat → ClassId) (st : Nat → Option SV) (ap : Nat → Nat → Nat) (k : Nat) : va_W := match st k with
  | none => []
  | some v => wSV (ap k) c9 v
def optA (c9 : Nat → ClassId) (L : List Nat) (st : Nat → Option SV) (ap : Nat → Nat → Nat) : va_W := L.flatMap (optW c9 st ap)
def rowsO (st : Nat → Option SV) (ap : Nat → Nat → Nat) : Nat → Option Nat := fun i => (st i).map (fun _ => ap i 0)
theorem optW_none {c9 : Nat → ClassId} {st : Nat → Option SV} {ap : Nat → Nat → Nat} {k : Nat} (h : st k = none) : optW c9 st ap k = [] := by unfold optW; rw [h]
theorem optW_some {c9 : Nat → ClassId} {st : Nat → Option SV} {ap : Nat → Nat → Nat} {k : Nat} {v : SV} (h : st k = some v) : optW c9 st ap k = wSV (ap k) c9 v := by unfold optW; rw [h]
theorem optA_take {c9 : Nat → ClassId} {L : List Nat} {st : Nat → Option SV} {ap : Nat → Nat → Nat} {k : Nat} (hk : k ∈ L) : (optA c9 L st ap).Perm (optW c9 st ap k ++ optA c9 (L.erase k) st ap) := by
  have h := (List.perm_cons_erase hk).flatMap_right (optW c9 st ap)
  rw [List.flatMap_cons] at h
  exact h
theorem optA_same {c9 : Nat → ClassId} {st st' : Nat → Option SV} {ap ap' : Nat → Nat → Nat} : ∀ {L : List Nat}, (∀ i ∈ L, st' i = st i ∧ ap' i = ap i) → optA c9 L st' ap' = optA c9 L st ap
  | [], _ => rfl
  | k :: L, h => by
    unfold optA
    rw [List.flatMap_cons, List.flatMap_cons]
    have e : optW c9 st' ap' k = optW c9 st ap k := by
      unfold optW
      rw [(h k List.mem_cons_self).1, (h k List.mem_cons_self).2]
    have e2 := optA_same (c9 := c9) (fun i hi => h i (List.mem_cons_of_mem k hi))
    unfold optA at e2
    rw [e, e2]
theorem optA_off {c9 : Nat → ClassId} {n k : Nat} {st : Nat → Option SV} {ap : Nat → Nat → Nat} {v : SV} {u : Nat → Nat} : optA c9 ((List.range n).erase k) (va_up st k (some v)) (va_up ap k u) = optA c9 ((List.range n).erase k) st ap := optA_same (fun i hi => by
  have hne : i ≠ k := fun e => by
    subst e
    exact absurd hi (List.Nodup.not_mem_erase List.nodup_range)
  exact ⟨va_up_ne _ _ hne, va_up_ne _ _ hne⟩)
theorem rowsO_up {st : Nat → Option SV} {ap : Nat → Nat → Nat} {k : Nat} {v : SV} {u : Nat → Nat} : rowsO (va_up st k (some v)) (va_up ap k u) = va_up (rowsO st ap) k (some (u 0)) := funext fun i => by
  unfold rowsO va_up
  by_cases h : i = k
  · rw [if_pos h, if_pos h, if_pos h]
    rfl
  · rw [if_neg h, if_neg h, if_neg h]
theorem va_up_same {α : Type} {f : Nat → α} {k : Nat} {v : α} (h : f k = v) : va_up f k v = f := funext fun i => by
  unfold va_up
  by_cases h9 : i = k
  · rw [if_pos h9, h9, h]
  · rw [if_neg h9]
theorem rowsO_up2 {st : Nat → Option SV} {ap : Nat → Nat → Nat} {k : Nat} {v w : SV} (h : st k = some w) : rowsO (va_up st k (some v)) ap = rowsO st ap := by
  have e : rowsO (va_up st k (some v)) (va_up ap k (ap k)) = va_up (rowsO st ap) k (some (ap k 0)) := rowsO_up
  rw [va_up_same (f := ap) rfl] at e
  rw [e, va_up_same]
  unfold rowsO
  rw [h]
  rfl
theorem optA_off2 {c9 : Nat → ClassId} {n k : Nat} {st : Nat → Option SV} {ap : Nat → Nat → Nat} {v : SV} : optA c9 ((List.range n).erase k) (va_up st k (some v)) ap = optA c9 ((List.range n).erase k) st ap := by
  have e : optA c9 ((List.range n).erase k) (va_up st k (some v)) (va_up ap k (ap k)) = optA c9 ((List.range n).erase k) st ap := optA_off
  rw [va_up_same (f := ap) rfl] at e
  exact e
theorem perm_in {a b X Y F0 : va_W} (h : X.Perm (b ++ Y)) : (a ++ (X ++ F0)).Perm ((a ++ b) ++ (Y ++ F0)) := by
  rw [List.append_assoc]
  refine List.Perm.append_left _ ?_
  rw [← List.append_assoc]
  exact h.append_right F0
theorem arrV_congr {cA : ClassId} {n : Nat} {f g : Nat → Value} (h : ∀ j, j < n → f j = g j) : arrV cA n f = arrV cA n g := by
  have e : (fun j : Fin n => f j.val) = (fun j : Fin n => g j.val) := funext fun j => h j.val j.isLt
  unfold arrV
  rw [e]
theorem va_P_acong {D : va_G} {cl : List vw_C} {ws : va_W} {H : Heap} {a n : Nat} {cA : ClassId} {f g : Nat → Int32} (k : Nat) (h : va_P D cl ws H) (he : ws[k]? = some (a, .inl (cA, n, .inl f))) (hfg : ∀ j, j < n → f j = g j) : va_P D cl (ws.set k (a, .inl (cA, n, .inl g))) H := by
  intro i q hq
  by_cases hi : i = k
  · subst hi
    have hl := (List.getElem?_eq_some_iff.mp he).1
    rw [List.getElem?_set_self hl] at hq
    cases hq
    have h2 : H[a]? = some (vp_cell cA (n, .inl f)) := h i _ he
    show H[a]? = some (vp_cell cA (n, .inl g))
    rw [h2, vp_cell_i, vp_cell_i, arrV_congr (fun j hj => congrArg Value.int (hfg j hj))]
  · rw [List.getElem?_set_ne (fun e => hi e.symm)] at hq
    exact h i q hq
theorem acp_18 (f g : Nat → Int32) : acp f 18 0 g 18 0 (imin (Int32.ofNat 18) (Int32.ofNat 18)) = some (va_cpy f g 0 0 18) := by
  unfold acp
  rw [if_neg (by decide)]
  rfl
theorem acp_25 (f g : Nat → Int32) : acp f 25 0 g 25 0 (imin (Int32.ofNat 25) (Int32.ofNat 25)) = some (va_cpy f g 0 0 25) := by
  unfold acp
  rw [if_neg (by decide)]
  rfl
theorem acp_30 (f g : Nat → Int32) : acp f 30 0 g 30 0 (imin (Int32.ofNat 30) (Int32.ofNat 30)) = some (va_cpy f g 0 0 30) := by
  unfold acp
  rw [if_neg (by decide)]
  rfl
theorem acp_120 (f g : Nat → Int32) : acp f 120 0 g 120 0 (imin (Int32.ofNat 120) (Int32.ofNat 120)) = some (va_cpy f g 0 0 120) := by
  unfold acp
  rw [if_neg (by decide)]
  rfl
theorem acp_240 (f g : Nat → Int32) : acp f 240 0 g 240 0 (imin (Int32.ofNat 240) (Int32.ofNat 240)) = some (va_cpy f g 0 0 240) := by
  unfold acp
  rw [if_neg (by decide)]
  rfl
theorem wh_0 : Cond.initialized RX5 ∈ Wg := t1_in (List.mem_of_getElem? (i := 5) rfl) rfl
theorem wh_1 : Cond.laysFinal RX5 "TicketGate$State" "realms" "LTicketGate$Realms;" ∈ Wg := t1_in (List.mem_of_getElem? (i := 161) rfl) rfl
theorem wh_2 : Cond.laysFinal RX5 "TicketGate$State" "users" "LTicketGate$Users;" ∈ Wg := t1_in (List.mem_of_getElem? (i := 163) rfl) rfl
theorem wh_3 : Cond.laysFinal RX5 "TicketGate$State" "services" "LTicketGate$Services;" ∈ Wg := t1_in (List.mem_of_getElem? (i := 165) rfl) rfl
theorem wh_4 : Cond.laysFinal RX5 "TicketGate$State" "tickets" "LTicketGate$Tickets;" ∈ Wg := t1_in (List.mem_of_getElem? (i := 167) rfl) rfl
theorem wh_5 : Cond.laysFinal RX5 "TicketGate$State" "uses" "LTicketGate$Uses;" ∈ Wg := t1_in (List.mem_of_getElem? (i := 169) rfl) rfl
theorem wh_6 : Cond.lays RX5 "TicketGate$State" "time" "I" ∈ Wg := t1_in (List.mem_of_getElem? (i := 171) rfl) rfl
theorem wh_7 : Cond.lays RX5 "TicketGate$State" "tolerance" "I" ∈ Wg := t1_in (List.mem_of_getElem? (i := 173) rfl) rfl
theorem wh_8 : Cond.lays RX5 "TicketGate$State" "seed" "I" ∈ Wg := t1_in (List.mem_of_getElem? (i := 175) rfl) rfl
theorem wh_9 : Cond.lays RX5 "TicketGate$State" "madeTickets" "I" ∈ Wg := t1_in (List.mem_of_getElem? (i := 177) rfl) rfl
theorem wh_10 : Cond.lays RX5 "TicketGate$State" "cheesesOfText" "I" ∈ Wg := t1_in (List.mem_of_getElem? (i := 179) rfl) rfl
theorem wh_11 : Cond.classLink RX4 13 RX5 ∈ Wg := t1_in (List.mem_of_getElem? (i := 218) rfl) rfl
theorem wh_12 : Cond.instantiable RX5 10 ∈ Wg := t1_in (List.mem_of_getElem? (i := 65) rfl) rfl
theorem wh_13 : Cond.code yX5_init cX5_init 1 none ∈ Wg := t1_in (List.mem_of_getElem? (i := 68) rfl) rfl
theorem wh_14 : Cond.instanceMethod yX5_init ∈ Wg := t1_in (List.mem_of_getElem? (i := 67) rfl) rfl
theorem wh_15 : Cond.laysFinal RX4 "TicketGate$Shelf" "states" "[LTicketGate$State;" ∈ Wg := t1_in (List.mem_of_getElem? (i := 221) rfl) rfl
theorem wh_16 : Cond.fieldLink RX4 15 "TicketGate$Shelf" "states" "[LTicketGate$State;" ∈ Wg := t1_in (List.mem_of_getElem? (i := 220) rfl) rfl
theorem wh_17 : Cond.methodLink RX4 22 yX5_copyFrom ∈ Wg := t6_in (List.mem_of_getElem? (i := 28) rfl) rfl
theorem wh_18 : Cond.instanceMethod yX5_copyFrom ∈ Wg := t3_in (List.mem_of_getElem? (i := 218) rfl) rfl
theorem wh_19 : Cond.selects RX5 yX5_copyFrom yX5_copyFrom ∈ Wg := t3_in (List.mem_of_getElem? (i := 219) rfl) rfl
theorem wh_20 : Cond.code yX5_copyFrom cX5_copyFrom 2 none ∈ Wg := t3_in (List.mem_of_getElem? (i := 220) rfl) rfl
theorem layh_X5 : ∀ k, k < 10 → u_lay RX5 TX5 k ∈ Wg := fun k hk => match k, hk with
  | 0, _ => wh_1
  | 1, _ => wh_2
  | 2, _ => wh_3
  | 3, _ => wh_4
  | 4, _ => wh_5
  | 5, _ => wh_6
  | 6, _ => wh_7
  | 7, _ => wh_8
  | 8, _ => wh_9
  | 9, _ => wh_10
  | k + 10, h => absurd h (by omega)
theorem layh_X4 : ∀ k, k < 1 → u_lay RX4 TX4 k ∈ Wg := fun k hk => match k, hk with
  | 0, _ => wh_15
  | k + 1, h => absurd h (by omega)
set_option maxRecDepth 100000 in
set_option maxHeartbeats 4000000 in
theorem c_cpS (l : Launch) {G : (Nat → Prop) → State → Heap → Prop} (hG : vG G) (D : va_G) (c9 : Nat → ClassId) (ad ad1 : Nat → Nat) (dtime : Int32) (dtolerance : Int32) (dseed : Int32) (dmadeTickets : Int32) (dcheesesOfText : Int32) (dR_rows : Int32) (dR_cells : Nat → Int32) (dU_rows : Int32) (dU_cells : Nat → Int32) (dS_rows : Int32) (dS_cells : Nat → Int32) (dT_rows : Int32) (dT_cells : Nat → Int32) (dE_rows : Int32) (dE_cells : Nat → Int32) (ztime : Int32) (ztolerance : Int32) (zseed : Int32) (zmadeTickets : Int32) (zcheesesOfText : Int32) (zR_rows : Int32) (zR_cells : Nat → Int32) (zU_rows : Int32) (zU_cells : Nat → Int32) (zS_rows : Int32) (zS_cells : Nat → Int32) (zT_rows : Int32) (zT_cells : Nat → Int32) (zE_rows : Int32) (zE_cells : Nat → Int32) : mV l yX5_copyFrom (wq yX5_copyFrom cX5_copyFrom 2 none) { frames := 2, cells := 0, slots := 0, locals := 62 } G D (tyA c9) [.ref (ad 0), .ref (ad1 0)] ((wX5 ad c9 dtime dtolerance dseed dmadeTickets dcheesesOfText dR_rows dR_cells dU_rows dU_cells dS_rows dS_cells dT_rows dT_cells dE_rows dE_cells) ++ (wX5 ad1 c9 ztime ztolerance zseed zmadeTickets zcheesesOfText zR_rows zR_cells zU_rows zU_cells zS_rows zS_cells zT_rows zT_cells zE_rows zE_cells)) [] 0 0 ((wX5 ad c9 ztime ztolerance zseed zmadeTickets zcheesesOfText zR_rows zR_cells zU_rows zU_cells zS_rows zS_cells zT_rows zT_cells zE_rows zE_cells) ++ (wX5 ad1 c9 ztime ztolerance zseed zmadeTickets zcheesesOfText zR_rows zR_cells zU_rows zU_cells zS_rows zS_cells zT_rows zT_cells zE_rows zE_cells)) := by
  intro sz
  have hf : f_X5_copyFrom dtime dtolerance dseed dmadeTickets dcheesesOfText dR_rows dR_cells dU_rows dU_cells dS_rows dS_cells dT_rows dT_cells dE_rows dE_cells ztime ztolerance zseed zmadeTickets zcheesesOfText zR_rows zR_cells zU_rows zU_cells zS_rows zS_cells zT_rows zT_cells zE_rows zE_cells = some (ztime, ztolerance, zseed, zmadeTickets, zcheesesOfText, zR_rows, (va_cpy zR_cells dR_cells 0 0 25), zU_rows, (va_cpy zU_cells dU_cells 0 0 30), zS_rows, (va_cpy zS_cells dS_cells 0 0 18), zT_rows, (va_cpy zT_cells dT_cells 0 0 240), zE_rows, (va_cpy zE_cells dE_cells 0 0 120)) := by
    simp only [f_X5_copyFrom, f_X6_copyFrom, acp_18, acp_25, acp_30, acp_120, acp_240, Option.bind_some]
  have h0 := c_X5_copyFrom l hG D c9 ad ad1 dtime dtolerance dseed dmadeTickets dcheesesOfText dR_rows dR_cells dU_rows dU_cells dS_rows dS_cells dT_rows dT_cells dE_rows dE_cells ztime ztolerance zseed zmadeTickets zcheesesOfText zR_rows zR_cells zU_rows zU_cells zS_rows zS_cells zT_rows zT_cells zE_rows zE_cells hf
  refine MetFree.mono (h0 sz) (fun _ _ h => h) (fun _ _ _ _ _ h => h) (fun a s o t _ h => ⟨?_, h.2⟩)
  obtain ⟨⟨⟨u, h1, h2, hP, hK, hD⟩, hF⟩, -⟩ := h
  refine ⟨⟨u, h1, h2, ?_, hK, ?_⟩, hF⟩
  · have p0 := hP
    have p1 := va_P_acong 2 p0 rfl (g := zR_cells) (fun j hj => sb_cpy0 hj)
    have p2 := va_P_acong 4 p1 rfl (g := zU_cells) (fun j hj => sb_cpy0 hj)
    have p3 := va_P_acong 6 p2 rfl (g := zS_cells) (fun j hj => sb_cpy0 hj)
    have p4 := va_P_acong 8 p3 rfl (g := zT_cells) (fun j hj => sb_cpy0 hj)
    have p5 := va_P_acong 10 p4 rfl (g := zE_cells) (fun j hj => sb_cpy0 hj)
    exact p5
  · have p0 := hD
    have p1 := va_D.set (p := 2) (e := .inl (c9 0, 25, .inl zR_cells)) p0 rfl
    have p2 := va_D.set (p := 4) (e := .inl (c9 0, 30, .inl zU_cells)) p1 rfl
    have p3 := va_D.set (p := 6) (e := .inl (c9 0, 18, .inl zS_cells)) p2 rfl
    have p4 := va_D.set (p := 8) (e := .inl (c9 0, 240, .inl zT_cells)) p3 rfl
    have p5 := va_D.set (p := 10) (e := .inl (c9 0, 120, .inl zE_cells)) p4 rfl
    exact p5
theorem pd_X4_put : yX4_put.cls ≠ "java/lang/invoke/MethodHandle" ∧ yX4_put.cls ≠ "java/lang/invoke/VarHandle" ∧ (parseMethodDescriptor yX4_put.desc).map (fun d => d.parameters.length) = some 2 := by decide +kernel
set_option maxRecDepth 100000 in
set_option maxHeartbeats 4000000 in
theorem c_X4_put (l : Launch) {G : (Nat → Prop) → State → Heap → Prop} (hG : vG G) (D : va_G) (c9 : Nat → ClassId) (sh ar n : Nat) (hn : n < 2 ^ 31) (i : Int32) (hin : vp_in i n) (st : Nat → Option SV) (ap : Nat → Nat → Nat) (ad : Nat → Nat) (ztime : Int32) (ztolerance : Int32) (zseed : Int32) (zmadeTickets : Int32) (zcheesesOfText : Int32) (zR_rows : Int32) (zR_cells : Nat → Int32) (zU_rows : Int32) (zU_cells : Nat → Int32) (zS_rows : Int32) (zS_cells : Nat → Int32) (zT_rows : Int32) (zT_cells : Nat → Int32) (zE_rows : Int32) (zE_cells : Nat → Int32) (F0 : va_W) : mN (S := Nat → Nat → Nat) l yX4_put (wq yX4_put cX4_put 4 none) { frames := 4, cells := 11, slots := 463, locals := 102 } G D (tyA c9) [.ref sh, .int i, .ref (ad 0)] ([(sh, .inr (6, [.ref ar])), (ar, .inl (c9 3, n, .inr (.inr (.inr (.inr (rowsO st ap))))))] ++ (wX5 ad c9 ztime ztolerance zseed zmadeTickets zcheesesOfText zR_rows zR_cells zU_rows zU_cells zS_rows zS_cells zT_rows zT_cells zE_rows zE_cells)) (optA c9 (List.range n) st ap ++ F0) 11 463 (fun _ => True) (fun ap2 => ([(sh, .inr (6, [.ref ar])), (ar, .inl (c9 3, n, .inr (.inr (.inr (.inr (rowsO (va_up st i.toNatClampNeg (some (ztime, ztolerance, zseed, zmadeTickets, zcheesesOfText, zR_rows, zR_cells, zU_rows, zU_cells, zS_rows, zS_cells, zT_rows, zT_cells, zE_rows, zE_cells))) ap2))))))] ++ (wX5 ad c9 ztime ztolerance zseed zmadeTickets zcheesesOfText zR_rows zR_cells zU_rows zU_cells zS_rows zS_cells zT_rows zT_cells zE_rows zE_cells)) ++ (optA c9 (List.range n) (va_up st i.toNatClampNeg (some (ztime, ztolerance, zseed, zmadeTickets, zcheesesOfText, zR_rows, zR_cells, zU_rows, zU_cells, zS_rows, zS_cells, zT_rows, zT_cells, zE_rows, zE_cells))) ap2 ++ F0)) := by
  have h0 : ¬ i < 0 := fun z => hin (Or.inl z)
  have h1 : i < Int32.ofNat n := by obtain ⟨j, hj, rfl⟩ := vp_in_of hin hn; exact nI_lt hj hn
  have hkn : i.toNatClampNeg ∈ List.range n := List.mem_range.mpr (Nat.lt_of_not_le fun z => hin (Or.inr z))
  refine mN_of hG (cc := cX4_put) (maxL := 4) (by decide) rfl (Nat.le_of_ble_eq_true rfl) ?_
  intro p e s m args below meth c A hnm X
  have X : vX p s m args meth c cX4_put 4 none RX4 (wq yX4_put cX4_put 4 none) D (tyA c9) G A := X
  refine v_eq (lv2 := [(0, .ref sh), (1, .int i), (2, .ref (ad 0))]) rfl rfl rfl rfl ?_
  refine v_iload_n X dX4_put_0 1 rfl rfl 1 rfl ?_
  refine v_if_lt X (tgt := 13) dX4_put_1 rfl 4 rfl (a := none) (b := some ()) (o := ()) (if_neg h0) (fun h => nomatch h) (fun _ => ?_)
  refine v_iload_n X dX4_put_4 1 rfl rfl 5 rfl ?_
  refine v_aload_n X dX4_put_5 0 rfl rfl 6 rfl ?_
  refine v_get X (C := RX4) (T := TX4) (N := 1) (ci := 6) (v := _) dX4_put_6 (lay_of layh_X4) 0 rfl rfl 0 (by decide) (mw wh_16) rfl rfl 9 rfl ?_
  refine v_alen X dX4_put_9 1 3 rfl rfl rfl 10 rfl ?_
  refine v_icmp_lt X (tgt := 14) dX4_put_10 rfl 13 rfl (a := some ()) (b := none) (o := ()) (if_pos h1) (fun _ => ?_) (fun h => nomatch h)
  refine v_aload_n X dX4_put_14 0 rfl rfl 15 rfl ?_
  refine v_get X (C := RX4) (T := TX4) (N := 1) (ci := 6) (v := _) dX4_put_15 (lay_of layh_X4) 0 rfl rfl 0 (by decide) (mw wh_16) rfl rfl 18 rfl ?_
  refine v_iload_n X dX4_put_18 1 rfl rfl 19 rfl ?_
  refine v_aldq X (C := RX5) dX4_put_19 1 3 rfl rfl hin 20 rfl ?_
  cases hst : st i.toNatClampNeg with
  | none =>
    have hr : rowsO st ap i.toNatClampNeg = none := by unfold rowsO; rw [hst]; rfl
    rw [hr]
    refine v_eq (st2 := [.null]) rfl rfl rfl rfl ?_
    refine v_astoreN_n X (lv' := [(3, .null), (0, .ref sh), (1, .int i), (2, .ref (ad 0))]) dX4_put_20 rfl (by decide) rfl 21 rfl ?_
    refine v_aloadN_n X dX4_put_21 0 rfl rfl 22 rfl ?_
    refine v_ifnnN X dX4_put_22 25 rfl ?_
    refine v_new X (C := RX5) (T := TX5) (N := 10) (ci := 7) (fs := [.null, .null, .null, .null, .null, .int 0, .int 0, .int 0, .int 0, .int 0]) dX4_put_25 (lay_of layh_X5) tyX5 tyX5_ok (mw wh_11) (mw wh_12) (mw wh_0) rfl (fun j hj => match j, hj with | 0, _ => rfl | 1, _ => rfl | 2, _ => rfl | 3, _ => rfl | 4, _ => rfl | 5, _ => rfl | 6, _ => rfl | 7, _ => rfl | 8, _ => rfl | 9, _ => rfl | z + 10, h => absurd h (by omega)) (by first | exact Nat.le_of_ble_eq_true rfl | exact Nat.le_of_eq (Nat.zero_add _) | omega) (by first | exact Nat.le_of_ble_eq_true rfl | exact Nat.le_of_eq (Nat.zero_add _) | omega) 28 rfl (fun q1 => ?_)
    refine v_dup X dX4_put_28 rfl 29 rfl ?_
    refine v_callINn X (S := Nat → Nat) (As := []) (rest := [.ref q1]) (ws' := fun u => ([(sh, .inr (6, [.ref ar])), (ar, .inl (c9 3, n, .inr (.inr (.inr (.inr (rowsO st ap))))))] ++ (wX5 ad c9 ztime ztolerance zseed zmadeTickets zcheesesOfText zR_rows zR_cells zU_rows zU_cells zS_rows zS_cells zT_rows zT_cells zE_rows zE_cells) ++ (wX5 u c9 0 0 0 0 0 0 (fun _ => 0) 0 (fun _ => 0) 0 (fun _ => 0) 0 (fun _ => 0) 0 (fun _ => 0)))) (c_X5_init l hG D c9 q1) 0 (wg_sub _ wh_13 _) rfl rfl rfl (mw wh_0) nest_RX4_21 (mw wh_14) rfl pd_X5_init ⟨Nat.le_of_ble_eq_true rfl, Nat.le_of_ble_eq_true rfl⟩ rfl rfl (Nat.le_of_ble_eq_true rfl) ⟨(by first | exact Nat.le_of_ble_eq_true rfl | exact Nat.le_of_eq (Nat.zero_add _) | omega), (by first | exact Nat.le_of_ble_eq_true rfl | exact Nat.le_of_eq (Nat.zero_add _) | omega)⟩ [13] [0, 1, 2, 3, 4, 5, 6, 7, 8, 9, 10, 11, 12] [0, 1, 2, 3, 4, 5, 6, 7, 8, 9, 10, 11, 12, 13, 14, 15, 16, 17, 18, 19, 20, 21, 22, 23] rfl rfl (fun _ => rfl) rfl dX4_put_29 32 rfl (fun u hu => ?_)
    subst hu
    refine v_astore_n X (lv' := [(3, .ref (u 0)), (0, .ref sh), (1, .int i), (2, .ref (ad 0))]) dX4_put_32 rfl (by decide) rfl 33 rfl ?_
    refine v_aload_n X dX4_put_33 1 rfl rfl 34 rfl ?_
    refine v_get X (C := RX4) (T := TX4) (N := 1) (ci := 6) (v := _) dX4_put_34 (lay_of layh_X4) 0 rfl rfl 0 (by decide) (mw wh_16) rfl rfl 37 rfl ?_
    refine v_iload_n X dX4_put_37 2 rfl rfl 38 rfl ?_
    refine v_aload_n X dX4_put_38 0 rfl rfl 39 rfl ?_
    refine v_astq X (r := (RX5, TX5, 10)) (ws' := ([(sh, .inr (6, [.ref ar])), (ar, .inl (c9 3, n, .inr (.inr (.inr (.inr (va_up (rowsO st ap) i.toNatClampNeg (some (u 0))))))))] ++ (wX5 ad c9 ztime ztolerance zseed zmadeTickets zcheesesOfText zR_rows zR_cells zU_rows zU_cells zS_rows zS_cells zT_rows zT_cells zE_rows zE_cells) ++ (wX5 u c9 0 0 0 0 0 0 (fun _ => 0) 0 (fun _ => 0) 0 (fun _ => 0) 0 (fun _ => 0) 0 (fun _ => 0)))) dX4_put_39 1 3 13 7 rfl rfl rfl rfl hin rfl 40 rfl ?_
    refine v_aload_n X dX4_put_40 0 rfl rfl 41 rfl ?_
    refine v_aload_n X dX4_put_41 3 rfl rfl 42 rfl ?_
    refine v_callVv X (C := RX5) (ci := 7) (T := TX5) (As := [.ref (ad 0)]) (rest := []) (ws' := ([(sh, .inr (6, [.ref ar])), (ar, .inl (c9 3, n, .inr (.inr (.inr (.inr (va_up (rowsO st ap) i.toNatClampNeg (some (u 0))))))))] ++ (wX5 ad c9 ztime ztolerance zseed zmadeTickets zcheesesOfText zR_rows zR_cells zU_rows zU_cells zS_rows zS_cells zT_rows zT_cells zE_rows zE_cells) ++ (wX5 u c9 ztime ztolerance zseed zmadeTickets zcheesesOfText zR_rows zR_cells zU_rows zU_cells zS_rows zS_cells zT_rows zT_cells zE_rows zE_cells))) (c_cpS l hG D c9 u ad 0 0 0 0 0 0 (fun _ => 0) 0 (fun _ => 0) 0 (fun _ => 0) 0 (fun _ => 0) 0 (fun _ => 0) ztime ztolerance zseed zmadeTickets zcheesesOfText zR_rows zR_cells zU_rows zU_cells zS_rows zS_cells zT_rows zT_cells zE_rows zE_cells) 1 (gV wh_17 wh_18 wh_19 wh_0 wh_20) rfl rfl rfl ⟨rfl, pd_X5_copyFrom⟩ ⟨Nat.le_of_ble_eq_true rfl, Nat.le_of_ble_eq_true rfl⟩ 13 rfl rfl rfl rfl (Nat.le_of_ble_eq_true rfl) ⟨(by first | exact Nat.le_of_ble_eq_true rfl | exact Nat.le_of_eq (Nat.zero_add _) | omega), (by first | exact Nat.le_of_ble_eq_true rfl | exact Nat.le_of_eq (Nat.zero_add _) | omega)⟩ [13, 14, 15, 16, 17, 18, 19, 20, 21, 22, 23, 2, 3, 4, 5, 6, 7, 8, 9, 10, 11, 12] [0, 1] [0, 1, 13, 14, 15, 16, 17, 18, 19, 20, 21, 22, 23, 2, 3, 4, 5, 6, 7, 8, 9, 10, 11, 12] rfl rfl rfl rfl dX4_put_42 45 rfl ?_
    refine v_nret (va_up ap i.toNatClampNeg u) trivial ?_ X (by first | exact Nat.le_of_ble_eq_true rfl | exact Nat.le_of_eq (Nat.zero_add _) | omega) (by first | exact Nat.le_of_ble_eq_true rfl | exact Nat.le_of_eq (Nat.zero_add _) | omega) dX4_put_45
    rw [rowsO_up]
    have h3 : (optA c9 (List.range n) st ap).Perm (optA c9 ((List.range n).erase i.toNatClampNeg) st ap) := by
      have h := optA_take (c9 := c9) (st := st) (ap := ap) hkn
      rw [optW_none hst] at h
      exact h
    have h4 : (optA c9 (List.range n) (va_up st i.toNatClampNeg (some (ztime, ztolerance, zseed, zmadeTickets, zcheesesOfText, zR_rows, zR_cells, zU_rows, zU_cells, zS_rows, zS_cells, zT_rows, zT_cells, zE_rows, zE_cells))) (va_up ap i.toNatClampNeg u)).Perm (wSV u c9 (ztime, ztolerance, zseed, zmadeTickets, zcheesesOfText, zR_rows, zR_cells, zU_rows, zU_cells, zS_rows, zS_cells, zT_rows, zT_cells, zE_rows, zE_cells) ++ optA c9 ((List.range n).erase i.toNatClampNeg) st ap) := by
      have h := optA_take (c9 := c9) (st := va_up st i.toNatClampNeg (some (ztime, ztolerance, zseed, zmadeTickets, zcheesesOfText, zR_rows, zR_cells, zU_rows, zU_cells, zS_rows, zS_cells, zT_rows, zT_cells, zE_rows, zE_cells))) (ap := va_up ap i.toNatClampNeg u) hkn
      rw [optA_off, optW_some (va_up_self _ _ _), va_up_self] at h
      exact h
    rw [List.append_assoc]
    refine List.Perm.append_left _ ?_
    refine ((List.Perm.append_left _ (h3.append_right F0))).trans ?_
    rw [← List.append_assoc]
    exact (h4.symm.append_right F0)
  | some w =>
    have hr : rowsO st ap i.toNatClampNeg = some (ap i.toNatClampNeg 0) := by unfold rowsO; rw [hst]; rfl
    rw [hr]
    refine v_eq (st2 := [.ref (ap i.toNatClampNeg 0)]) rfl rfl rfl rfl ?_
    refine v_astore_n X (lv' := [(3, .ref (ap i.toNatClampNeg 0)), (0, .ref sh), (1, .int i), (2, .ref (ad 0))]) dX4_put_20 rfl (by decide) rfl 21 rfl ?_
    refine v_aload_n X dX4_put_21 0 rfl rfl 22 rfl ?_
    refine v_ifnn X (tgt := 40) dX4_put_22 rfl ?_
    have h3 : (optA c9 (List.range n) st ap).Perm (wSV (ap i.toNatClampNeg) c9 w ++ optA c9 ((List.range n).erase i.toNatClampNeg) st ap) := by
      have h := optA_take (c9 := c9) (st := st) (ap := ap) hkn
      rw [optW_some hst] at h
      exact h
    refine v_perm (ws' := ([(sh, .inr (6, [.ref ar])), (ar, .inl (c9 3, n, .inr (.inr (.inr (.inr (rowsO st ap))))))] ++ (wX5 ad c9 ztime ztolerance zseed zmadeTickets zcheesesOfText zR_rows zR_cells zU_rows zU_cells zS_rows zS_cells zT_rows zT_cells zE_rows zE_cells) ++ wSV (ap i.toNatClampNeg) c9 w)) (F' := optA c9 ((List.range n).erase i.toNatClampNeg) st ap ++ F0) ?_ ?_
    · exact perm_in h3
    refine v_aload_n X dX4_put_40 0 rfl rfl 41 rfl ?_
    refine v_aload_n X dX4_put_41 3 rfl rfl 42 rfl ?_
    refine v_callVv X (C := RX5) (ci := 7) (T := TX5) (As := [.ref (ad 0)]) (rest := []) (ws' := ([(sh, .inr (6, [.ref ar])), (ar, .inl (c9 3, n, .inr (.inr (.inr (.inr (rowsO st ap))))))] ++ (wX5 ad c9 ztime ztolerance zseed zmadeTickets zcheesesOfText zR_rows zR_cells zU_rows zU_cells zS_rows zS_cells zT_rows zT_cells zE_rows zE_cells) ++ (wX5 (ap i.toNatClampNeg) c9 ztime ztolerance zseed zmadeTickets zcheesesOfText zR_rows zR_cells zU_rows zU_cells zS_rows zS_cells zT_rows zT_cells zE_rows zE_cells))) (c_cpS l hG D c9 (ap i.toNatClampNeg) ad w.1 w.2.1 w.2.2.1 w.2.2.2.1 w.2.2.2.2.1 w.2.2.2.2.2.1 w.2.2.2.2.2.2.1 w.2.2.2.2.2.2.2.1 w.2.2.2.2.2.2.2.2.1 w.2.2.2.2.2.2.2.2.2.1 w.2.2.2.2.2.2.2.2.2.2.1 w.2.2.2.2.2.2.2.2.2.2.2.1 w.2.2.2.2.2.2.2.2.2.2.2.2.1 w.2.2.2.2.2.2.2.2.2.2.2.2.2.1 w.2.2.2.2.2.2.2.2.2.2.2.2.2.2 ztime ztolerance zseed zmadeTickets zcheesesOfText zR_rows zR_cells zU_rows zU_cells zS_rows zS_cells zT_rows zT_cells zE_rows zE_cells) 1 (gV wh_17 wh_18 wh_19 wh_0 wh_20) rfl rfl rfl ⟨rfl, pd_X5_copyFrom⟩ ⟨Nat.le_of_ble_eq_true rfl, Nat.le_of_ble_eq_true rfl⟩ 13 rfl rfl rfl rfl (Nat.le_of_ble_eq_true rfl) ⟨(by first | exact Nat.le_of_ble_eq_true rfl | exact Nat.le_of_eq (Nat.zero_add _) | omega), (by first | exact Nat.le_of_ble_eq_true rfl | exact Nat.le_of_eq (Nat.zero_add _) | omega)⟩ [13, 14, 15, 16, 17, 18, 19, 20, 21, 22, 23, 2, 3, 4, 5, 6, 7, 8, 9, 10, 11, 12] [0, 1] [0, 1, 13, 14, 15, 16, 17, 18, 19, 20, 21, 22, 23, 2, 3, 4, 5, 6, 7, 8, 9, 10, 11, 12] rfl rfl rfl rfl dX4_put_42 45 rfl ?_
    refine v_nret ap trivial ?_ X (by first | exact Nat.le_of_ble_eq_true rfl | exact Nat.le_of_eq (Nat.zero_add _) | omega) (by first | exact Nat.le_of_ble_eq_true rfl | exact Nat.le_of_eq (Nat.zero_add _) | omega) dX4_put_45
    rw [rowsO_up2 hst]
    have h4 : (optA c9 (List.range n) (va_up st i.toNatClampNeg (some (ztime, ztolerance, zseed, zmadeTickets, zcheesesOfText, zR_rows, zR_cells, zU_rows, zU_cells, zS_rows, zS_cells, zT_rows, zT_cells, zE_rows, zE_cells))) ap).Perm (wSV (ap i.toNatClampNeg) c9 (ztime, ztolerance, zseed, zmadeTickets, zcheesesOfText, zR_rows, zR_cells, zU_rows, zU_cells, zS_rows, zS_cells, zT_rows, zT_cells, zE_rows, zE_cells) ++ optA c9 ((List.range n).erase i.toNatClampNeg) st ap) := by
      have h := optA_take (c9 := c9) (st := va_up st i.toNatClampNeg (some (ztime, ztolerance, zseed, zmadeTickets, zcheesesOfText, zR_rows, zR_cells, zU_rows, zU_cells, zS_rows, zS_cells, zT_rows, zT_cells, zE_rows, zE_cells))) (ap := ap) hkn
      rw [optA_off2, optW_some (va_up_self _ _ _)] at h
      exact h
    rw [List.append_assoc]
    refine List.Perm.append_left _ ?_
    rw [← List.append_assoc]
    exact (h4.symm.append_right F0)
