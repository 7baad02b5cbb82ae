/-! PURE: the whole text is read. -/
def trR (n x z : Nat) (R : Nat → Int32) (m : Nat) : Nat → Int32 := if trB n x z = true then upd R (x * 5 + 4) (nI (m + 2 ^ z)) else R
def bq (n x z : Nat) : Nat := if trB n x z = true then 2 ^ z else 0
def RR9 (y k : Nat) (R : Nat → Int32) : Nat → Int32 := rowR R k (nI (97 + k)) (nI (1 + y % 60)) (nI (y / 64 % 200)) (nI (y / 16384 % 7) - 3)
def UU9 (y k : Nat) (U : Nat → Int32) : Nat → Int32 := rowR U k (nI (117 + k)) (nI (y % 3)) (nI (y / 4 % 100)) (nI (y / 512 % 7) - 3)
def VV9 (y k : Nat) (V : Nat → Int32) : Nat → Int32 := rowV V k (nI (109 + k)) (nI (y % 3)) (nI (y / 4 % 6))
def RT9 (n : Nat) (R : Nat → Int32) : Nat → Int32 := trR n 2 1 (trR n 2 0 (trR n 1 2 (trR n 1 0 (trR n 0 2 (trR n 0 1 R 0) (bq n 0 1)) 0) (bq n 1 0)) 0) (bq n 2 0)
theorem trR_ne {n x z m j : Nat} {R : Nat → Int32} (h : j ≠ x * 5 + 4) : trR n x z R m j = R j := by
  unfold trR
  split
  · exact upd_ne9 h
  · rfl
theorem trR_eq {n x z m : Nat} {R : Nat → Int32} (h : R (x * 5 + 4) = nI m) : trR n x z R m (x * 5 + 4) = nI (m + bq n x z) := by
  unfold trR bq
  split
  · exact upd_eq9
  · rw [h, Nat.add_zero]
theorem rowR_at {R : Nat → Int32} {k : Nat} {a0 a1 a2 a3 : Int32} : rowR R k a0 a1 a2 a3 (k * 5) = a0 ∧ rowR R k a0 a1 a2 a3 (k * 5 + 1) = a1 ∧ rowR R k a0 a1 a2 a3 (k * 5 + 2) = a2 ∧ rowR R k a0 a1 a2 a3 (k * 5 + 3) = a3 ∧ rowR R k a0 a1 a2 a3 (k * 5 + 4) = 0 := by
  unfold rowR
  refine ⟨?_, ?_, ?_, ?_, upd_eq9⟩
  · rw [upd_ne9 (by omega), upd_ne9 (by omega), upd_ne9 (by omega), upd_ne9 (by omega)]
    exact upd_eq9
  · rw [upd_ne9 (by omega), upd_ne9 (by omega), upd_ne9 (by omega), upd_eq9]
  · rw [upd_ne9 (by omega), upd_ne9 (by omega), upd_eq9]
  · rw [upd_ne9 (by omega), upd_eq9]
theorem rowR_ne {R : Nat → Int32} {k j : Nat} {a0 a1 a2 a3 : Int32} (h : j < k * 5 ∨ k * 5 + 5 ≤ j) : rowR R k a0 a1 a2 a3 j = R j := by
  unfold rowR
  rw [upd_ne9 (by omega), upd_ne9 (by omega), upd_ne9 (by omega), upd_ne9 (by omega), upd_ne9 (by omega)]
theorem rowV_at {R : Nat → Int32} {k : Nat} {a0 a1 a2 : Int32} : rowV R k a0 a1 a2 (k * 3) = a0 ∧ rowV R k a0 a1 a2 (k * 3 + 1) = a1 ∧ rowV R k a0 a1 a2 (k * 3 + 2) = a2 := by
  unfold rowV
  refine ⟨?_, ?_, upd_eq9⟩
  · rw [upd_ne9 (by omega), upd_ne9 (by omega)]
    exact upd_eq9
  · rw [upd_ne9 (by omega), upd_eq9]
theorem rowV_ne {R : Nat → Int32} {k j : Nat} {a0 a1 a2 : Int32} (h : j < k * 3 ∨ k * 3 + 3 ≤ j) : rowV R k a0 a1 a2 j = R j := by
  unfold rowV
  rw [upd_ne9 (by omega), upd_ne9 (by omega), upd_ne9 (by omega)]
theorem nms_R {k y : Nat} {R U V : Nat → Int32} (hk : k < 3) (h : NMS9 k 0 0 R U V) : NMS9 (k + 1) 0 0 (RR9 y k R) U V := by
  obtain ⟨-, -, -, b, c, d⟩ := h
  refine ⟨by omega, by omega, by omega, fun i hi => ?_, c, d⟩
  by_cases hq : i = k
  · rw [hq]
    exact rowR_at.1
  · rw [← b i (by omega)]
    exact rowR_ne (by omega)
theorem nms_U {k y : Nat} {R U V : Nat → Int32} (hk : k < 3) (h : NMS9 3 k 0 R U V) : NMS9 3 (k + 1) 0 R (UU9 y k U) V := by
  obtain ⟨-, -, -, b, c, d⟩ := h
  refine ⟨by omega, by omega, by omega, b, fun i hi => ?_, d⟩
  by_cases hq : i = k
  · rw [hq]
    exact rowR_at.1
  · rw [← c i (by omega)]
    exact rowR_ne (by omega)
theorem nms_V {k y : Nat} {R U V : Nat → Int32} (hk : k < 2) (h : NMS9 3 3 k R U V) : NMS9 3 3 (k + 1) R U (VV9 y k V) := by
  obtain ⟨-, -, -, b, c, d⟩ := h
  refine ⟨by omega, by omega, by omega, b, c, fun i hi => ?_⟩
  by_cases hq : i = k
  · rw [hq]
    exact rowV_at.1
  · rw [← d i (by omega)]
    exact rowV_ne (by omega)
theorem nms_T {n x z m : Nat} {R U V : Nat → Int32} (h : NMS9 3 0 0 R U V) : NMS9 3 0 0 (trR n x z R m) U V := by
  obtain ⟨-, -, -, b, c, d⟩ := h
  exact ⟨by omega, by omega, by omega, fun i hi => by rw [← b i hi]; exact trR_ne (by omega), c, d⟩
theorem bq_cases (n x z : Nat) : bq n x z = 0 ∨ bq n x z = 2 ^ z := by
  unfold bq
  split
  · exact Or.inr rfl
  · exact Or.inl rfl
section LP9t
variable {M r : List Nat} {ic : Int32} {ib : Nat → Int32} {tm tol sd md tr er cot' rr' ur' sr' : Int32} {T E R' U' V' : Nat → Int32} {b : Nat} {cot rr ur sr : Int32} {R U V : Nat → Int32}
theorem lp_tr {n x z m : Nat} (hI : INT9 M ic ib) (hx : x < 3) (hz : z < 3) (hxz : x ≠ z) (hN : NMS9 3 0 0 R U V) (hm : R (x * 5 + 4) = nI m) (hm8 : m < 8) (hb : m.testBit z = false) (hL : LP9 M ic ib tm tol sd md tr T er E cot' rr' R' ur' U' sr' V' b r cot 3 (trR n x z R m) 0 U 0 V) : LP9 M ic ib tm tol sd md tr T er E cot' rr' R' ur' U' sr' V' (b + 1) (trustF n x z r) cot 3 R 0 U 0 V := by
  by_cases ht : trB n x z = true
  · unfold trR at hL
    rw [if_pos ht] at hL
    exact lp_trust hI hx hz hxz hN hm hm8 hb ht hL
  · unfold trR at hL
    rw [if_neg ht] at hL
    unfold trustF
    rw [if_neg ht]
    exact lp_weak (by omega) hL
theorem lp_all {ce : Nat → Nat} {V0 U0 R0 : Nat → Int32} (hI : INT9 M ic ib) : LP9 M ic ib tm tol sd md tr T er E (0 + nI (ce 8 / 4 % 6) + nI (ce 9 / 4 % 6)) 3 (RT9 (ce 4) (RR9 (ce 3) 2 (RR9 (ce 2) 1 (RR9 (ce 1) 0 R0)))) 3 (UU9 (ce 7) 2 (UU9 (ce 6) 1 (UU9 (ce 5) 0 U0))) 2 (VV9 (ce 9) 1 (VV9 (ce 8) 0 V0)) 15 (realmF (ce 1) 0 (realmF (ce 2) 1 (realmF (ce 3) 2 (trustF (ce 4) 0 1 (trustF (ce 4) 0 2 (trustF (ce 4) 1 0 (trustF (ce 4) 1 2 (trustF (ce 4) 2 0 (trustF (ce 4) 2 1 (userF (ce 5) 0 (userF (ce 6) 1 (userF (ce 7) 2 (servF (ce 8) 0 (servF (ce 9) 1 [])))))))))))))) 0 0 R0 0 U0 0 V0 := by
  have n0 : NMS9 0 0 0 R0 U0 V0 := ⟨by omega, by omega, by omega, fun k h => absurd h (by omega), fun k h => absurd h (by omega), fun k h => absurd h (by omega)⟩
  have n1 := nms_R (y := ce 1) (by decide) n0
  have n2 := nms_R (y := ce 2) (by decide) n1
  have n3 := nms_R (y := ce 3) (by decide) n2
  have z0 : RR9 (ce 3) 2 (RR9 (ce 2) 1 (RR9 (ce 1) 0 R0)) (0 * 5 + 4) = nI 0 := by
    rw [show RR9 (ce 3) 2 (RR9 (ce 2) 1 (RR9 (ce 1) 0 R0)) (0 * 5 + 4) = RR9 (ce 2) 1 (RR9 (ce 1) 0 R0) (0 * 5 + 4) from rowR_ne (by omega), show RR9 (ce 2) 1 (RR9 (ce 1) 0 R0) (0 * 5 + 4) = RR9 (ce 1) 0 R0 (0 * 5 + 4) from rowR_ne (by omega)]
    exact rowR_at.2.2.2.2
  have z1 : RR9 (ce 3) 2 (RR9 (ce 2) 1 (RR9 (ce 1) 0 R0)) (1 * 5 + 4) = nI 0 := by
    rw [show RR9 (ce 3) 2 (RR9 (ce 2) 1 (RR9 (ce 1) 0 R0)) (1 * 5 + 4) = RR9 (ce 2) 1 (RR9 (ce 1) 0 R0) (1 * 5 + 4) from rowR_ne (by omega)]
    exact rowR_at.2.2.2.2
  have z2 : RR9 (ce 3) 2 (RR9 (ce 2) 1 (RR9 (ce 1) 0 R0)) (2 * 5 + 4) = nI 0 := rowR_at.2.2.2.2
  have bt : ∀ x z j, z < 3 → z ≠ j → j < 3 → (bq (ce 4) x z).testBit j = false := by
    intro x z j hz hzj hj
    have hd : ∀ z, z < 3 → ∀ j, j < 3 → z ≠ j → (2 ^ z).testBit j = false := by decide
    rcases bq_cases (ce 4) x z with h | h
    · rw [h, Nat.zero_testBit]
    · rw [h]
      exact hd z hz j hj hzj
  have b8 : ∀ x z, z < 3 → bq (ce 4) x z < 8 := by
    intro x z hz
    have hd : ∀ z, z < 3 → 2 ^ z < 8 := by decide
    rcases bq_cases (ce 4) x z with h | h
    · omega
    · rw [h]
      exact hd z hz
  refine lp_realm (k := 0) hI (by decide) n0 ?_
  refine lp_realm (k := 1) hI (by decide) n1 ?_
  refine lp_realm (k := 2) hI (by decide) n2 ?_
  show LP9 M ic ib tm tol sd md tr T er E _ _ _ _ _ _ _ 12 _ 0 3 (RR9 (ce 3) 2 (RR9 (ce 2) 1 (RR9 (ce 1) 0 R0))) 0 U0 0 V0
  have n3' : NMS9 3 0 0 (RR9 (ce 3) 2 (RR9 (ce 2) 1 (RR9 (ce 1) 0 R0))) U0 V0 := n3
  generalize RR9 (ce 3) 2 (RR9 (ce 2) 1 (RR9 (ce 1) 0 R0)) = R3 at n3' z0 z1 z2 ⊢
  have n4 : NMS9 3 0 0 (trR (ce 4) 0 1 R3 0) U0 V0 := nms_T n3'
  have n5 : NMS9 3 0 0 (trR (ce 4) 0 2 (trR (ce 4) 0 1 R3 0) (bq (ce 4) 0 1)) U0 V0 := nms_T n4
  have n6 : NMS9 3 0 0 (trR (ce 4) 1 0 (trR (ce 4) 0 2 (trR (ce 4) 0 1 R3 0) (bq (ce 4) 0 1)) 0) U0 V0 := nms_T n5
  have n7 : NMS9 3 0 0 (trR (ce 4) 1 2 (trR (ce 4) 1 0 (trR (ce 4) 0 2 (trR (ce 4) 0 1 R3 0) (bq (ce 4) 0 1)) 0) (bq (ce 4) 1 0)) U0 V0 := nms_T n6
  have n8 : NMS9 3 0 0 (trR (ce 4) 2 0 (trR (ce 4) 1 2 (trR (ce 4) 1 0 (trR (ce 4) 0 2 (trR (ce 4) 0 1 R3 0) (bq (ce 4) 0 1)) 0) (bq (ce 4) 1 0)) 0) U0 V0 := nms_T n7
  have n9 : NMS9 3 0 0 (RT9 (ce 4) R3) U0 V0 := nms_T n8
  refine lp_tr (x := 0) (z := 1) (m := 0) hI (by decide) (by decide) (by decide) n3' z0 (by decide) (by decide) ?_
  refine lp_tr (x := 0) (z := 2) (m := bq (ce 4) 0 1) hI (by decide) (by decide) (by decide) n4 (by rw [trR_eq z0, Nat.zero_add]) (b8 _ _ (by decide)) (bt _ _ _ (by decide) (by decide) (by decide)) ?_
  refine lp_tr (x := 1) (z := 0) (m := 0) hI (by decide) (by decide) (by decide) n5 (by rw [trR_ne (by decide), trR_ne (by decide)]; exact z1) (by decide) (by decide) ?_
  refine lp_tr (x := 1) (z := 2) (m := bq (ce 4) 1 0) hI (by decide) (by decide) (by decide) n6 (by rw [trR_eq (m := 0) (by rw [trR_ne (by decide), trR_ne (by decide)]; exact z1), Nat.zero_add]) (b8 _ _ (by decide)) (bt _ _ _ (by decide) (by decide) (by decide)) ?_
  refine lp_tr (x := 2) (z := 0) (m := 0) hI (by decide) (by decide) (by decide) n7 (by rw [trR_ne (by decide), trR_ne (by decide), trR_ne (by decide), trR_ne (by decide)]; exact z2) (by decide) (by decide) ?_
  refine lp_tr (x := 2) (z := 1) (m := bq (ce 4) 2 0) hI (by decide) (by decide) (by decide) n8 (by rw [trR_eq (m := 0) (by rw [trR_ne (by decide), trR_ne (by decide), trR_ne (by decide), trR_ne (by decide)]; exact z2), Nat.zero_add]) (b8 _ _ (by decide)) (bt _ _ _ (by decide) (by decide) (by decide)) ?_
  show LP9 M ic ib tm tol sd md tr T er E _ _ _ _ _ _ _ 6 _ 0 3 (RT9 (ce 4) R3) 0 U0 0 V0
  have u1 := nms_U (y := ce 5) (by decide) n9
  have u2 := nms_U (y := ce 6) (by decide) u1
  have u3 := nms_U (y := ce 7) (by decide) u2
  have v1 := nms_V (y := ce 8) (by decide) u3
  refine lp_user (k := 0) hI (by decide) (Nat.mod_lt _ (by decide)) n9 ?_
  refine lp_user (k := 1) hI (by decide) (Nat.mod_lt _ (by decide)) u1 ?_
  refine lp_user (k := 2) hI (by decide) (Nat.mod_lt _ (by decide)) u2 ?_
  refine lp_serv (k := 0) hI (by decide) (Nat.mod_lt _ (by decide)) u3 ?_
  refine lp_serv (k := 1) hI (by decide) (Nat.mod_lt _ (by decide)) v1 ?_
  exact lp_end hI
theorem run_all {ce : Nat → Nat} {V0 U0 R0 : Nat → Int32} {ps pe pk pv pr pa : Int32} (hM : M = txtA ce) (hI : INT9 M ic ib) : ∃ s e k v, f_X1_run ps pe pk pv pr pa ic ib tm tol sd md cot rr R0 ur U0 sr V0 tr T er E = some (1, s, e, k, v, 0, -1, 0, nI (ce 0 % 4), nI (ce 0 / 4 % 1024), 0, 0 + nI (ce 8 / 4 % 6) + nI (ce 9 / 4 % 6), 3, RT9 (ce 4) (RR9 (ce 3) 2 (RR9 (ce 2) 1 (RR9 (ce 1) 0 R0))), 3, UU9 (ce 7) 2 (UU9 (ce 6) 1 (UU9 (ce 5) 0 U0)), 2, VV9 (ce 9) 1 (VV9 (ce 8) 0 V0), 0, T, 0, E) := by
  have h0 : M.drop 0 = wGate ++ ([32] ++ (dgs (ce 0 % 4) ++ ([32] ++ (dgs (ce 0 / 4 % 1024) ++ (59 :: (realmF (ce 1) 0 (realmF (ce 2) 1 (realmF (ce 3) 2 (trustF (ce 4) 0 1 (trustF (ce 4) 0 2 (trustF (ce 4) 1 0 (trustF (ce 4) 1 2 (trustF (ce 4) 2 0 (trustF (ce 4) 2 1 (userF (ce 5) 0 (userF (ce 6) 1 (userF (ce 7) 2 (servF (ce 8) 0 (servF (ce 9) 1 []))))))))))))))))))) := by
    rw [List.drop_zero, hM, txt_fa]
    rfl
  obtain ⟨v0, hv, -⟩ := nx_w hI (b := []) (Or.inl rfl) (show M.drop 0 = [] ++ (wGate ++ _) from h0) (by decide) (by decide) (not_let (Or.inl (by decide)))
  have d5 := (drop_at (drop_app (drop_app (drop_app (drop_app (drop_app h0)))))).2.2.2
  have hle : (0 + wGate.length + [32].length + (dgs (ce 0 % 4)).length + [32].length + (dgs (ce 0 / 4 % 1024)).length + 1) ≤ M.length := (drop_at (drop_app (drop_app (drop_app (drop_app (drop_app h0)))))).1
  obtain ⟨st, en, kd, va, hn, s2, e2, k2, v2, hr⟩ := lp_all (tm := 0) (tol := nI (ce 0 % 4)) (sd := nI (ce 0 / 4 % 1024)) (md := 0) (tr := 0) (T := T) (er := 0) (E := E) (V0 := V0) (U0 := U0) (R0 := R0) hI 5000 _ 0 (by decide) (by decide) hle d5
  refine ⟨s2, e2, k2, v2, ?_⟩
  unfold f_X1_run
  rw [show f_X1_take ps 0 pk pv 0 ic ib = some (pv, nI 0, nI 4, 1, v0) from hv ps pk pv, Option.bind_some]
  dsimp only
  rw [gate_ok (ea := -1) (va := v0) hI (Nat.mod_lt _ (by decide)) (Nat.mod_lt _ (by decide)) h0 hn, Option.bind_some]
  dsimp only
  rw [show f_X1_run_L26 ic ib (nI (ce 0 % 4)) 5000 st en kd va 0 (-1) 0 (nI (ce 0 / 4 % 1024)) 0 0 0 R0 0 U0 0 V0 0 T 0 E 0 = _ from hr, Option.bind_some]
  dsimp only
  rw [if_pos rfl]
end LP9t
