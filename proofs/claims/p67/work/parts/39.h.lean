/-! PURE: users, services, trusts, the gate. -/
theorem addUser_eq {R : Nat → Int32} {k : Nat} {a0 a1 a2 a3 : Int32} (hk : k < 6) : f_X8_addUser (nI k) R a0 a1 a2 a3 = some (nI (k + 1), rowR R k a0 a1 a2 a3) := by
  unfold f_X8_addUser f_X6_addRow
  rw [if_pos (show nI k < 6 from nI_lt (b := 6) hk (by decide)), Option.bind_some]
  dsimp only
  rw [nI_1, show nI (k + 1) - 1 = nI k from pk_sub (a := k + 1) (b := 1) (by omega)]
  have S : ∀ (C : Nat → Int32) (j : Nat) (c x : Int32), c = nI j → j < 5 → f_X6_set 30 5 (nI (k + 1)) C (nI k) c x = some (upd C (k * 5 + j) x) := fun C j c x hc hj => set_at rfl rfl rfl hc (by omega) hj (by omega) (by decide) (by omega)
  rw [S _ 0 0 _ rfl (by decide), Option.bind_some, S _ 1 1 _ rfl (by decide), Option.bind_some, S _ 2 2 _ rfl (by decide), Option.bind_some, S _ 3 3 _ rfl (by decide), Option.bind_some, S _ 4 4 _ rfl (by decide), Option.bind_some]
  rfl
def rowV (V : Nat → Int32) (k : Nat) (a0 a1 a2 : Int32) : Nat → Int32 := upd (upd (upd V (k * 3 + 0) a0) (k * 3 + 1) a1) (k * 3 + 2) a2
theorem addServ_eq {V : Nat → Int32} {k : Nat} {a0 a1 a2 : Int32} (hk : k < 6) : f_X3_addService (nI k) V a0 a1 a2 = some (nI (k + 1), rowV V k a0 a1 a2) := by
  unfold f_X3_addService f_X6_addRow
  rw [if_pos (show nI k < 6 from nI_lt (b := 6) hk (by decide)), Option.bind_some]
  dsimp only
  rw [nI_1, show nI (k + 1) - 1 = nI k from pk_sub (a := k + 1) (b := 1) (by omega)]
  have S : ∀ (C : Nat → Int32) (j : Nat) (c x : Int32), c = nI j → j < 3 → f_X6_set 18 3 (nI (k + 1)) C (nI k) c x = some (upd C (k * 3 + j) x) := fun C j c x hc hj => set_at rfl rfl rfl hc (by omega) hj (by omega) (by decide) (by omega)
  rw [S _ 0 0 _ rfl (by decide), Option.bind_some, S _ 1 1 _ rfl (by decide), Option.bind_some, S _ 2 2 _ rfl (by decide), Option.bind_some]
  rfl
theorem user_ok {M r : List Nat} {ic ea st kd va : Int32} {ib : Nat → Int32} {p k q pw ck sr : Nat} {R U V : Nat → Int32} {st' en' kd' va' : Int32} (hI : INT9 M ic ib) (hk : k < 3) (hq : q < 3) (h3 : pw < 100) (hN : NMS9 3 k sr R U V) (hsr : sr = 0) (h : M.drop p = [32] ++ ([117 + k] ++ ([32] ++ ([97 + q] ++ ([32] ++ (dgs pw ++ (clkT ck ++ r))))))) (hn : NX ic ib (p + 1 + 1 + 1 + 1 + 1 + (dgs pw).length + (clkT ck).length) st' en' kd' va') : f_X1_readUser st (nI p) kd va 0 ea ic ib 3 R (nI k) U (nI sr) V = some (st', en', kd', va', 0, ea, nI (k + 1), rowR U k (nI (117 + k)) (nI q) (nI pw) (nI (ck % 7) - 3)) := by
  have hbl : BL9 [32] := Or.inr rfl
  obtain ⟨t, ht⟩ := clk_head ck
  obtain ⟨v, hv, hv1⟩ := nx_w hI hbl h (by simp) (fun c hc => by rw [List.mem_singleton.mp hc]; omega) (not_let (Or.inl (by decide)))
  have hv2 := hv1 (117 + k) rfl
  have d1 := drop_app (drop_app h)
  obtain ⟨y, hy, hy1⟩ := nx_w hI hbl d1 (by simp) (fun c hc => by rw [List.mem_singleton.mp hc]; omega) (not_let (Or.inl (by decide)))
  have hy2 := hy1 (97 + q) rfl
  have d2 := drop_app (drop_app d1)
  have hd2 := nx_n hI hbl (n := pw) (by omega) d2 (by rw [ht]; exact not_dig (Or.inl (by decide)))
  have d3 := drop_app (drop_app d2)
  obtain ⟨s1, e1, v1, w1, s2, e2, k2, v2, c1, c2, j, c3, c4, c5⟩ := clock_tail2 hI d3 hn ea
  unfold f_X1_readUser
  rw [isFull_no (N := 30) (l := 6) (n := k) (m := 6) rfl rfl (by omega) (by decide), Option.bind_some, if_pos rfl, Option.bind_some, req1, Option.bind_some]
  dsimp only
  rw [hv, Option.bind_some]
  dsimp only
  rw [hv2, show (3 : Int32) = nI 3 from rfl, newName_ok hN (by omega) (by omega) (fun q hq => by omega) (fun q hq => by omega) (fun q hq => by omega) hy, Option.bind_some]
  dsimp only
  rw [hy2, known_ok hN hq hd2, Option.bind_some]
  dsimp only
  rw [number_ok (lo := 0) (hi := 9999) (n := pw) (a := 0) (b := 9999) c1 rfl rfl (by omega) (by omega) (by decide), Option.bind_some]
  dsimp only
  rw [c2, Option.bind_some]
  dsimp only
  rw [c3, Option.bind_some, c4, Option.bind_some]
  dsimp only
  rw [if_neg (by decide), addUser_eq (by omega), Option.bind_some, c5]
  rfl
theorem serv_ok {M r : List Nat} {ic ea st kd va cot : Int32} {ib : Nat → Int32} {p k q lf : Nat} {R U V : Nat → Int32} {st' en' kd' va' : Int32} (hI : INT9 M ic ib) (hk : k < 2) (hq : q < 3) (h3 : lf < 6) (hN : NMS9 3 3 k R U V) (h : M.drop p = [32] ++ ([109 + k] ++ ([32] ++ ([97 + q] ++ ([32] ++ (dgs lf ++ (59 :: r))))))) (hn : NX ic ib (p + 1 + 1 + 1 + 1 + 1 + (dgs lf).length + 1) st' en' kd' va') : f_X1_readService st (nI p) kd va 0 ea ic ib cot 3 R 3 U (nI k) V = some (st', en', kd', va', 0, ea, cot + nI lf, nI (k + 1), rowV V k (nI (109 + k)) (nI q) (nI lf)) := by
  have hbl : BL9 [32] := Or.inr rfl
  obtain ⟨v, hv, hv1⟩ := nx_w hI hbl h (by simp) (fun c hc => by rw [List.mem_singleton.mp hc]; omega) (not_let (Or.inl (by decide)))
  have hv2 := hv1 (109 + k) rfl
  have d1 := drop_app (drop_app h)
  obtain ⟨y, hy, hy1⟩ := nx_w hI hbl d1 (by simp) (fun c hc => by rw [List.mem_singleton.mp hc]; omega) (not_let (Or.inl (by decide)))
  have hy2 := hy1 (97 + q) rfl
  have d2 := drop_app (drop_app d1)
  have hd2 := nx_n hI hbl (n := lf) (by omega) d2 (fun c s q => by injection q with q _; omega)
  have d3 := drop_app (drop_app d2)
  have hs := nx_c hI d3
  unfold f_X1_readService
  rw [isFull_no (N := 18) (l := 6) (n := k) (m := 6) rfl rfl (by omega) (by decide), Option.bind_some, if_pos rfl, Option.bind_some, req1, Option.bind_some]
  dsimp only
  rw [hv, Option.bind_some]
  dsimp only
  rw [hv2, show (3 : Int32) = nI 3 from rfl, newName_ok hN (by omega) (by omega) (fun q hq => by omega) (fun q hq => by omega) (fun q hq => by omega) hy, Option.bind_some]
  dsimp only
  rw [hy2, known_ok hN hq hd2, Option.bind_some]
  dsimp only
  rw [number_ok (lo := 0) (hi := 99) (n := lf) (a := 0) (b := 99) hs rfl rfl (by omega) (by omega) (by decide), Option.bind_some]
  dsimp only
  rw [semi_ok (show NX ic ib (p + [32].length + [109 + k].length + [32].length + [97 + q].length + [32].length + (dgs lf).length + 1) st' en' kd' va' from hn), Option.bind_some]
  dsimp only
  rw [if_neg (by decide), addServ_eq (by omega), Option.bind_some]
theorem trust_bits : ∀ m, m < 8 → ∀ z, z < 3 → m.testBit z = false → (nI m ||| ((1 : Int32) <<< (nI z &&& 31))) = nI (m + 2 ^ z) := by decide +kernel
theorem trust_ok {M r : List Nat} {ic ea st kd va : Int32} {ib : Nat → Int32} {p x z m : Nat} {R U V : Nat → Int32} {st' en' kd' va' : Int32} (hI : INT9 M ic ib) (hx : x < 3) (hz : z < 3) (hxz : x ≠ z) (hN : NMS9 3 0 0 R U V) (hm : R (x * 5 + 4) = nI m) (hm8 : m < 8) (hb : m.testBit z = false) (h : M.drop p = [32] ++ ([97 + x] ++ ([32] ++ ([97 + z] ++ (59 :: r))))) (hn : NX ic ib (p + 1 + 1 + 1 + 1 + 1) st' en' kd' va') : f_X1_readTrust st (nI p) kd va 0 ea ic ib 3 R = some (st', en', kd', va', 0, ea, upd R (x * 5 + 4) (nI (m + 2 ^ z))) := by
  have hbl : BL9 [32] := Or.inr rfl
  obtain ⟨v, hv, hv1⟩ := nx_w hI hbl h (by simp) (fun c hc => by rw [List.mem_singleton.mp hc]; omega) (not_let (Or.inl (by decide)))
  have hv2 := hv1 (97 + x) rfl
  have d1 := drop_app (drop_app h)
  obtain ⟨y, hy, hy1⟩ := nx_w hI hbl d1 (by simp) (fun c hc => by rw [List.mem_singleton.mp hc]; omega) (not_let (Or.inl (by decide)))
  have hy2 := hy1 (97 + z) rfl
  have d2 := drop_app (drop_app d1)
  have hs := nx_c hI d2
  obtain ⟨-, -, -, b1, -, -⟩ := id hN
  have hrow : f_X6_rowWith 25 5 3 R 0 (nI (97 + z)) = some (nI z) := fn_at (N := 25) (w := 5) (n := 3) (W := 5) (i := z) rfl rfl (by decide) (by decide) (by decide) (by decide) hz (b1 z hz) (fun k hk => by rw [b1 k (by omega)]; exact fun q => by have := (nI_eq (by omega) (by omega)).mp q; omega)
  have hxz2 : ¬ nI z = nI x := fun q => hxz ((nI_eq (by omega) (by omega)).mp q).symm
  unfold f_X1_readTrust
  rw [hv, Option.bind_some]
  dsimp only
  rw [hv2, show f_X1_knownName_realms (nI (p + [32].length)) (nI (p + [32].length + [97 + x].length)) 1 (nI (97 + x)) 0 ea ic ib 3 R 0 = _ from known_ok hN hx hy, Option.bind_some]
  dsimp only
  rw [hy2, hrow, Option.bind_some, if_pos rfl, Option.bind_some, req1, Option.bind_some, if_neg hxz2, Option.bind_some]
  dsimp only
  rw [req1, Option.bind_some, if_neg (show ¬ nI z = -1 from fun q => absurd (show nI z < 0 by rw [q]; decide) (nI_pos (by omega))), Option.bind_some]
  dsimp only
  rw [req1, Option.bind_some]
  dsimp only
  rw [hs, Option.bind_some]
  dsimp only
  unfold f_X2_hasTrust f_X2_addTrust
  rw [get_R (c := 4) (j := 4) rfl rfl hx (by decide), Option.bind_some, hm, bit_nI (by omega) (by omega), hb, if_neg (show ¬ nI (if false = true then 1 else 0) = 1 by decide), Option.bind_some, if_pos rfl, Option.bind_some, semi_ok (show NX ic ib (p + [32].length + [97 + x].length + [32].length + [97 + z].length + 1) st' en' kd' va' from hn), Option.bind_some]
  dsimp only
  rw [if_neg (by decide), Option.bind_some, trust_bits m hm8 z hz hb, set_at (N := 25) (w := 5) (r := 3) (v := nI x) (c := 4) (n := 3) (i := x) (j := 4) rfl rfl rfl rfl hx (by decide) (by decide) (by decide) (by decide), Option.bind_some, Option.bind_some]
theorem gate_ok {M r : List Nat} {ic ea : Int32} {ib : Nat → Int32} {to sd : Nat} {d1 d2 d3 d4 d5 d6 d7 d8 d9 d0 : Int32} {st' en' kd' va' va : Int32} (hI : INT9 M ic ib) (h1 : to < 4) (h2 : sd < 1024) (h : M.drop 0 = wGate ++ ([32] ++ (dgs to ++ ([32] ++ (dgs sd ++ (59 :: r)))))) (hn : NX ic ib (0 + 4 + 1 + (dgs to).length + 1 + (dgs sd).length + 1) st' en' kd' va') : f_X1_readGate (nI 0) (nI 4) 1 va 0 ea ic ib d1 d2 d3 d4 d5 d6 d7 d8 d9 d0 = some (st', en', kd', va', 0, ea, 0, nI to, nI sd, 0, 0, 0, 0, 0, 0, 0) := by
  have hbl : BL9 [32] := Or.inr rfl
  have e1 := drop_app h
  have hd1 := nx_n hI hbl (n := to) (by omega) e1 (not_dig (c0 := 32) (t := []) (Or.inl (by decide)))
  have e2 := drop_app (drop_app e1)
  have hd2 := nx_n hI hbl (n := sd) (by omega) e2 (fun c s q => by injection q with q _; omega)
  have e3 := drop_app (drop_app e2)
  have hs := nx_c hI e3
  unfold f_X1_readGate
  rw [show f_X1_isWord (nI 0) (nI 4) 1 ic ib 17 = _ from word_is hI kwGate h (by decide), Option.bind_some, if_pos rfl, req1, Option.bind_some]
  dsimp only
  rw [show f_X1_take (nI 0) (nI 4) 1 va 0 ic ib = _ from hd1 (nI 0) 1 va, Option.bind_some]
  dsimp only
  rw [number_ok (lo := 0) (hi := 9) (n := to) (a := 0) (b := 9) hd2 rfl rfl (by omega) (by omega) (by decide), Option.bind_some]
  dsimp only
  rw [number_ok (lo := 0) (hi := 1023) (n := sd) (a := 0) (b := 1023) hs rfl rfl (by omega) (by omega) (by decide), Option.bind_some]
  dsimp only
  rw [semi_ok (show NX ic ib (0 + wGate.length + [32].length + (dgs to).length + [32].length + (dgs sd).length + 1) st' en' kd' va' from hn), Option.bind_some]
  dsimp only
  rw [if_neg (by decide)]
  rfl
