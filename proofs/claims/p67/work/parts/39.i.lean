/-! PURE: the statements, one behind the other. -/
theorem word_yes {M r W : List Nat} {ic : Int32} {ib : Nat → Int32} {k p : Nat} (hI : INT9 M ic ib) (hk : KW k W) (h : M.drop p = W ++ r) (hw0 : W ≠ []) : f_X1_isWord (nI p) (nI (p + W.length)) 1 ic ib k = some 1 := by
  rw [word_is hI hk h hw0, if_pos rfl]
theorem word_no {M w r W : List Nat} {ic : Int32} {ib : Nat → Int32} {k p : Nat} (hI : INT9 M ic ib) (hk : KW k W) (h : M.drop p = w ++ r) (hw0 : w ≠ []) (hq : w ≠ W) : f_X1_isWord (nI p) (nI (p + w.length)) 1 ic ib k = some 0 := by
  rw [word_is hI hk h hw0, if_neg hq]
def gateF (n : Nat) (r : List Nat) : List Nat := wGate ++ ([32] ++ (dgs (n % 4) ++ ([32] ++ (dgs (n / 4 % 1024) ++ (59 :: r)))))
def realmF (y k : Nat) (r : List Nat) : List Nat := wRealm ++ ([32] ++ ([97 + k] ++ ([32] ++ (dgs (1 + y % 60) ++ ([32] ++ (dgs (y / 64 % 200) ++ (clkT (y / 16384) ++ r)))))))
def trustF (n x z : Nat) (r : List Nat) : List Nat := if trB n x z = true then wTrust ++ ([32] ++ ([97 + x] ++ ([32] ++ ([97 + z] ++ (59 :: r))))) else r
def userF (y k : Nat) (r : List Nat) : List Nat := wUser ++ ([32] ++ ([117 + k] ++ ([32] ++ ([97 + y % 3] ++ ([32] ++ (dgs (y / 4 % 100) ++ (clkT (y / 512) ++ r)))))))
def servF (y k : Nat) (r : List Nat) : List Nat := wServ ++ ([32] ++ ([109 + k] ++ ([32] ++ ([97 + y % 3] ++ ([32] ++ (dgs (y / 4 % 6) ++ (59 :: r)))))))
theorem gate_fa (n : Nat) (r : List Nat) : gateA n ++ r = gateF n r := by
  simp [gateA, gateF, kGate, wGate]
theorem realm_fa (y k : Nat) (L r : List Nat) : realmA y k L ++ r = L ++ realmF y k r := by
  simp [realmA, realmF, kRealm, wRealm]
theorem trust_fa (n x z : Nat) (L r : List Nat) : trustA n x z L ++ r = L ++ trustF n x z r := by
  unfold trustA trustF
  by_cases h : trB n x z = true
  · rw [if_pos h, if_pos h]
    simp [kTrust, wTrust]
  · rw [if_neg h, if_neg h]
theorem user_fa (y k : Nat) (L r : List Nat) : userA y k L ++ r = L ++ userF y k r := by
  simp [userA, userF, kUser, wUser]
theorem serv_fa (y k : Nat) (L r : List Nat) : servA y k L ++ r = L ++ servF y k r := by
  simp [servA, servF, kServ, wServ]
theorem txt_fa (ce : Nat → Nat) : txtA ce = gateF (ce 0) (realmF (ce 1) 0 (realmF (ce 2) 1 (realmF (ce 3) 2 (trustF (ce 4) 0 1 (trustF (ce 4) 0 2 (trustF (ce 4) 1 0 (trustF (ce 4) 1 2 (trustF (ce 4) 2 0 (trustF (ce 4) 2 1 (userF (ce 5) 0 (userF (ce 6) 1 (userF (ce 7) 2 (servF (ce 8) 0 (servF (ce 9) 1 [])))))))))))))) := by
  rw [← List.append_nil (txtA ce)]
  unfold txtA
  rw [trustA_same, trustA_same, trustA_same, serv_fa, serv_fa, user_fa, user_fa, user_fa, trust_fa, trust_fa, trust_fa, trust_fa, trust_fa, trust_fa, realm_fa, realm_fa, realm_fa, gate_fa]
theorem ge600 {j : Nat} (h : j < 600) : ¬ (600 : Int32) ≤ nI j := show ¬ nI 600 ≤ nI j from nI_ge h (by decide)
section RS9
variable {M r : List Nat} {ic : Int32} {ib : Nat → Int32} {p : Nat} {va s e k v tm tol sd md cot cot' rr rr' ur ur' sr sr' tr er : Int32} {R R' U U' V V' T E : Nat → Int32}
theorem rs_realm (hI : INT9 M ic ib) (h : M.drop p = wRealm ++ r) (ho : f_X1_readRealm (nI p) (nI (p + wRealm.length)) 1 va 0 (-1) ic ib rr R ur U sr V = some (s, e, k, v, 0, -1, rr', R')) : f_X1_readStatement (nI p) (nI (p + wRealm.length)) 1 va 0 (-1) ic ib tm tol sd md cot rr R ur U sr V tr T er E = some (s, e, k, v, 0, -1, tm, sd, md, cot, rr', R', ur, U, sr, V, tr, T, er, E) := by
  unfold f_X1_readStatement
  rw [word_yes hI kwRealm h (by decide), Option.bind_some, if_neg (by decide), ho, Option.bind_some]
theorem rs_trust (hI : INT9 M ic ib) (h : M.drop p = wTrust ++ r) (ho : f_X1_readTrust (nI p) (nI (p + wTrust.length)) 1 va 0 (-1) ic ib rr R = some (s, e, k, v, 0, -1, R')) : f_X1_readStatement (nI p) (nI (p + wTrust.length)) 1 va 0 (-1) ic ib tm tol sd md cot rr R ur U sr V tr T er E = some (s, e, k, v, 0, -1, tm, sd, md, cot, rr, R', ur, U, sr, V, tr, T, er, E) := by
  unfold f_X1_readStatement
  rw [word_no hI kwRealm h (by decide) (by decide), Option.bind_some, if_pos rfl, word_yes hI kwTrust h (by decide), Option.bind_some, if_neg (by decide), ho, Option.bind_some]
theorem rs_user (hI : INT9 M ic ib) (h : M.drop p = wUser ++ r) (ho : f_X1_readUser (nI p) (nI (p + wUser.length)) 1 va 0 (-1) ic ib rr R ur U sr V = some (s, e, k, v, 0, -1, ur', U')) : f_X1_readStatement (nI p) (nI (p + wUser.length)) 1 va 0 (-1) ic ib tm tol sd md cot rr R ur U sr V tr T er E = some (s, e, k, v, 0, -1, tm, sd, md, cot, rr, R, ur', U', sr, V, tr, T, er, E) := by
  unfold f_X1_readStatement
  rw [word_no hI kwRealm h (by decide) (by decide), Option.bind_some, if_pos rfl, word_no hI kwTrust h (by decide) (by decide), Option.bind_some, if_pos rfl, word_yes hI kwUser h (by decide), Option.bind_some, if_neg (by decide), ho, Option.bind_some]
theorem rs_serv (hI : INT9 M ic ib) (h : M.drop p = wServ ++ r) (ho : f_X1_readService (nI p) (nI (p + wServ.length)) 1 va 0 (-1) ic ib cot rr R ur U sr V = some (s, e, k, v, 0, -1, cot', sr', V')) : f_X1_readStatement (nI p) (nI (p + wServ.length)) 1 va 0 (-1) ic ib tm tol sd md cot rr R ur U sr V tr T er E = some (s, e, k, v, 0, -1, tm, sd, md, cot', rr, R, ur, U, sr', V', tr, T, er, E) := by
  unfold f_X1_readStatement
  rw [word_no hI kwRealm h (by decide) (by decide), Option.bind_some, if_pos rfl, word_no hI kwTrust h (by decide) (by decide), Option.bind_some, if_pos rfl, word_no hI kwUser h (by decide) (by decide), Option.bind_some, if_pos rfl, word_yes hI kwServ h (by decide), Option.bind_some, if_neg (by decide), ho, Option.bind_some]
end RS9
/-- the loop of statements over what is left of the text -/
def LP9 (M : List Nat) (ic : Int32) (ib : Nat → Int32) (tm tol sd md tr : Int32) (T : Nat → Int32) (er : Int32) (E : Nat → Int32) (cot' rr' : Int32) (R' : Nat → Int32) (ur' : Int32) (U' : Nat → Int32) (sr' : Int32) (V' : Nat → Int32) (b : Nat) (r : List Nat) (cot rr : Int32) (R : Nat → Int32) (ur : Int32) (U : Nat → Int32) (sr : Int32) (V : Nat → Int32) : Prop := ∀ fu p j, b ≤ fu → j + b ≤ 500 → p ≤ M.length → M.drop p = r → ∃ st en kd va, NX ic ib p st en kd va ∧ ∃ s e k v, f_X1_run_L26 ic ib tol fu st en kd va 0 (-1) tm sd md cot rr R ur U sr V tr T er E (nI j) = some (s, e, k, v, 0, -1, tm, sd, md, cot', rr', R', ur', U', sr', V', tr, T, er, E)
section LP9s
variable {M r : List Nat} {ic : Int32} {ib : Nat → Int32} {tm tol sd md tr er cot' rr' ur' sr' : Int32} {T E R' U' V' : Nat → Int32} {b : Nat} {cot rr ur sr : Int32} {R U V : Nat → Int32}
theorem lp_end (hI : INT9 M ic ib) : LP9 M ic ib tm tol sd md tr T er E cot rr R ur U sr V 1 [] cot rr R ur U sr V := by
  intro fu p j hf hj hp h
  obtain ⟨-, hl, -⟩ := id hI
  obtain ⟨fu, rfl⟩ : ∃ f, fu = f + 1 := ⟨fu - 1, by omega⟩
  refine ⟨_, _, _, _, nx_e hI (by omega) h, nI p, nI p, 0, 0, ?_⟩
  rw [f_X1_run_L26, if_neg (ge600 (j := j) (by omega)), if_pos rfl, if_pos rfl]
/-- one statement, given what the reader says of it -/
theorem lp_step {w : List Nat} {q : List Nat} {cot1 rr1 ur1 sr1 : Int32} {R1 U1 V1 : Nat → Int32} {N : Nat} (hI : INT9 M ic ib) (hw0 : w ≠ []) (hw : ∀ c ∈ w, 97 ≤ c ∧ c ≤ 122) (hN : (w ++ ([32] ++ q)).length = N + r.length) (hdr : (w ++ ([32] ++ q)).drop N = r)
    (hs : ∀ p va s e k v, M.drop p = w ++ ([32] ++ q) → NX ic ib (p + N) s e k v → f_X1_readStatement (nI p) (nI (p + w.length)) 1 va 0 (-1) ic ib tm tol sd md cot rr R ur U sr V tr T er E = some (s, e, k, v, 0, -1, tm, sd, md, cot1, rr1, R1, ur1, U1, sr1, V1, tr, T, er, E))
    (hL : LP9 M ic ib tm tol sd md tr T er E cot' rr' R' ur' U' sr' V' b r cot1 rr1 R1 ur1 U1 sr1 V1) : LP9 M ic ib tm tol sd md tr T er E cot' rr' R' ur' U' sr' V' (b + 1) (w ++ ([32] ++ q)) cot rr R ur U sr V := by
  intro fu p j hf hj hp h
  obtain ⟨-, hl, -⟩ := id hI
  obtain ⟨fu, rfl⟩ : ∃ f, fu = f + 1 := ⟨fu - 1, by omega⟩
  obtain ⟨v, hv, -⟩ := nx_w hI (b := []) (Or.inl rfl) (show M.drop p = [] ++ (w ++ ([32] ++ q)) from h) hw0 hw (not_let (Or.inl (by decide)))
  have hlen := congrArg List.length h
  rw [List.length_drop, hN] at hlen
  have hd2 : M.drop (p + N) = r := by rw [← List.drop_drop, h, hdr]
  obtain ⟨st, en, kd, va, hn, s2, e2, k2, v2, hr⟩ := hL fu (p + N) (j + 1) (by omega) (by omega) (by omega) hd2
  refine ⟨_, _, _, _, hv, s2, e2, k2, v2, ?_⟩
  rw [f_X1_run_L26, if_neg (ge600 (j := j) (by omega)), if_pos rfl, if_neg (by decide)]
  rw [show f_X1_readStatement (nI (p + ([] : List Nat).length)) (nI (p + ([] : List Nat).length + w.length)) 1 v 0 (-1) ic ib tm tol sd md cot rr R ur U sr V tr T er E = _ from hs p v st en kd va h hn, Option.bind_some]
  dsimp only
  rw [nI_1]
  exact hr
theorem lp_realm {y k : Nat} (hI : INT9 M ic ib) (hk : k < 3) (hN : NMS9 k 0 0 R U V) (hL : LP9 M ic ib tm tol sd md tr T er E cot' rr' R' ur' U' sr' V' b r cot (nI (k + 1)) (rowR R k (nI (97 + k)) (nI (1 + y % 60)) (nI (y / 64 % 200)) (nI (y / 16384 % 7) - 3)) 0 U 0 V) : LP9 M ic ib tm tol sd md tr T er E cot' rr' R' ur' U' sr' V' (b + 1) (realmF y k r) cot (nI k) R 0 U 0 V := by
  refine lp_step (w := wRealm) (N := wRealm.length + 1 + 1 + 1 + (dgs (1 + y % 60)).length + 1 + (dgs (y / 64 % 200)).length + (clkT (y / 16384)).length) hI (by decide) (by decide) ?_ ?_ ?_ hL
  · simp only [List.length_append, List.length_cons, List.length_nil]
    omega
  · rw [show wRealm ++ ([32] ++ ([97 + k] ++ ([32] ++ (dgs (1 + y % 60) ++ ([32] ++ (dgs (y / 64 % 200) ++ (clkT (y / 16384) ++ r))))))) = (wRealm ++ ([32] ++ ([97 + k] ++ ([32] ++ (dgs (1 + y % 60) ++ ([32] ++ (dgs (y / 64 % 200) ++ clkT (y / 16384)))))))) ++ r by simp]
    exact List.drop_left' (by simp only [List.length_append, List.length_cons, List.length_nil]; omega)
  · intro p va s e kk v h hn
    exact rs_realm hI h (realm_ok (ur := 0) (sr := 0) hI hk (by omega) (by omega) (by omega) hN rfl rfl (drop_app h) (by
      rw [show p + wRealm.length + 1 + 1 + 1 + (dgs (1 + y % 60)).length + 1 + (dgs (y / 64 % 200)).length + (clkT (y / 16384)).length = p + (wRealm.length + 1 + 1 + 1 + (dgs (1 + y % 60)).length + 1 + (dgs (y / 64 % 200)).length + (clkT (y / 16384)).length) by omega]
      exact hn))
theorem lp_user {y k : Nat} (hI : INT9 M ic ib) (hk : k < 3) (hq : y % 3 < 3) (hN : NMS9 3 k 0 R U V) (hL : LP9 M ic ib tm tol sd md tr T er E cot' rr' R' ur' U' sr' V' b r cot 3 R (nI (k + 1)) (rowR U k (nI (117 + k)) (nI (y % 3)) (nI (y / 4 % 100)) (nI (y / 512 % 7) - 3)) 0 V) : LP9 M ic ib tm tol sd md tr T er E cot' rr' R' ur' U' sr' V' (b + 1) (userF y k r) cot 3 R (nI k) U 0 V := by
  refine lp_step (w := wUser) (N := wUser.length + 1 + 1 + 1 + 1 + 1 + (dgs (y / 4 % 100)).length + (clkT (y / 512)).length) hI (by decide) (by decide) ?_ ?_ ?_ hL
  · simp only [List.length_append, List.length_cons, List.length_nil]
    omega
  · rw [show wUser ++ ([32] ++ ([117 + k] ++ ([32] ++ ([97 + y % 3] ++ ([32] ++ (dgs (y / 4 % 100) ++ (clkT (y / 512) ++ r))))))) = (wUser ++ ([32] ++ ([117 + k] ++ ([32] ++ ([97 + y % 3] ++ ([32] ++ (dgs (y / 4 % 100) ++ clkT (y / 512)))))))) ++ r by simp]
    exact List.drop_left' (by simp only [List.length_append, List.length_cons, List.length_nil]; omega)
  · intro p va s e kk v h hn
    exact rs_user hI h (user_ok (sr := 0) hI hk hq (by omega) hN rfl (drop_app h) (by
      rw [show p + wUser.length + 1 + 1 + 1 + 1 + 1 + (dgs (y / 4 % 100)).length + (clkT (y / 512)).length = p + (wUser.length + 1 + 1 + 1 + 1 + 1 + (dgs (y / 4 % 100)).length + (clkT (y / 512)).length) by omega]
      exact hn))
theorem lp_serv {y k : Nat} (hI : INT9 M ic ib) (hk : k < 2) (hq : y % 3 < 3) (hN : NMS9 3 3 k R U V) (hL : LP9 M ic ib tm tol sd md tr T er E cot' rr' R' ur' U' sr' V' b r (cot + nI (y / 4 % 6)) 3 R 3 U (nI (k + 1)) (rowV V k (nI (109 + k)) (nI (y % 3)) (nI (y / 4 % 6)))) : LP9 M ic ib tm tol sd md tr T er E cot' rr' R' ur' U' sr' V' (b + 1) (servF y k r) cot 3 R 3 U (nI k) V := by
  refine lp_step (w := wServ) (N := wServ.length + 1 + 1 + 1 + 1 + 1 + (dgs (y / 4 % 6)).length + 1) hI (by decide) (by decide) ?_ ?_ ?_ hL
  · simp only [List.length_append, List.length_cons, List.length_nil]
    omega
  · rw [show wServ ++ ([32] ++ ([109 + k] ++ ([32] ++ ([97 + y % 3] ++ ([32] ++ (dgs (y / 4 % 6) ++ (59 :: r))))))) = (wServ ++ ([32] ++ ([109 + k] ++ ([32] ++ ([97 + y % 3] ++ ([32] ++ (dgs (y / 4 % 6) ++ [59]))))))) ++ r by simp]
    exact List.drop_left' (by simp only [List.length_append, List.length_cons, List.length_nil]; omega)
  · intro p va s e kk v h hn
    exact rs_serv hI h (serv_ok hI hk hq (by omega) hN (drop_app h) (by
      rw [show p + wServ.length + 1 + 1 + 1 + 1 + 1 + (dgs (y / 4 % 6)).length + 1 = p + (wServ.length + 1 + 1 + 1 + 1 + 1 + (dgs (y / 4 % 6)).length + 1) by omega]
      exact hn))
theorem lp_trust {n x z m : Nat} (hI : INT9 M ic ib) (hx : x < 3) (hz : z < 3) (hxz : x ≠ z) (hN : NMS9 3 0 0 R U V) (hm : R (x * 5 + 4) = nI m) (hm8 : m < 8) (hb : m.testBit z = false) (ht : trB n x z = true) (hL : LP9 M ic ib tm tol sd md tr T er E cot' rr' R' ur' U' sr' V' b r cot 3 (upd R (x * 5 + 4) (nI (m + 2 ^ z))) 0 U 0 V) : LP9 M ic ib tm tol sd md tr T er E cot' rr' R' ur' U' sr' V' (b + 1) (trustF n x z r) cot 3 R 0 U 0 V := by
  unfold trustF
  rw [if_pos ht]
  refine lp_step (w := wTrust) (N := wTrust.length + 1 + 1 + 1 + 1 + 1) hI (by decide) (by decide) ?_ ?_ ?_ hL
  · simp only [List.length_append, List.length_cons, List.length_nil]
    omega
  · rfl
  · intro p va s e kk v h hn
    exact rs_trust hI h (trust_ok hI hx hz hxz hN hm hm8 hb (drop_app h) (by
      rw [show p + wTrust.length + 1 + 1 + 1 + 1 + 1 = p + (wTrust.length + 1 + 1 + 1 + 1 + 1) by omega]
      exact hn))
theorem lp_weak {b2 : Nat} (hb : b ≤ b2) (hL : LP9 M ic ib tm tol sd md tr T er E cot' rr' R' ur' U' sr' V' b r cot rr R ur U sr V) : LP9 M ic ib tm tol sd md tr T er E cot' rr' R' ur' U' sr' V' b2 r cot rr R ur U sr V := fun fu p j h1 h2 h3 h4 => hL fu p j (by omega) (by omega) h3 h4
end LP9s
