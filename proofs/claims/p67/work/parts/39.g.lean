/-! PURE: the statements of the text. -/
/-- how a clock ends a statement: even, or a word and a number -/
theorem clk_cases (n : Nat) : (n % 7 = 3 ∧ clkT n = [32] ++ (wEven ++ [59])) ∨ (3 < n % 7 ∧ clkT n = [32] ++ (wFast ++ ([32] ++ (dgs (n % 7 - 3) ++ [59])))) ∨ (n % 7 < 3 ∧ clkT n = [32] ++ (wSlow ++ ([32] ++ (dgs (3 - n % 7) ++ [59])))) := by
  unfold clkT
  by_cases h1 : n % 7 = 3
  · left
    rw [if_pos h1]
    exact ⟨h1, rfl⟩
  · by_cases h2 : 3 < n % 7
    · right; left
      rw [if_neg h1, if_pos h2]
      exact ⟨h2, by simp [kFast, kSemi, wFast]⟩
    · right; right
      rw [if_neg h1, if_neg h2]
      exact ⟨by omega, by simp [kSlow, kSemi, wSlow]⟩
/-- the clock's value and the semicolon behind it: what a reader does from the clock's word on -/
theorem clock_tail {M r : List Nat} {ic : Int32} {ib : Nat → Int32} {p n : Nat} {st' en' kd' va' : Int32} (hI : INT9 M ic ib) (h : M.drop p = clkT n ++ r) (hn : NX ic ib (p + (clkT n).length) st' en' kd' va') (ea : Int32) : ∃ s1 e1 v1 w1 s2 e2 k2 v2, NX ic ib p s1 e1 1 v1 ∧ f_X1_clockWord s1 e1 1 v1 0 ea ic ib = some (w1, s2, e2, k2, v2, 0, ea) ∧
    (Option.bind (if w1 = 0 then (some ((0 : Int32), s2, e2, k2, v2, (0 : Int32), ea)) else ((f_X1_number s2 e2 k2 v2 0 ea ic ib 1 9).bind fun o10 => some ((w1 * o10.1), o10.2.1, o10.2.2.1, o10.2.2.2.1, o10.2.2.2.2.1, o10.2.2.2.2.2.1, o10.2.2.2.2.2.2))) fun j9 => (f_X1_semicolon j9.2.1 j9.2.2.1 j9.2.2.2.1 j9.2.2.2.2.1 j9.2.2.2.2.2.1 j9.2.2.2.2.2.2 ic ib 1).bind fun o11 => some (j9.1, o11)) = some (nI (n % 7) - 3, 1, st', en', kd', va', 0, ea) := by
  have hbl : BL9 [32] := Or.inr rfl
  have alpha : ∀ w, w = wEven ∨ w = wFast ∨ w = wSlow → w ≠ [] ∧ ∀ c ∈ w, 97 ≤ c ∧ c ≤ 122 := by
    intro w hw
    rcases hw with rfl | rfl | rfl <;> decide
  rcases clk_cases n with ⟨h7, e⟩ | ⟨h7, e⟩ | ⟨h7, e⟩
  · rw [e] at h hn
    have h0 : M.drop p = [32] ++ (wEven ++ ([59] ++ r)) := by rw [h]; simp
    obtain ⟨a1, a2⟩ := alpha wEven (Or.inl rfl)
    obtain ⟨v, hv, -⟩ := nx_w hI hbl h0 a1 a2 (fun c s q => by injection q with q _; omega)
    have h1 := drop_app h0
    have h2 := drop_app h1
    have hs := nx_c hI (p := p + [32].length + wEven.length) (show M.drop _ = 59 :: r from h2)
    refine ⟨_, _, _, _, _, _, _, _, hv, clock_ok hI h1 (Or.inr (Or.inl rfl)) hs, ?_⟩
    rw [if_neg (show ¬ wEven = wFast by decide), if_pos rfl, if_pos rfl, Option.bind_some]
    dsimp only
    rw [semi_ok (show NX ic ib (p + [32].length + wEven.length + 1) st' en' kd' va' from hn), Option.bind_some]
    rw [h7]
    rfl
  · rw [e] at h hn
    have h0 : M.drop p = [32] ++ (wFast ++ ([32] ++ (dgs (n % 7 - 3) ++ ([59] ++ r)))) := by rw [h]; simp
    obtain ⟨a1, a2⟩ := alpha wFast (Or.inr (Or.inl rfl))
    obtain ⟨v, hv, -⟩ := nx_w hI hbl h0 a1 a2 (fun c s q => by injection q with q _; omega)
    have h1 := drop_app h0
    have h2 := drop_app h1
    have hd := nx_n hI hbl (n := n % 7 - 3) (by omega) h2 (fun c s q => by injection q with q _; omega)
    have h3 := drop_app (drop_app h2)
    have hs := nx_c hI (show M.drop _ = 59 :: r from h3)
    refine ⟨_, _, _, _, _, _, _, _, hv, clock_ok hI h1 (Or.inl rfl) hd, ?_⟩
    rw [if_pos rfl, if_neg (by decide), number_ok (lo := 1) (hi := 9) (n := n % 7 - 3) (a := 1) (b := 9) hs rfl rfl (by omega) (by omega) (by decide), Option.bind_some, Option.bind_some]
    dsimp only
    rw [semi_ok (show NX ic ib (p + [32].length + wFast.length + [32].length + (dgs (n % 7 - 3)).length + 1) st' en' kd' va' by
      have e2 : p + ([32] ++ (wFast ++ ([32] ++ (dgs (n % 7 - 3) ++ [59])))).length = p + [32].length + wFast.length + [32].length + (dgs (n % 7 - 3)).length + 1 := by simp; omega
      rw [← e2]
      exact hn), Option.bind_some]
    have hk : ∀ k, k < 7 → 3 < k → (1 : Int32) * nI (k - 3) = nI k - 3 := by decide +kernel
    rw [hk _ (Nat.mod_lt _ (by decide)) h7]
  · rw [e] at h hn
    have h0 : M.drop p = [32] ++ (wSlow ++ ([32] ++ (dgs (3 - n % 7) ++ ([59] ++ r)))) := by rw [h]; simp
    obtain ⟨a1, a2⟩ := alpha wSlow (Or.inr (Or.inr rfl))
    obtain ⟨v, hv, -⟩ := nx_w hI hbl h0 a1 a2 (fun c s q => by injection q with q _; omega)
    have h1 := drop_app h0
    have h2 := drop_app h1
    have hd := nx_n hI hbl (n := 3 - n % 7) (by omega) h2 (fun c s q => by injection q with q _; omega)
    have h3 := drop_app (drop_app h2)
    have hs := nx_c hI (show M.drop _ = 59 :: r from h3)
    refine ⟨_, _, _, _, _, _, _, _, hv, clock_ok hI h1 (Or.inr (Or.inr rfl)) hd, ?_⟩
    rw [if_neg (show ¬ wSlow = wFast by decide), if_neg (show ¬ wSlow = wEven by decide), if_neg (by decide), number_ok (lo := 1) (hi := 9) (n := 3 - n % 7) (a := 1) (b := 9) hs rfl rfl (by omega) (by omega) (by decide), Option.bind_some, Option.bind_some]
    dsimp only
    rw [semi_ok (show NX ic ib (p + [32].length + wSlow.length + [32].length + (dgs (3 - n % 7)).length + 1) st' en' kd' va' by
      have e2 : p + ([32] ++ (wSlow ++ ([32] ++ (dgs (3 - n % 7) ++ [59])))).length = p + [32].length + wSlow.length + [32].length + (dgs (3 - n % 7)).length + 1 := by simp; omega
      rw [← e2]
      exact hn), Option.bind_some]
    have hk : ∀ k, k < 3 → (-1 : Int32) * nI (3 - k) = nI k - 3 := by decide +kernel
    rw [hk _ h7]
theorem clock_tail2 {M r : List Nat} {ic : Int32} {ib : Nat → Int32} {p n : Nat} {st' en' kd' va' : Int32} (hI : INT9 M ic ib) (h : M.drop p = clkT n ++ r) (hn : NX ic ib (p + (clkT n).length) st' en' kd' va') (ea : Int32) : ∃ s1 e1 v1 w1 s2 e2 k2 v2, NX ic ib p s1 e1 1 v1 ∧ f_X1_clockWord s1 e1 1 v1 0 ea ic ib = some (w1, s2, e2, k2, v2, 0, ea) ∧ ∃ j : Int32 × Int32 × Int32 × Int32 × Int32 × Int32 × Int32, (if w1 = 0 then (some ((0 : Int32), s2, e2, k2, v2, (0 : Int32), ea)) else ((f_X1_number s2 e2 k2 v2 0 ea ic ib 1 9).bind fun o10 => some ((w1 * o10.1), o10.2.1, o10.2.2.1, o10.2.2.2.1, o10.2.2.2.2.1, o10.2.2.2.2.2.1, o10.2.2.2.2.2.2))) = some j ∧ f_X1_semicolon j.2.1 j.2.2.1 j.2.2.2.1 j.2.2.2.2.1 j.2.2.2.2.2.1 j.2.2.2.2.2.2 ic ib 1 = some (1, st', en', kd', va', 0, ea) ∧ j.1 = nI (n % 7) - 3 := by
  obtain ⟨s1, e1, v1, w1, s2, e2, k2, v2, h1, h2, h3⟩ := clock_tail hI h hn ea
  refine ⟨s1, e1, v1, w1, s2, e2, k2, v2, h1, h2, ?_⟩
  obtain ⟨j, hj, h4⟩ := Option.bind_eq_some_iff.mp h3
  obtain ⟨o, ho, h5⟩ := Option.bind_eq_some_iff.mp h4
  injection h5 with h6
  injection h6 with h7 h8
  exact ⟨j, hj, by rw [ho, h8], h7⟩
theorem dgs_not {n : Nat} (hn : n < 1024) : ∀ c s, ([32] : List Nat) ++ s = c :: s → c < 48 ∨ 57 < c := fun c s q => by injection q with q _; omega
theorem clk_head (n : Nat) : ∃ t, clkT n = 32 :: t := by
  rcases clk_cases n with ⟨-, e⟩ | ⟨-, e⟩ | ⟨-, e⟩ <;> exact ⟨_, e⟩
theorem not_dig {t r : List Nat} {c0 : Nat} (h : c0 < 48 ∨ 57 < c0) : ∀ c s, (c0 :: t) ++ r = c :: s → c < 48 ∨ 57 < c := fun c s q => by injection q with q _; omega
theorem not_let {t : List Nat} {c0 : Nat} (h : c0 < 97 ∨ 122 < c0) : ∀ c s, c0 :: t = c :: s → c < 97 ∨ 122 < c := fun c s q => by injection q with q _; omega
/-- the draft's realms behind a realm: a row of five -/
def rowR (R : Nat → Int32) (k : Nat) (a0 a1 a2 a3 : Int32) : Nat → Int32 := upd (upd (upd (upd (upd R (k * 5 + 0) a0) (k * 5 + 1) a1) (k * 5 + 2) a2) (k * 5 + 3) a3) (k * 5 + 4) 0
theorem addRealm_eq {R : Nat → Int32} {k : Nat} {a0 a1 a2 a3 : Int32} (hk : k < 5) : f_X2_addRealm (nI k) R a0 a1 a2 a3 = some (nI (k + 1), rowR R k a0 a1 a2 a3) := by
  unfold f_X2_addRealm f_X6_addRow
  rw [if_pos (show nI k < 5 from nI_lt (b := 5) hk (by decide)), Option.bind_some]
  dsimp only
  rw [nI_1, show nI (k + 1) - 1 = nI k from pk_sub (a := k + 1) (b := 1) (by omega)]
  have S : ∀ (C : Nat → Int32) (j : Nat) (c x : Int32), c = nI j → j < 5 → f_X6_set 25 5 (nI (k + 1)) C (nI k) c x = some (upd C (k * 5 + j) x) := fun C j c x hc hj => set_at rfl rfl rfl hc (by omega) hj (by omega) (by decide) (by omega)
  rw [S _ 0 0 _ rfl (by decide), Option.bind_some, S _ 1 1 _ rfl (by decide), Option.bind_some, S _ 2 2 _ rfl (by decide), Option.bind_some, S _ 3 3 _ rfl (by decide), Option.bind_some, S _ 4 4 _ rfl (by decide), Option.bind_some]
  rfl
theorem isFull_no {N n m : Nat} {l r : Int32} (hl : l = nI m) (hr : r = nI n) (h : n < m) (hm : m < 100) : f_X6_isFull N l r = some 0 := by
  subst hl hr
  unfold f_X6_isFull
  rw [if_pos (nI_lt h (by omega))]
theorem realm_ok {M r : List Nat} {ic ea st kd va : Int32} {ib : Nat → Int32} {p k life ag ck ur sr : Nat} {R U V : Nat → Int32} {st' en' kd' va' : Int32} (hI : INT9 M ic ib) (hk : k < 3) (h1 : 1 ≤ life) (h2 : life ≤ 60) (h3 : ag < 200) (hN : NMS9 k ur sr R U V) (hur : ur = 0) (hsr : sr = 0) (h : M.drop p = [32] ++ ([97 + k] ++ ([32] ++ (dgs life ++ ([32] ++ (dgs ag ++ (clkT ck ++ r))))))) (hn : NX ic ib (p + 1 + 1 + 1 + (dgs life).length + 1 + (dgs ag).length + (clkT ck).length) st' en' kd' va') : f_X1_readRealm st (nI p) kd va 0 ea ic ib (nI k) R (nI ur) U (nI sr) V = some (st', en', kd', va', 0, ea, nI (k + 1), rowR R k (nI (97 + k)) (nI life) (nI ag) (nI (ck % 7) - 3)) := by
  have hbl : BL9 [32] := Or.inr rfl
  obtain ⟨t, ht⟩ := clk_head ck
  obtain ⟨v, hv, hv1⟩ := nx_w hI hbl h (by simp) (fun c hc => by rw [List.mem_singleton.mp hc]; omega) (not_let (Or.inl (by decide)))
  have hv2 := hv1 (97 + k) rfl
  have d1 := drop_app (drop_app h)
  have hd1 := nx_n hI hbl (n := life) (by omega) d1 (not_dig (c0 := 32) (t := []) (Or.inl (by decide)))
  have d2 := drop_app (drop_app d1)
  have hd2 := nx_n hI hbl (n := ag) (by omega) d2 (by rw [ht]; exact not_dig (Or.inl (by decide)))
  have d3 := drop_app (drop_app d2)
  obtain ⟨s1, e1, v1, w1, s2, e2, k2, v2, c1, c2, j, c3, c4, c5⟩ := clock_tail2 hI d3 hn ea
  unfold f_X1_readRealm
  rw [isFull_no (N := 25) (l := 5) (n := k) (m := 5) rfl rfl (by omega) (by decide), Option.bind_some, if_pos rfl, Option.bind_some, req1, Option.bind_some]
  dsimp only
  rw [hv, Option.bind_some]
  dsimp only
  rw [hv2, newName_ok hN (by omega) (by omega) (fun q hq => by omega) (fun q hq => by omega) (fun q hq => by omega) hd1, Option.bind_some]
  dsimp only
  rw [number_ok (lo := 1) (hi := 999) (n := life) (a := 1) (b := 999) hd2 rfl rfl (by omega) (by omega) (by decide), Option.bind_some]
  dsimp only
  rw [number_ok (lo := 0) (hi := 9999) (n := ag) (a := 0) (b := 9999) c1 rfl rfl (by omega) (by omega) (by decide), Option.bind_some]
  dsimp only
  rw [c2, Option.bind_some]
  dsimp only
  rw [c3, Option.bind_some, c4, Option.bind_some]
  dsimp only
  rw [if_neg (by decide), addRealm_eq (by omega), Option.bind_some, c5]
