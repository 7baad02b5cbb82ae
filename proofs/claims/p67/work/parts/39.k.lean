/-! PURE: the text is handed over, twenty letters a call. -/
theorem nI_or8 {a b : Nat} (hb : b < 256) : nI (a * 256) ||| nI b = nI (a * 256 + b) := by
  rw [show a * 256 + b = a * 256 ||| b from by rw [Nat.mul_comm a 256]; exact Nat.two_pow_add_eq_or_of_lt (i := 8) hb a]
  apply Int32.toBitVec_inj.mp
  show BitVec.ofNat 32 (a * 256) ||| BitVec.ofNat 32 b = BitVec.ofNat 32 (a * 256 ||| b)
  apply BitVec.eq_of_toNat_eq
  rw [BitVec.toNat_or, BitVec.toNat_ofNat, BitVec.toNat_ofNat, BitVec.toNat_ofNat, Nat.or_mod_two_pow]
theorem pk8 {a b : Nat} (ha : a * 256 < 2 ^ 32) (hb : b < 256) : (nI a <<< ((8 : Int32) &&& 31)) ||| nI b = nI (a * 256 + b) := by
  rw [pk_shlN (n := a) ((8 : Int32) &&& 31) 8 (by decide) ha]
  exact nI_or8 hb
theorem add_at9 {k : Nat} {B : Nat → Int32} {v x : Int32} (hk : k < 600) (hx : v &&& 255 = x) : f_X0_add 600 (nI k) B v = some (nI (k + 1), upd B k x) := by
  unfold f_X0_add
  rw [if_neg (nI_pos (by omega)), if_neg (show ¬ Int32.ofNat 600 ≤ nI k from nI_ge hk (by decide)), hx, wr_nI9 hk (by decide), Option.bind_some, nI_1]
def fillN (L : Nat → Nat) (B : Nat → Int32) (k : Nat) : Nat → Int32 := fun j => if j < k then nI (L j) else B j
theorem fill_up {L : Nat → Nat} {B : Nat → Int32} {k : Nat} : upd (fillN L B k) k (nI (L k)) = fillN L B (k + 1) := by
  funext j
  unfold fillN
  by_cases h : j = k
  · rw [h, upd_eq9, if_pos (by omega)]
  · rw [upd_ne9 h]
    by_cases h2 : j < k
    · rw [if_pos h2, if_pos (by omega)]
    · rw [if_neg h2, if_neg (by omega)]
theorem four_at {L : Nat → Nat} {B : Nat → Int32} {k : Nat} {v : Int32} (hk : k + 4 ≤ 600) (hL : ∀ j, L j < 128) (hv : v = nI (((L k * 256 + L (k + 1)) * 256 + L (k + 2)) * 256 + L (k + 3))) : f_X0_addFour 600 (nI k) (fillN L B k) v = some (nI (k + 4), fillN L B (k + 4)) := by
  have h0 := hL k
  have h1 := hL (k + 1)
  have h2 := hL (k + 2)
  have h3 := hL (k + 3)
  subst hv
  have u : ∀ (s : Int32) (m : Nat), ((s.toUInt32 &&& Int32.toUInt32 31).toBitVec % 32).toNat = m → ushr (nI (((L k * 256 + L (k + 1)) * 256 + L (k + 2)) * 256 + L (k + 3))) s = nI ((((L k * 256 + L (k + 1)) * 256 + L (k + 2)) * 256 + L (k + 3)) / 2 ^ m) := fun s m hs => pk_ushrN (by omega) s m hs
  unfold f_X0_addFour
  rw [u 24 24 (by decide), u 16 16 (by decide), u 8 8 (by decide)]
  rw [add_at9 (x := nI (L k)) (by omega) (by rw [pk_andN (by omega) 8 (by decide)]; congr 1; omega), Option.bind_some]
  dsimp only
  rw [fill_up, add_at9 (x := nI (L (k + 1))) (by omega) (by rw [pk_andN (by omega) 8 (by decide)]; congr 1; omega), Option.bind_some]
  dsimp only
  rw [fill_up, add_at9 (x := nI (L (k + 2))) (by omega) (by rw [pk_andN (by omega) 8 (by decide)]; congr 1; omega), Option.bind_some]
  dsimp only
  rw [fill_up, add_at9 (x := nI (L (k + 3))) (by omega) (by rw [pk_andN (by omega) 8 (by decide)]; congr 1; omega), Option.bind_some]
  dsimp only
  rw [fill_up]
def Lt9 (M : List Nat) (j : Nat) : Nat := if j < M.length then M.getD j 0 else 32
theorem ltr_nI {M : List Nat} {j : Nat} : ltr M j = nI (Lt9 M j) := by
  unfold ltr Lt9
  split <;> rfl
theorem Lt_lt {M : List Nat} (hM : ∀ c ∈ M, c < 128) (j : Nat) : Lt9 M j < 128 := by
  unfold Lt9
  split
  · rename_i h
    rw [List.getD_eq_getElem?_getD, List.getElem?_eq_getElem h]
    exact hM _ (List.getElem_mem h)
  · decide
theorem pack4 {M : List Nat} {a b c d : Nat} (hM : ∀ c ∈ M, c < 128) : ((((((((0 : Int32) <<< ((8 : Int32) &&& 31)) ||| ltr M a) <<< ((8 : Int32) &&& 31)) ||| ltr M b) <<< ((8 : Int32) &&& 31)) ||| ltr M c) <<< ((8 : Int32) &&& 31)) ||| ltr M d = nI (((Lt9 M a * 256 + Lt9 M b) * 256 + Lt9 M c) * 256 + Lt9 M d) := by
  have h0 := Lt_lt hM a
  have h1 := Lt_lt hM b
  have h2 := Lt_lt hM c
  have h3 := Lt_lt hM d
  rw [ltr_nI, ltr_nI, ltr_nI, ltr_nI, show (0 : Int32) = nI 0 from rfl, pk8 (a := 0) (by decide) (by omega), Nat.zero_mul, Nat.zero_add, pk8 (by omega) (by omega), pk8 (by omega) (by omega), pk8 (by omega) (by omega)]
theorem fv_cell {M : List Nat} {t : Nat} (hM : ∀ c ∈ M, c < 128) : ∀ q, q < 5 → fvA M (20 * t) 20 q = nI (((Lt9 M (20 * t + 4 * q) * 256 + Lt9 M (20 * t + 4 * q + 1)) * 256 + Lt9 M (20 * t + 4 * q + 2)) * 256 + Lt9 M (20 * t + 4 * q + 3)) := by
  intro q hq
  rw [← pack4 hM]
  match q, hq with
  | 0, _ => rfl
  | 1, _ => rfl
  | 2, _ => rfl
  | 3, _ => rfl
  | 4, _ => rfl
theorem le620 {k : Nat} (h : k + 20 ≤ 600) : nI k + 20 ≤ 600 := by
  have h2 : nI k + nI 20 ≤ nI 600 := by
    rw [nI_add]
    exact nI_le h (by decide)
  exact h2
theorem app_ok {M : List Nat} {t : Nat} {B : Nat → Int32} (hM : ∀ c ∈ M, c < 128) (ht : 20 * t + 20 ≤ 600) : ∃ r, f_X11_appendInput (nI (20 * t)) (fillN (Lt9 M) B (20 * t)) (fvA M (20 * t) 20 0) (fvA M (20 * t) 20 1) (fvA M (20 * t) 20 2) (fvA M (20 * t) 20 3) (fvA M (20 * t) 20 4) = some (0, r, nI (20 * (t + 1)), fillN (Lt9 M) B (20 * (t + 1))) := by
  refine ⟨nI (20 * (t + 1)), ?_⟩
  have hL := Lt_lt hM
  have F : ∀ q k, q < 5 → k = 20 * t + 4 * q → f_X0_addFour 600 (nI k) (fillN (Lt9 M) B k) (fvA M (20 * t) 20 q) = some (nI (k + 4), fillN (Lt9 M) B (k + 4)) := by
    intro q k hq hk
    subst hk
    exact four_at (by omega) hL (fv_cell hM q hq)
  unfold f_X11_appendInput f_X0_size
  rw [Option.bind_some, if_pos (show nI (20 * t) + 20 ≤ 600 from le620 ht), F 0 (20 * t) (by decide) (by omega), Option.bind_some]
  dsimp only
  rw [F 1 (20 * t + 4) (by decide) (by omega), Option.bind_some]
  dsimp only
  rw [F 2 (20 * t + 4 + 4) (by decide) (by omega), Option.bind_some]
  dsimp only
  rw [F 3 (20 * t + 4 + 4 + 4) (by decide) (by omega), Option.bind_some]
  dsimp only
  rw [F 4 (20 * t + 4 + 4 + 4 + 4) (by decide) (by omega), Option.bind_some]
  rfl
theorem says_ok {M : List Nat} {x : FX} (hl : M.length ≤ 265) (hM : ∀ c ∈ M, c < 128) (hx : FX.i_count x = 0) : saysR M x (fun t => nI (20 * t)) (fun t => fillN (Lt9 M) (FX.i_cells x) (20 * t)) ((M.length + 19) / 20) (nI M.length) ∧ INT9 M (nI M.length) (fillN (Lt9 M) (FX.i_cells x) (20 * ((M.length + 19) / 20))) := by
  refine ⟨⟨hx.symm, ?_, by omega, by omega, fun t ht => app_ok hM (by omega), nI M.length, ?_⟩, rfl, by omega, hM, fun j hj => ?_⟩
  · funext j
    exact if_neg (by omega)
  · unfold f_X11_truncateInput f_X0_size f_X0_cut
    rw [if_neg (nI_pos (by omega)), Option.bind_some, if_pos (nI_le (by omega) (by omega)), Option.bind_some]
  · unfold fillN Lt9
    rw [if_pos (by omega), if_pos hj]
