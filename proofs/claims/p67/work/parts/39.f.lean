/-! PURE: the parser's small readers. -/
/-- the next token from p on -/
def NX (ic : Int32) (ib : Nat → Int32) (p : Nat) (st en kd va : Int32) : Prop := ∀ s0 k0 v0, f_X1_take s0 (nI p) k0 v0 0 ic ib = some (v0, st, en, kd, va)
theorem nx_w {M b w r : List Nat} {ic : Int32} {ib : Nat → Int32} {p : Nat} (hI : INT9 M ic ib) (hb : BL9 b) (h : M.drop p = b ++ (w ++ r)) (hw0 : w ≠ []) (hw : ∀ c ∈ w, 97 ≤ c ∧ c ≤ 122) (hr : ∀ c s, r = c :: s → c < 97 ∨ 122 < c) : ∃ v, NX ic ib p (nI (p + b.length)) (nI (p + b.length + w.length)) 1 v ∧ ∀ c, w = [c] → v = nI c := take_w hI hb h hw0 hw hr
theorem nx_n {M b r : List Nat} {ic : Int32} {ib : Nat → Int32} {p n : Nat} (hI : INT9 M ic ib) (hb : BL9 b) (hn : n < 1024) (h : M.drop p = b ++ (dgs n ++ r)) (hr : ∀ c s, r = c :: s → c < 48 ∨ 57 < c) : NX ic ib p (nI (p + b.length)) (nI (p + b.length + (dgs n).length)) 2 (nI n) := fun _ _ _ => take_n hI hb hn h hr
theorem nx_c {M r : List Nat} {ic : Int32} {ib : Nat → Int32} {p : Nat} (hI : INT9 M ic ib) (h : M.drop p = 59 :: r) : NX ic ib p (nI p) (nI (p + 1)) 3 59 := fun _ _ _ => take_c hI h
theorem nx_e {M : List Nat} {ic : Int32} {ib : Nat → Int32} {p : Nat} (hI : INT9 M ic ib) (hp : p < 1000) (h : M.drop p = []) : NX ic ib p (nI p) (nI p) 0 0 := fun _ _ _ => take_e hI hp h
theorem req1 {st ea v2 : Int32} : f_X1_require st 0 ea 1 v2 = some (0, ea) := by
  unfold f_X1_require
  rw [if_pos rfl, if_neg (by decide)]
theorem number_ok {ic st ea lo hi : Int32} {ib : Nat → Int32} {p n a b : Nat} {st' en' kd' va' : Int32} (hn : NX ic ib p st' en' kd' va') (hlo : lo = nI a) (hhi : hi = nI b) (h1 : a ≤ n) (h2 : n ≤ b) (hb : b < 2 ^ 31) : f_X1_number st (nI p) 2 (nI n) 0 ea ic ib lo hi = some (nI n, st', en', kd', va', 0, ea) := by
  unfold f_X1_number
  rw [if_pos rfl, Option.bind_some, req1, Option.bind_some, hlo, hhi, if_neg (nI_nlt h1 (by omega)), if_neg (nI_nlt h2 hb), Option.bind_some, req1, Option.bind_some]
  dsimp only
  rw [hn, Option.bind_some]
theorem semi_ok {ic st ea : Int32} {ib : Nat → Int32} {p : Nat} {st' en' kd' va' : Int32} (hn : NX ic ib p st' en' kd' va') : f_X1_semicolon st (nI p) 3 59 0 ea ic ib 1 = some (1, st', en', kd', va', 0, ea) := by
  unfold f_X1_semicolon
  rw [if_pos rfl, if_pos rfl, Option.bind_some, req1, Option.bind_some, req1, Option.bind_some]
  dsimp only
  rw [hn, Option.bind_some, if_pos rfl]
/-- a word of the class's constants -/
def KW (k : Nat) (W : List Nat) : Prop := k < nJS ∧ bytJS.getD k [] = W.map nI ∧ lenJS.getD k 0 = W.length ∧ (∀ c ∈ W, c < 128) ∧ W.length < 100
def wRealm : List Nat := [114, 101, 97, 108, 109]
def wTrust : List Nat := [116, 114, 117, 115, 116]
def wUser : List Nat := [117, 115, 101, 114]
def wServ : List Nat := [115, 101, 114, 118, 105, 99, 101]
def wGate : List Nat := [103, 97, 116, 101]
def wFast : List Nat := [102, 97, 115, 116]
def wEven : List Nat := [101, 118, 101, 110]
def wSlow : List Nat := [115, 108, 111, 119]
theorem kwRealm : KW 5 wRealm := by unfold KW; decide +kernel
theorem kwTrust : KW 6 wTrust := by unfold KW; decide +kernel
theorem kwUser : KW 7 wUser := by unfold KW; decide +kernel
theorem kwServ : KW 8 wServ := by unfold KW; decide +kernel
theorem kwGate : KW 17 wGate := by unfold KW; decide +kernel
theorem kwFast : KW 19 wFast := by unfold KW; decide +kernel
theorem kwEven : KW 20 wEven := by unfold KW; decide +kernel
theorem kwSlow : KW 21 wSlow := by unfold KW; decide +kernel
theorem word_is {M w r W : List Nat} {ic : Int32} {ib : Nat → Int32} {k p : Nat} (hI : INT9 M ic ib) (hk : KW k W) (h : M.drop p = w ++ r) (hw0 : w ≠ []) : f_X1_isWord (nI p) (nI (p + w.length)) 1 ic ib k = some (if w = W then 1 else 0) := by
  unfold f_X1_isWord
  rw [if_pos rfl, text_w hI hk.1 hk.2.1 hk.2.2.1 hk.2.2.2.1 hk.2.2.2.2 h hw0, Option.bind_some]
  by_cases hq : w = W
  · rw [if_pos hq, if_neg (by decide)]
  · rw [if_neg hq, if_pos rfl]
theorem clock_ok {M w r : List Nat} {ic ea : Int32} {ib : Nat → Int32} {p : Nat} {va st' en' kd' va' : Int32} (hI : INT9 M ic ib) (h : M.drop p = w ++ r) (hw : w = wFast ∨ w = wEven ∨ w = wSlow) (hn : NX ic ib (p + w.length) st' en' kd' va') : f_X1_clockWord (nI p) (nI (p + w.length)) 1 va 0 ea ic ib = some (if w = wFast then 1 else if w = wEven then 0 else -1, st', en', kd', va', 0, ea) := by
  have hw0 : w ≠ [] := by rcases hw with rfl | rfl | rfl <;> decide
  unfold f_X1_clockWord
  rw [word_is hI kwFast h hw0, Option.bind_some, word_is hI kwEven h hw0, Option.bind_some, word_is hI kwSlow h hw0]
  rcases hw with rfl | rfl | rfl
  · rw [if_pos rfl, if_neg (show ¬ wFast = wEven by decide), if_neg (by decide), Option.bind_some, req1, Option.bind_some, hn, Option.bind_some, if_pos rfl, if_neg (by decide), if_pos rfl]
  · rw [if_neg (show ¬ wEven = wFast by decide), if_pos rfl, if_pos rfl, if_neg (by decide), Option.bind_some, req1, Option.bind_some, hn, Option.bind_some, if_neg (by decide), if_neg (show ¬ wEven = wFast by decide), if_pos rfl]
  · rw [if_neg (show ¬ wSlow = wFast by decide), if_neg (show ¬ wSlow = wEven by decide), if_pos rfl, if_pos rfl, if_pos rfl, Option.bind_some, if_neg (by decide), Option.bind_some, req1, Option.bind_some, hn, Option.bind_some, if_pos rfl, if_pos rfl, if_neg (show ¬ wSlow = wFast by decide), if_neg (show ¬ wSlow = wEven by decide)]
/-- names in a table -/
theorem fn_L {N W n i : Nat} {w r x : Int32} {C : Nat → Int32} (hw : w = nI W) (hr : r = nI n) (hW : 0 < W) (hN : n * W ≤ N) (hN2 : N < 1000) (hn : n < 1000) (hi : i < n) (hx : C (i * W) = x) (hb : ∀ k, k < i → C (k * W) ≠ x) : ∀ m k fu, k + m = i → m < fu → f_X6_rowWith_L2 N w r C 0 x fu (nI k) = some (nI i) := by
  intro m
  induction m with
  | zero =>
    intro k fu hk hf
    obtain ⟨fu, rfl⟩ : ∃ f, fu = f + 1 := ⟨fu - 1, by omega⟩
    obtain rfl : k = i := by omega
    rw [f_X6_rowWith_L2, if_neg (by rw [hr]; exact nI_ge hi (by omega)), get_at (c := 0) (j := 0) hw hr rfl rfl hi hW hN (by omega) (by omega), Option.bind_some, if_pos (by rw [Nat.add_zero]; exact hx)]
  | succ m ih =>
    intro k fu hk hf
    obtain ⟨fu, rfl⟩ : ∃ f, fu = f + 1 := ⟨fu - 1, by omega⟩
    rw [f_X6_rowWith_L2, if_neg (by rw [hr]; exact nI_ge (by omega) (by omega)), get_at (c := 0) (i := k) (j := 0) hw hr rfl rfl (by omega) hW hN (by omega) (by omega), Option.bind_some, if_neg (by rw [Nat.add_zero]; exact hb k (by omega)), nI_1]
    exact ih (k + 1) fu (by omega) (by omega)
theorem fn_at {N W n i : Nat} {w r x : Int32} {C : Nat → Int32} (hw : w = nI W) (hr : r = nI n) (hW : 0 < W) (hN : n * W ≤ N) (hN2 : N < 1000) (hn : n < 1000) (hi : i < n) (hx : C (i * W) = x) (hb : ∀ k, k < i → C (k * W) ≠ x) : f_X6_rowWith N w r C 0 x = some (nI i) := fn_L hw hr hW hN hN2 hn hi hx hb i 0 5000 (by omega) (by omega)
theorem nf_L {N W n : Nat} {w r x : Int32} {C : Nat → Int32} (hw : w = nI W) (hr : r = nI n) (hW : 0 < W) (hN : n * W ≤ N) (hN2 : N < 1000) (hn : n < 1000) (hb : ∀ k, k < n → C (k * W) ≠ x) : ∀ m k fu, k + m = n → m < fu → f_X6_rowWith_L2 N w r C 0 x fu (nI k) = some (-1) := by
  intro m
  induction m with
  | zero =>
    intro k fu hk hf
    obtain ⟨fu, rfl⟩ : ∃ f, fu = f + 1 := ⟨fu - 1, by omega⟩
    rw [f_X6_rowWith_L2, if_pos (by rw [hr]; exact nI_le (by omega) (by omega))]
  | succ m ih =>
    intro k fu hk hf
    obtain ⟨fu, rfl⟩ : ∃ f, fu = f + 1 := ⟨fu - 1, by omega⟩
    rw [f_X6_rowWith_L2, if_neg (by rw [hr]; exact nI_ge (by omega) (by omega)), get_at (c := 0) (i := k) (j := 0) hw hr rfl rfl (by omega) hW hN (by omega) (by omega), Option.bind_some, if_neg (by rw [Nat.add_zero]; exact hb k (by omega)), nI_1]
    exact ih (k + 1) fu (by omega) (by omega)
theorem nf_at {N W n : Nat} {w r x : Int32} {C : Nat → Int32} (hw : w = nI W) (hr : r = nI n) (hW : 0 < W) (hN : n * W ≤ N) (hN2 : N < 1000) (hn : n < 1000) (hb : ∀ k, k < n → C (k * W) ≠ x) : f_X6_rowWith N w r C 0 x = some (-1) := nf_L hw hr hW hN hN2 hn hb n 0 5000 (by omega) (by omega)
/-- the names that stand in the draft's tables: realms a, b, c; users u, v, w; services m, n -/
def NMS9 (rr ur sr : Nat) (R U V : Nat → Int32) : Prop := rr ≤ 3 ∧ ur ≤ 3 ∧ sr ≤ 2 ∧ (∀ k, k < rr → R (k * 5) = nI (97 + k)) ∧ (∀ k, k < ur → U (k * 5) = nI (117 + k)) ∧ (∀ k, k < sr → V (k * 3) = nI (109 + k))
theorem code_none {rr ur sr c : Nat} {R U V : Nat → Int32} (h : NMS9 rr ur sr R U V) (hc : c < 200) (h1 : ∀ k, k < rr → 97 + k ≠ c) (h2 : ∀ k, k < ur → 117 + k ≠ c) (h3 : ∀ k, k < sr → 109 + k ≠ c) : f_X5_codeOfName (nI rr) R (nI ur) U (nI sr) V (nI c) = some (-1) := by
  obtain ⟨a1, a2, a3, b1, b2, b3⟩ := h
  unfold f_X5_codeOfName
  rw [nf_at (N := 25) (w := 5) (n := rr) (W := 5) (x := nI c) rfl rfl (by decide) (by omega) (by decide) (by omega) (fun k hk => by rw [b1 k hk]; exact fun z => h1 k hk ((nI_eq (by omega) (by omega)).mp z)), Option.bind_some, nf_at (N := 30) (w := 5) (n := ur) (W := 5) (x := nI c) rfl rfl (by decide) (by omega) (by decide) (by omega) (fun k hk => by rw [b2 k hk]; exact fun z => h2 k hk ((nI_eq (by omega) (by omega)).mp z)), Option.bind_some, nf_at (N := 18) (w := 3) (n := sr) (W := 3) (x := nI c) rfl rfl (by decide) (by omega) (by decide) (by omega) (fun k hk => by rw [b3 k hk]; exact fun z => h3 k hk ((nI_eq (by omega) (by omega)).mp z)), Option.bind_some, if_pos rfl, if_pos rfl, if_pos rfl]
theorem newName_ok {rr ur sr c : Nat} {R U V : Nat → Int32} {ic st ea : Int32} {ib : Nat → Int32} {p : Nat} {st' en' kd' va' : Int32} (h : NMS9 rr ur sr R U V) (hc0 : 0 < c) (hc : c < 200) (h1 : ∀ k, k < rr → 97 + k ≠ c) (h2 : ∀ k, k < ur → 117 + k ≠ c) (h3 : ∀ k, k < sr → 109 + k ≠ c) (hn : NX ic ib p st' en' kd' va') : f_X1_newName st (nI p) 1 (nI c) 0 ea ic ib (nI rr) R (nI ur) U (nI sr) V = some (nI c, st', en', kd', va', 0, ea) := by
  unfold f_X1_newName
  rw [if_pos rfl, Option.bind_some, req1, Option.bind_some, if_neg (show ¬ nI c = 0 from fun z => by have := (nI_eq (a := c) (b := 0) (by omega) (by decide)).mp z; omega), Option.bind_some, req1, Option.bind_some, code_none h hc h1 h2 h3, Option.bind_some, if_pos rfl, Option.bind_some, req1, Option.bind_some]
  dsimp only
  rw [hn, Option.bind_some]
theorem known_ok {rr ur sr i : Nat} {R U V : Nat → Int32} {ic st ea : Int32} {ib : Nat → Int32} {p : Nat} {st' en' kd' va' : Int32} (h : NMS9 rr ur sr R U V) (hi : i < rr) (hn : NX ic ib p st' en' kd' va') : f_X1_knownName_realms st (nI p) 1 (nI (97 + i)) 0 ea ic ib (nI rr) R 0 = some (nI i, st', en', kd', va', 0, ea) := by
  obtain ⟨a1, a2, a3, b1, b2, b3⟩ := h
  unfold f_X1_knownName_realms
  rw [fn_at (N := 25) (w := 5) (n := rr) (W := 5) (i := i) rfl rfl (by decide) (by omega) (by decide) (by omega) hi (b1 i hi) (fun k hk => by rw [b1 k (by omega)]; exact fun z => by have := (nI_eq (by omega) (by omega)).mp z; omega), Option.bind_some, if_pos rfl, Option.bind_some, req1, Option.bind_some, if_neg (show ¬ nI i = -1 from fun z => absurd (show nI i < 0 by rw [z]; decide) (nI_pos (by omega))), Option.bind_some, req1, Option.bind_some]
  dsimp only
  rw [hn, Option.bind_some]
