/-! PURE: tokens. -/
theorem name_L {M r : List Nat} {ic e9 : Int32} {ib : Nat → Int32} (hI : INT9 M ic ib) : ∀ (w : List Nat) (p : Nat) (v k : Int32) (fu : Nat), M.drop p = w ++ r → (∀ c ∈ w, 97 ≤ c ∧ c ≤ 122) → e9 = nI (p + w.length) → p + w.length < 1000 → w.length < fu → ∃ k' v', f_X0_nameBetween_L19 600 ic ib e9 fu k v (nI p) = some (k', v') ∧ (w = [] → k' = k ∧ v' = v) ∧ (k = 0 → k' = 0) := by
  intro w
  induction w with
  | nil =>
    intro p v k fu h _ he hp hf
    obtain ⟨fu, rfl⟩ : ∃ f, fu = f + 1 := ⟨fu - 1, by omega⟩
    refine ⟨k, v, ?_, fun _ => ⟨rfl, rfl⟩, fun q => q⟩
    rw [f_X0_nameBetween_L19]
    by_cases hk : k = 0
    · rw [if_pos hk]
    · rw [if_neg hk, he, if_pos (nI_le (by simp) (by simp at hp; omega))]
  | cons c w ih =>
    intro p v k fu h hw he hp hf
    obtain ⟨fu, rfl⟩ : ∃ f, fu = f + 1 := ⟨fu - 1, by omega⟩
    by_cases hk : k = 0
    · refine ⟨k, v, by rw [f_X0_nameBetween_L19, if_pos hk], (fun q => absurd q (by simp)), fun q => q⟩
    · have h' : M.drop p = c :: (w ++ r) := h
      have ha2 := at_c hI h'
      have hc := c_lt hI h'
      obtain ⟨g1, -, -, g4⟩ := drop_at h'
      obtain ⟨q1, q2⟩ := hw c List.mem_cons_self
      obtain ⟨k', v', e1, e2, e3⟩ := ih (p + 1) ((v <<< (8 &&& 31)) ||| nI c) 1 fu g4 (fun d hd => hw d (List.mem_cons_of_mem _ hd)) (by rw [he, List.length_cons, show p + (w.length + 1) = p + 1 + w.length by omega]) (by simp at hp; omega) (by simp at hf; omega)
      refine ⟨k', v', ?_, (fun q => absurd q (by simp)), fun q => absurd q hk⟩
      rw [f_X0_nameBetween_L19, if_neg hk, he, if_neg (nI_ge (by simp) (by simp at hp ⊢; omega)), ha2, Option.bind_some, if_neg (show ¬ nI c < 97 from nI_nlt (b := 97) (by omega) (by omega)), Option.bind_some, if_neg (show ¬ 122 < nI c from nI_nlt (a := 122) (by omega) (by decide)), Option.bind_some, Option.bind_some, nI_1, ← he]
      exact e1
theorem name_w {M w r : List Nat} {ic : Int32} {ib : Nat → Int32} {p : Nat} (hI : INT9 M ic ib) (h : M.drop p = w ++ r) (hw0 : w ≠ []) (hw : ∀ c ∈ w, 97 ≤ c ∧ c ≤ 122) : ∃ v, f_X0_nameBetween 600 ic ib (nI p) (nI (p + w.length)) = some v := by
  have hl := drop_len h hw0
  have h5 := hI.2.1
  unfold f_X0_nameBetween
  have hj : ∃ j, (if 4 < nI (p + w.length) - nI p then some (0 : Int32) else some 1) = some j := by
    split
    · exact ⟨_, rfl⟩
    · exact ⟨_, rfl⟩
  obtain ⟨j, hj⟩ := hj
  obtain ⟨k', v', e1, -⟩ := name_L hI w p 0 j 5000 h hw rfl (by omega) (by omega)
  rw [hj, Option.bind_some, e1, Option.bind_some]
  split
  · exact ⟨_, rfl⟩
  · exact ⟨_, rfl⟩
/-- a name of one letter is that letter -/
theorem name_1 {M r : List Nat} {ic : Int32} {ib : Nat → Int32} {p c : Nat} (hI : INT9 M ic ib) (h : M.drop p = c :: r) (h1 : 97 ≤ c) (h2 : c ≤ 122) : f_X0_nameBetween 600 ic ib (nI p) (nI (p + 1)) = some (nI c) := by
  have ha2 := at_c hI h
  obtain ⟨g1, -⟩ := drop_at h
  have h5 := hI.2.1
  have hz : ∀ c, c < 128 → ((0 : Int32) <<< (8 &&& 31)) ||| nI c = nI c := by decide +kernel
  unfold f_X0_nameBetween
  rw [show nI (p + 1) - nI p = nI 1 from (pk_sub (a := p + 1) (b := p) (by omega)).trans (by rw [show p + 1 - p = 1 by omega]), if_neg (show ¬ (4 : Int32) < nI 1 by decide), Option.bind_some, show (5000 : Nat) = 4998 + 1 + 1 from rfl, f_X0_nameBetween_L19, if_neg (by decide), if_neg (nI_ge (by omega) (by omega)), ha2, Option.bind_some, if_neg (show ¬ nI c < 97 from nI_nlt (b := 97) (by omega) (by omega)), Option.bind_some, if_neg (show ¬ 122 < nI c from nI_nlt (a := 122) (by omega) (by decide)), Option.bind_some, Option.bind_some, hz c (by omega), nI_1, f_X0_nameBetween_L19, if_neg (by decide), if_pos (nI_le (Nat.le_refl _) (by omega)), Option.bind_some, if_neg (show ¬ (1 : Int32) = 0 by decide)]
/-- a word is known letter by letter -/
theorem text_L {M r : List Nat} {ic : Int32} {ib : Nat → Int32} {k : Nat} {W : List Nat} (hI : INT9 M ic ib) (hk : k < nJS) (hb : bytJS.getD k [] = W.map nI) (hlk : lenJS.getD k 0 = W.length) (hW : ∀ c ∈ W, c < 128) (hWl : W.length < 100) : ∀ (w U : List Nat) (p j fu : Nat), M.drop (p + j) = w ++ r → W.drop j = U → w.length = U.length → j ≤ W.length → w.length < fu → p + j + w.length < 1000 → f_X0_isText_L20 600 ic ib (nI p) k fu 1 (nI j) = some (if w = U then 1 else 0) := by
  have hs : slen k = nI W.length := by unfold slen; rw [hlk]; rfl
  intro w
  induction w with
  | nil =>
    intro U p j fu h hU hl hj hf hp
    obtain ⟨fu, rfl⟩ : ∃ f, fu = f + 1 := ⟨fu - 1, by omega⟩
    obtain rfl : U = [] := List.eq_nil_of_length_eq_zero hl.symm
    have := drop_nil hU
    rw [f_X0_isText_L20, if_neg (by decide), hs, if_pos (nI_le this (by omega)), if_pos rfl]
  | cons c w ih =>
    intro U p j fu h hU hl hj hf hp
    obtain ⟨fu, rfl⟩ : ∃ f, fu = f + 1 := ⟨fu - 1, by omega⟩
    cases U with
    | nil => cases hl
    | cons d U =>
      have h' : M.drop (p + j) = c :: (w ++ r) := h
      have ha2 := at_c hI h'
      have hc := c_lt hI h'
      obtain ⟨g1, -, -, g4⟩ := drop_at h'
      obtain ⟨k1, k2, k3, k4⟩ := drop_at hU
      have hd : d < 128 := hW d k3
      have hsch : sch k (nI j) = some (nI d) := by
        have hb1 : ∀ d, d < 128 → ((nI d &&& 255).toUInt32 % 65536).toInt32 = nI d := by decide +kernel
        have e : schv k j = nI d := by
          unfold schv
          rw [hb]
          rw [show (W.map nI).getD j 0 = nI d by
            rw [List.getD_eq_getElem?_getD, List.getElem?_map, List.getElem?_eq_getElem k1]
            rw [List.getD_eq_getElem?_getD, List.getElem?_eq_getElem k1] at k2
            exact congrArg nI k2]
          exact hb1 d hd
        unfold sch
        rw [nI_clamp (by omega), hlk, if_neg (fun z => z.elim (nI_pos (by omega)) (fun z => by omega)), e]
      rw [f_X0_isText_L20, if_neg (by decide), hs, if_neg (nI_ge k1 (by omega)), nI_add, ha2, Option.bind_some, hsch, Option.bind_some]
      by_cases he : c = d
      · subst he
        rw [if_pos rfl, nI_1, ih U p (j + 1) fu (by rw [← Nat.add_assoc]; exact g4) k4 (by simpa using hl) (by omega) (by simp at hf; omega) (by simp at hp; omega)]
        by_cases hq : w = U
        · rw [if_pos hq, if_pos (by rw [hq])]
        · rw [if_neg hq, if_neg (fun z => hq (List.cons.inj z).2)]
      · rw [if_neg (fun z => he ((nI_eq (by omega) (by omega)).mp z)), if_neg (fun z => he (List.cons.inj z).1)]
        simp at hf
        obtain ⟨fu, rfl⟩ : ∃ f, fu = f + 1 := ⟨fu - 1, by omega⟩
        rw [f_X0_isText_L20, if_pos rfl]
theorem text_w {M w r : List Nat} {ic : Int32} {ib : Nat → Int32} {k p : Nat} {W : List Nat} (hI : INT9 M ic ib) (hk : k < nJS) (hb : bytJS.getD k [] = W.map nI) (hlk : lenJS.getD k 0 = W.length) (hW : ∀ c ∈ W, c < 128) (hWl : W.length < 100) (h : M.drop p = w ++ r) (hw0 : w ≠ []) : f_X0_isText 600 ic ib (nI p) (nI (p + w.length)) k = some (if w = W then 1 else 0) := by
  have hl := drop_len h hw0
  have h5 := hI.2.1
  have hs : slen k = nI W.length := by unfold slen; rw [hlk]; rfl
  unfold f_X0_isText
  rw [show nI (p + w.length) - nI p = nI w.length from (pk_sub (a := p + w.length) (b := p) (by omega)).trans (by rw [show p + w.length - p = w.length by omega]), hs]
  by_cases he : w.length = W.length
  · rw [if_pos (by rw [he]), Option.bind_some, show f_X0_isText_L20 600 ic ib (nI p) k 5000 1 0 = _ from text_L hI hk hb hlk hW hWl w W p 0 5000 h rfl he (Nat.zero_le _) (by omega) (by omega), Option.bind_some]
    by_cases hq : w = W
    · rw [if_pos hq, zr1, Option.bind_some]
    · rw [if_neg hq, zr0, Option.bind_some]
  · rw [if_neg (fun z => he ((nI_eq (by omega) (by omega)).mp z)), Option.bind_some, show (5000 : Nat) = 4999 + 1 from rfl, f_X0_isText_L20, if_pos rfl, Option.bind_some, zr0, Option.bind_some, if_neg (fun z => he (by rw [z]))]
/-- what stands ahead of a token: nothing or a blank -/
def BL9 (b : List Nat) : Prop := b = [] ∨ b = [32]
theorem blank_w {M b r : List Nat} {ic : Int32} {ib : Nat → Int32} {p c : Nat} (hI : INT9 M ic ib) (hb : BL9 b) (h : M.drop p = b ++ (c :: r)) (h1 : c ≠ 32) (h2 : c ≠ 10) : f_X0_endOfBlanks 600 ic ib (nI p) = some (nI (p + b.length)) ∧ M.drop (p + b.length) = c :: r := by
  have hd := drop_app h
  refine ⟨?_, hd⟩
  unfold f_X0_endOfBlanks
  rcases hb with rfl | rfl
  · rw [show (5000 : Nat) = 4999 + 1 from rfl, blank0 hI h h1 h2, Option.bind_some]
    rfl
  · rw [show (5000 : Nat) = 4998 + 1 + 1 from rfl, blank1 hI h, blank0 (p := p + 1) hI (show M.drop (p + 1) = c :: r from hd) h1 h2, Option.bind_some]
    rfl
theorem take_w {M b w r : List Nat} {ic : Int32} {ib : Nat → Int32} {p : Nat} (hI : INT9 M ic ib) (hb : BL9 b) (h : M.drop p = b ++ (w ++ r)) (hw0 : w ≠ []) (hw : ∀ c ∈ w, 97 ≤ c ∧ c ≤ 122) (hr : ∀ c s, r = c :: s → c < 97 ∨ 122 < c) : ∃ v, (∀ st kd va, f_X1_take st (nI p) kd va 0 ic ib = some (va, nI (p + b.length), nI (p + b.length + w.length), 1, v)) ∧ ∀ c, w = [c] → v = nI c := by
  obtain ⟨c, w', rfl⟩ : ∃ c w', w = c :: w' := by
    cases w with
    | nil => exact absurd rfl hw0
    | cons c w' => exact ⟨c, w', rfl⟩
  obtain ⟨q1, q2⟩ := hw c List.mem_cons_self
  obtain ⟨e1, e2⟩ := blank_w hI hb (r := w' ++ r) h (by omega) (by omega)
  have ha2 := at_c hI e2
  have hrun := run_w (a := 97) (b := 122) hI rfl rfl (by decide) (by decide) hr (p := p + b.length) (w := c :: w') e2 hw0 hw
  obtain ⟨v, hv⟩ := name_w hI (p := p + b.length) (w := c :: w') e2 hw0 hw
  refine ⟨v, fun st kd va => ?_, ?_⟩
  · unfold f_X1_take
    rw [if_pos rfl, e1, Option.bind_some, ha2, Option.bind_some, if_neg (show ¬ nI c = -1 from fun z => absurd (show nI c < 0 by rw [z]; decide) (nI_pos (by omega))), if_neg (show ¬ nI c < 97 from nI_nlt (b := 97) (by omega) (by omega)), if_neg (show ¬ 122 < nI c from nI_nlt (a := 122) (by omega) (by decide)), show f_X0_endOfRun 600 ic ib (nI (p + b.length)) 97 122 = _ from hrun, Option.bind_some, hv, Option.bind_some]
  · intro d hd
    injection hd with hd1 hd2
    subst hd1 hd2
    have := name_1 hI e2 q1 q2
    rw [show nI (p + b.length + [c].length) = nI (p + b.length + 1) from rfl] at hv
    exact Option.some.inj (hv.symm.trans this)
theorem take_n {M b r : List Nat} {ic st kd va : Int32} {ib : Nat → Int32} {p n : Nat} (hI : INT9 M ic ib) (hb : BL9 b) (hn : n < 1024) (h : M.drop p = b ++ (dgs n ++ r)) (hr : ∀ c s, r = c :: s → c < 48 ∨ 57 < c) : f_X1_take st (nI p) kd va 0 ic ib = some (va, nI (p + b.length), nI (p + b.length + (dgs n).length), 2, nI n) := by
  obtain ⟨h1, h2, h3⟩ := dgs_val n hn
  obtain ⟨c, w', hcw⟩ : ∃ c w', dgs n = c :: w' := by
    cases hh : dgs n with
    | nil => exact absurd hh h3
    | cons c w' => exact ⟨c, w', rfl⟩
  obtain ⟨q1, q2⟩ := h2 c (by rw [hcw]; exact List.mem_cons_self)
  obtain ⟨e1, e2⟩ := blank_w hI hb (c := c) (r := w' ++ r) (by rw [h, hcw]; rfl) (by omega) (by omega)
  have ha2 := at_c hI e2
  have e3 : M.drop (p + b.length) = dgs n ++ r := by rw [e2, hcw]; rfl
  have hrun := run_w (a := 48) (b := 57) hI rfl rfl (by decide) (by decide) hr e3 h3 h2
  have hv := num_w hI hn e3
  unfold f_X1_take
  rw [if_pos rfl, e1, Option.bind_some, ha2, Option.bind_some, if_neg (show ¬ nI c = -1 from fun z => absurd (show nI c < 0 by rw [z]; decide) (nI_pos (by omega))), if_pos (show nI c < 97 from nI_lt (b := 97) (by omega) (by decide)), if_neg (show ¬ nI c < 48 from nI_nlt (b := 48) (by omega) (by omega)), if_neg (show ¬ 57 < nI c from nI_nlt (a := 57) (by omega) (by decide)), show f_X0_endOfRun 600 ic ib (nI (p + b.length)) 48 57 = _ from hrun, Option.bind_some, hv, Option.bind_some]
theorem take_c {M r : List Nat} {ic st kd va : Int32} {ib : Nat → Int32} {p : Nat} (hI : INT9 M ic ib) (h : M.drop p = 59 :: r) : f_X1_take st (nI p) kd va 0 ic ib = some (va, nI p, nI (p + 1), 3, 59) := by
  obtain ⟨e1, e2⟩ := blank_w hI (Or.inl rfl : BL9 []) (c := 59) (r := r) h (by decide) (by decide)
  have ha2 := at_c hI h
  unfold f_X1_take
  rw [if_pos rfl, e1, Option.bind_some, show nI (p + ([] : List Nat).length) = nI p from rfl, ha2, Option.bind_some, if_neg (by decide), if_pos (by decide), if_neg (by decide), if_pos (by decide), nI_1]
  rfl
theorem take_e {M : List Nat} {ic st kd va : Int32} {ib : Nat → Int32} {p : Nat} (hI : INT9 M ic ib) (hp : p < 1000) (h : M.drop p = []) : f_X1_take st (nI p) kd va 0 ic ib = some (va, nI p, nI p, 0, 0) := by
  have hl := drop_nil h
  unfold f_X1_take f_X0_endOfBlanks
  rw [if_pos rfl, show (5000 : Nat) = 4999 + 1 from rfl, blankE hI (by omega) hl, Option.bind_some, Option.bind_some, at_e hI (by omega) hl, Option.bind_some, if_pos rfl]
