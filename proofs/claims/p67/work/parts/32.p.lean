/-! PURE: a new ticket. -/
/-- the cells behind a new row -/
def newC (C : Nat → Int32) (k : Nat) (a0 a1 a2 a3 a4 a5 a6 a7 a8 a9 : Int32) : Nat → Int32 := upd (upd (upd (upd (upd (upd (upd (upd (upd (upd C (k * 10 + 0) a0) (k * 10 + 1) a1) (k * 10 + 2) a2) (k * 10 + 3) a3) (k * 10 + 4) a4) (k * 10 + 5) a5) (k * 10 + 8) a8) (k * 10 + 6) a6) (k * 10 + 7) a7) (k * 10 + 9) a9
theorem upd_ne9 {f : Nat → Int32} {k j : Nat} {v : Int32} (h : j ≠ k) : upd f k v j = f j := if_neg h
theorem upd_eq9 {f : Nat → Int32} {k : Nat} {v : Int32} : upd f k v k = v := if_pos rfl
theorem TB_new {C : Nat → Int32} {L : List Row} {g : Row} {a0 a1 a2 a3 a4 a5 a6 a7 a8 a9 : Int32} (h : TB 10 C L) (h0 : g 0 = a0) (h1 : g 1 = a1) (h2 : g 2 = a2) (h3 : g 3 = a3) (h4 : g 4 = a4) (h5 : g 5 = a5) (h6 : g 6 = a6) (h7 : g 7 = a7) (h8 : g 8 = a8) (h9 : g 9 = a9) : TB 10 (newC C L.length a0 a1 a2 a3 a4 a5 a6 a7 a8 a9) (L ++ [g]) := by
  refine TB_add h (fun j hj => ?_) (fun c hc => ?_)
  · unfold newC
    repeat rw [upd_ne9 (by omega)]
  · unfold newC upd
    match c, hc with
    | 0, _ => simp [h0]
    | 1, _ => simp [h1]
    | 2, _ => simp [h2]
    | 3, _ => simp [h3]
    | 4, _ => simp [h4]
    | 5, _ => simp [h5]
    | 6, _ => simp [h6]
    | 7, _ => simp [h7]
    | 8, _ => simp [h8]
    | 9, _ => simp [h9]
    | c + 10, h => omega
theorem set_T {r v c x : Int32} {C : Nat → Int32} {n i j : Nat} (hr : r = nI n) (hv : v = nI i) (hc : c = nI j) (hi : i < n) (hj : j < 10) (hn : n ≤ 24) : f_X6_set 240 10 r C v c x = some (upd C (i * 10 + j) x) := set_at rfl hr hv hc hi hj (by omega) (by decide) (by omega)
theorem get_T {r v c : Int32} {C : Nat → Int32} {n i j : Nat} (hr : r = nI n) (hv : v = nI i) (hc : c = nI j) (hi : i < n) (hj : j < 10) (hn : n ≤ 24) : f_X6_get 240 10 r C v c = some (C (i * 10 + j)) := get_at rfl hr hv hc hi hj (by omega) (by decide) (by omega)
/-- the cells behind makeTicket -/
def mkC (C : Nat → Int32) (k : Nat) (a0 a1 a2 a3 a4 a5 a8 : Int32) : Nat → Int32 := upd (upd (upd (upd (upd (upd (upd C (k * 10 + 0) a0) (k * 10 + 1) a1) (k * 10 + 2) a2) (k * 10 + 3) a3) (k * 10 + 4) a4) (k * 10 + 5) a5) (k * 10 + 8) a8
theorem make_eq {tm seed made r ow re sv : Int32} {C : Nat → Int32} {k : Nat} (hr : r = nI k) (hk : k < 24) : f_X5_makeTicket tm seed made r C ow re sv = some (nI k, irm (21 * seed + 7) 1024, made + 1, nI (k + 1), mkC C k made (if sv = -1 then 0 else 1) ow re sv tm (irm (21 * seed + 7) 1024)) := by
  subst hr
  unfold f_X5_makeTicket f_X6_addRow f_X5_drawKey
  rw [if_pos (show nI k < 24 from nI_lt hk (by decide)), Option.bind_some]
  dsimp only
  rw [nI_1, show nI (k + 1) - 1 = nI k from pk_sub (a := k + 1) (b := 1) (by omega)]
  have S : ∀ (C : Nat → Int32) (j : Nat) (c x : Int32), c = nI j → j < 10 → f_X6_set 240 10 (nI (k + 1)) C (nI k) c x = some (upd C (k * 10 + j) x) := fun C j c x hc hj => set_T rfl rfl hc (by omega) hj (by omega)
  rw [S _ 0 0 _ rfl (by decide), Option.bind_some]
  have hj : (if sv = (-1) then (some (0 : Int32)) else (some (1))) = some (if sv = -1 then 0 else 1) := by split <;> rfl
  rw [hj, Option.bind_some, S _ 1 1 _ rfl (by decide), Option.bind_some, S _ 2 2 _ rfl (by decide), Option.bind_some, S _ 3 3 _ rfl (by decide), Option.bind_some, S _ 4 4 _ rfl (by decide), Option.bind_some, S _ 5 5 _ rfl (by decide), Option.bind_some, Option.bind_some, S _ 8 8 _ rfl (by decide), Option.bind_some]
  rfl
/-- a realm's numbers -/
def RLM3 (R : Nat → Int32) (h : FH) : Prop := ∀ i, i < 3 → R (i * 5 + 1) = FH.life h i ∧ R (i * 5 + 2) = FH.again h i ∧ R (i * 5 + 3) = FH.fast h i
theorem get_R {v c : Int32} {R : Nat → Int32} {i j : Nat} (hv : v = nI i) (hc : c = nI j) (hi : i < 3) (hj : j < 5) : f_X6_get 25 5 3 R v c = some (R (i * 5 + j)) := get_at (n := 3) rfl rfl hv hc hi hj (by decide) (by decide) (by decide)
theorem get_U {v c : Int32} {R : Nat → Int32} {i j : Nat} (hv : v = nI i) (hc : c = nI j) (hi : i < 3) (hj : j < 5) : f_X6_get 30 5 3 R v c = some (R (i * 5 + j)) := get_at (n := 3) rfl rfl hv hc hi hj (by decide) (by decide) (by decide)
theorem get_S {v c : Int32} {R : Nat → Int32} {i j : Nat} (hv : v = nI i) (hc : c = nI j) (hi : i < 2) (hj : j < 3) : f_X6_get 18 3 2 R v c = some (R (i * 3 + j)) := get_at (n := 2) rfl rfl hv hc hi hj (by decide) (by decide) (by decide)
theorem imax_comm (x y : Int32) : imax x y = imax y x := by
  unfold imax
  by_cases h1 : x < y
  · rw [if_pos h1, if_neg (Int32.not_lt.mpr (Int32.le_of_lt h1))]
  · by_cases h2 : y < x
    · rw [if_neg h1, if_pos h2]
    · rw [if_neg h1, if_neg h2]
      exact Int32.le_antisymm (Int32.not_lt.mp h2) (Int32.not_lt.mp h1)
theorem imin_top9 (x : Int32) : imin x 2147483647 = x := by
  unfold imin
  split
  · rename_i h
    have h1 := Int32.lt_iff_toInt_lt.mp h
    have h2 := Int32.toInt_lt x
    have h3 : (2147483647 : Int32).toInt = 2147483647 := by decide
    exact absurd h1 (by rw [h3]; omega)
  · rfl
theorem life_eq {tm r v rn me ml : Int32} {R C : Nat → Int32} {h : FH} {k m : Nat} (hR : RLM3 R h) (hr : r = nI (k + 1)) (hv : v = nI k) (hk : k < 24) (hm : m < 3) (h3 : C (k * 10 + 3) = nI m) (hrn : rn = 0 ∨ rn = 1) : f_X5_setLife tm 3 R r C v rn me ml = some (upd (upd (upd C (k * 10 + 6) (imin (tm + FH.life h m) me)) (k * 10 + 7) (if rn = 1 then imax (imin (tm + FH.life h m) me) (imin (tm + FH.again h m) ml) else imin (tm + FH.life h m) me)) (k * 10 + 9) rn) := by
  obtain ⟨r1, r2, -⟩ := hR m hm
  unfold f_X5_setLife
  rw [get_T (c := 3) (j := 3) hr hv rfl (by omega) (by decide) (by omega), Option.bind_some, h3, get_R (c := 1) (j := 1) rfl rfl hm (by decide), Option.bind_some, get_R (c := 2) (j := 2) rfl rfl hm (by decide), Option.bind_some, r1, r2, set_T (c := 6) (j := 6) hr hv rfl (by omega) (by decide) (by omega), Option.bind_some]
  rcases hrn with rfl | rfl
  · rw [if_neg (show ¬ (0 : Int32) = 1 by decide), if_pos (show (0 : Int32) = 0 from rfl), Option.bind_some, set_T (c := 7) (j := 7) hr hv rfl (by omega) (by decide) (by omega), Option.bind_some, if_pos (show (0 : Int32) = 0 from rfl), set_T (c := 9) (j := 9) hr hv rfl (by omega) (by decide) (by omega), Option.bind_some]
  · rw [if_neg (show ¬ (1 : Int32) = 0 by decide), Option.bind_some, set_T (c := 7) (j := 7) hr hv rfl (by omega) (by decide) (by omega), Option.bind_some, if_neg (show ¬ (1 : Int32) = 0 by decide), set_T (c := 9) (j := 9) hr hv rfl (by omega) (by decide) (by omega), Option.bind_some, if_pos (show (1 : Int32) = 1 from rfl)]
theorem mkC_3 {C : Nat → Int32} {k : Nat} {a0 a1 a2 a3 a4 a5 a8 : Int32} : mkC C k a0 a1 a2 a3 a4 a5 a8 (k * 10 + 3) = a3 := by
  unfold mkC upd
  simp
theorem new_of {C : Nat → Int32} {k : Nat} {a0 a1 a2 a3 a4 a5 a6 a7 a8 a9 : Int32} : upd (upd (upd (mkC C k a0 a1 a2 a3 a4 a5 a8) (k * 10 + 6) a6) (k * 10 + 7) a7) (k * 10 + 9) a9 = newC C k a0 a1 a2 a3 a4 a5 a6 a7 a8 a9 := rfl
theorem newC_0 {C : Nat → Int32} {k : Nat} {a0 a1 a2 a3 a4 a5 a6 a7 a8 a9 : Int32} : newC C k a0 a1 a2 a3 a4 a5 a6 a7 a8 a9 (k * 10 + 0) = a0 := by
  unfold newC upd
  simp
/-- a row of the Hand, cell by cell -/
theorem mkRow_at {h : FH} {ow re sv en la rn : Int32} : mkRow h ow re sv en la rn 0 = FH.next h ∧ mkRow h ow re sv en la rn 1 = (if 0 ≤ sv then 1 else 0) ∧ mkRow h ow re sv en la rn 2 = ow ∧ mkRow h ow re sv en la rn 3 = re ∧ mkRow h ow re sv en la rn 4 = sv ∧ mkRow h ow re sv en la rn 5 = FH.time h ∧ mkRow h ow re sv en la rn 6 = en ∧ mkRow h ow re sv en la rn 7 = (if rn = 1 then imax la en else en) ∧ mkRow h ow re sv en la rn 8 = hSeed h ∧ mkRow h ow re sv en la rn 9 = rn := by
  unfold mkRow upd
  simp
