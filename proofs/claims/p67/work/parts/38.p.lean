/-! PURE: cheeses, time. -/
theorem any_cong {p q : Row → Bool} : ∀ {L : List Row}, (∀ w ∈ L, p w = q w) → L.any p = L.any q
  | [], _ => rfl
  | w :: L, h => by
    rw [List.any_cons, List.any_cons, h w List.mem_cons_self, any_cong (fun v hv => h v (List.mem_cons_of_mem _ hv))]
theorem sub_le {t o m : Nat} (ht : t < 10000) (ho : o < 4) (hm : m < 10000) : (nI t - nI o ≤ nI m) ↔ t ≤ m + o := by
  by_cases h : o ≤ t
  · rw [show nI t - nI o = nI (t - o) from pk_sub (a := t) (b := o) (by omega), nI_leI (by omega) (by omega)]
    omega
  · have h1 : ∀ t, t < 4 → ∀ o, o < 4 → t < o → nI t - nI o < 0 := by decide +kernel
    have h2 := h1 t (by omega) o ho (by omega)
    have h3 : (0 : Int32) ≤ nI m := nI_le (a := 0) (Nat.zero_le _) (by omega)
    exact ⟨fun _ => by omega, fun _ => Int32.le_of_lt (Int32.lt_of_lt_of_le h2 h3)⟩
theorem add0 (x : Int32) : x + 0 = x := by simp
theorem addUse_lt {r a b c d : Int32} {C : Nat → Int32} {L : List Row} {g : Row} (h : TB 4 C L) (hr : r = nI L.length) (hl : L.length < 30) (h0 : g 0 = a) (h1 : g 1 = b) (h2 : g 2 = c) (h3 : g 3 = d) : ∃ C', f_X9_addUse r C a b c d = some (nI (L ++ [g]).length, C') ∧ TB 4 C' (L ++ [g]) := by
  refine ⟨upd (upd (upd (upd C (L.length * 4 + 0) a) (L.length * 4 + 1) b) (L.length * 4 + 2) c) (L.length * 4 + 3) d, ?_, TB_add h (fun j hj => ?_) (fun j hj => ?_)⟩
  · subst hr
    unfold f_X9_addUse f_X6_isFull f_X6_addRow
    rw [if_pos (show nI L.length < 30 from nI_lt (b := 30) hl (by decide)), Option.bind_some, if_pos rfl, Option.bind_some]
    dsimp only
    rw [if_pos (show nI L.length < 30 from nI_lt (b := 30) hl (by decide)), Option.bind_some]
    dsimp only
    rw [nI_1, show nI (L.length + 1) - 1 = nI L.length from pk_sub (a := L.length + 1) (b := 1) (by omega)]
    have S : ∀ (C : Nat → Int32) (j : Nat) (cc x : Int32), cc = nI j → j < 4 → f_X6_set 120 4 (nI (L.length + 1)) C (nI L.length) cc x = some (upd C (L.length * 4 + j) x) := fun C j cc x hc hj => set_at rfl rfl rfl hc (by omega) hj (by omega) (by decide) (by omega)
    rw [S _ 0 0 _ rfl (by decide), Option.bind_some, S _ 1 1 _ rfl (by decide), Option.bind_some, S _ 2 2 _ rfl (by decide), Option.bind_some, S _ 3 3 _ rfl (by decide), Option.bind_some, List.length_append, List.length_singleton]
  · repeat rw [upd_ne9 (by omega)]
  · unfold upd
    match j, hj with
    | 0, _ => simp [h0]
    | 1, _ => simp [h1]
    | 2, _ => simp [h2]
    | 3, _ => simp [h3]
    | j + 4, h => omega
theorem addUse_tb {r a b c d : Int32} {C : Nat → Int32} {L : List Row} {g : Row} (h : TB 4 C L) (hr : r = nI L.length) (hl : L.length ≤ 30) (h0 : g 0 = a) (h1 : g 1 = b) (h2 : g 2 = c) (h3 : g 3 = d) : ∃ C', f_X9_addUse r C a b c d = some (nI (hCut (L ++ [g])).length, C') ∧ TB 4 C' (hCut (L ++ [g])) := by
  by_cases hk : L.length < 30
  · have e : hCut (L ++ [g]) = L ++ [g] := if_neg (by rw [List.length_append, List.length_singleton]; omega)
    rw [e]
    exact addUse_lt h hr hk h0 h1 h2 h3
  · have e : hCut (L ++ [g]) = L.eraseIdx 0 ++ [g] := by
      unfold hCut
      rw [if_pos (by rw [List.length_append, List.length_singleton]; omega)]
      cases L with
      | nil => exact absurd (show ([] : List Row).length < 30 by decide) hk
      | cons y L => rfl
    rw [e]
    obtain ⟨C1, g1, g2⟩ := rem_tb (N := 120) (w := 4) (r := r) (v := 0) (i := 0) h (by omega) rfl hr rfl (by decide) (by omega) (by decide) (by omega)
    have hl1 : (L.eraseIdx 0).length < 30 := by rw [List.length_eraseIdx_of_lt (by omega)]; omega
    obtain ⟨C', k1, k2⟩ := addUse_lt (g := g) g2 rfl hl1 h0 h1 h2 h3
    refine ⟨C', ?_, k2⟩
    rw [← k1]
    unfold f_X9_addUse
    have q1 : f_X6_isFull 120 30 r = some 1 := by
      unfold f_X6_isFull
      rw [hr, if_neg (show ¬ nI L.length < 30 from nI_nlt (b := 30) (by omega) (by omega))]
    have q2 : f_X6_isFull 120 30 (nI (L.eraseIdx 0).length) = some 0 := by
      unfold f_X6_isFull
      rw [if_pos (show nI (L.eraseIdx 0).length < 30 from nI_lt (b := 30) hl1 (by decide))]
    rw [q1, q2, Option.bind_some, Option.bind_some, if_neg (by decide), if_pos rfl, g1, Option.bind_some, Option.bind_some]
theorem cot_eq {l0 l1 h0 h1 h2 c : Int32} : (c - (l0 - 1 + l1)) - (h0 + 1 + h1 + h2) = (c - (l0 + l1)) - (h0 + h1 + h2) ∧ (c - (l0 + (l1 - 1))) - (h0 + 1 + h1 + h2) = (c - (l0 + l1)) - (h0 + h1 + h2) ∧ (c - (l0 - 1 + l1)) - (h0 + (h1 + 1) + h2) = (c - (l0 + l1)) - (h0 + h1 + h2) ∧ (c - (l0 + (l1 - 1))) - (h0 + (h1 + 1) + h2) = (c - (l0 + l1)) - (h0 + h1 + h2) ∧ (c - (l0 - 1 + l1)) - (h0 + h1 + (h2 + 1)) = (c - (l0 + l1)) - (h0 + h1 + h2) ∧ (c - (l0 + (l1 - 1))) - (h0 + h1 + (h2 + 1)) = (c - (l0 + l1)) - (h0 + h1 + h2) := by
  refine ⟨?_, ?_, ?_, ?_, ?_, ?_⟩ <;> grind
theorem cot_up {l hd : Nat → Int32} {c : Int32} {s u : Nat} (hs : s < 2) (hu : u < 3) (h : (c - (l 0 + l 1)) - (hd 0 + hd 1 + hd 2) = 0) : (c - (upd l s (l s - 1) 0 + upd l s (l s - 1) 1)) - (upd hd u (hd u + 1) 0 + upd hd u (hd u + 1) 1 + upd hd u (hd u + 1) 2) = 0 := by
  obtain ⟨c1, c2, c3, c4, c5, c6⟩ := @cot_eq (l 0) (l 1) (hd 0) (hd 1) (hd 2) c
  have e1 : s = 0 ∨ s = 1 := by omega
  have e2 : u = 0 ∨ u = 1 ∨ u = 2 := by omega
  rcases e1 with rfl | rfl <;> rcases e2 with rfl | rfl | rfl <;> simp only [upd] <;> simp <;> first | exact c1.trans h | exact c2.trans h | exact c3.trans h | exact c4.trans h | exact c5.trans h | exact c6.trans h
theorem CLS_gets {x x' : FX} {h : FH} {pw mk : Nat → Nat} {T E E' : List Row} {a u s : Nat} (hu : u < 3) (hs : s < 2) (hC : CLS x h pw mk T E) (e1 : FX.s_time x' = FX.s_time x) (e2 : FX.s_tolerance x' = FX.s_tolerance x) (e3 : FX.s_seed x' = FX.s_seed x) (e4 : FX.s_madeTickets x' = FX.s_madeTickets x) (e6 : FX.s_R_rows x' = FX.s_R_rows x) (e7 : FX.s_R_cells x' = FX.s_R_cells x) (e8 : FX.s_U_rows x' = FX.s_U_rows x) (e9 : FX.s_U_cells x' = upd (FX.s_U_cells x) (u * 5 + 4) (FH.had h u + 1)) (e10 : FX.s_S_rows x' = FX.s_S_rows x) (e11 : FX.s_S_cells x' = upd (FX.s_S_cells x) (s * 3 + 2) (FH.left h s - 1)) (e12 : FX.s_T_rows x' = FX.s_T_rows x) (e13 : FX.s_T_cells x' = FX.s_T_cells x) (e14 : FX.s_E_rows x' = nI E'.length) (e15 : TB 4 (FX.s_E_cells x') E') (ha : a < 8) (e16 : FX.nextPast x' = nI a) : CLS x' (FH.tol h, FH.life h, FH.again h, FH.fast h, FH.home h, FH.own h, upd (FH.had h) u (FH.had h u + 1), FH.place h, upd (FH.left h) s (FH.left h s - 1), FH.seed h, FH.time h, FH.next h) pw mk T E' := by
  obtain ⟨⟨htm, htol, hsd, hmd⟩, ⟨hRr, hR, hMk⟩, ⟨hUr, hU⟩, ⟨hSr, hS⟩, ⟨hTr, hTT⟩, -⟩ := hC
  refine ⟨⟨e1.trans htm, e2.trans htol, e3.trans hsd, e4.trans hmd⟩, ⟨e6.trans hRr, by rw [e7]; exact hR, by rw [e7]; exact hMk⟩, ⟨e8.trans hUr, ?_⟩, ⟨e10.trans hSr, ?_⟩, ⟨e12.trans hTr, by rw [e13]; exact hTT⟩, ⟨e14, e15⟩, a, ha, e16⟩
  · intro i hi
    obtain ⟨u1, u2, u3, u4⟩ := hU i hi
    rw [e9]
    refine ⟨by rw [upd_ne9 (by omega)]; exact u1, by rw [upd_ne9 (by omega)]; exact u2, by rw [upd_ne9 (by omega)]; exact u3, ?_⟩
    show _ = upd (FH.had h) u (FH.had h u + 1) i
    by_cases he : i = u
    · subst he
      rw [upd_eq9, upd_eq9]
    · rw [upd_ne9 (by omega), upd_ne9 he]
      exact u4
  · intro i hi
    obtain ⟨v1, v2⟩ := hS i hi
    rw [e11]
    refine ⟨by rw [upd_ne9 (by omega)]; exact v1, ?_⟩
    show _ = upd (FH.left h) s (FH.left h s - 1) i
    by_cases he : i = s
    · subst he
      rw [upd_eq9, upd_eq9]
    · rw [upd_ne9 (by omega), upd_ne9 he]
      exact v2
theorem CLS_time {x x' : FX} {h : FH} {pw mk : Nat → Nat} {T E E' : List Row} {a : Nat} {t' : Int32} (hC : CLS x h pw mk T E) (e1 : FX.s_time x' = t') (e2 : FX.s_tolerance x' = FX.s_tolerance x) (e3 : FX.s_seed x' = FX.s_seed x) (e4 : FX.s_madeTickets x' = FX.s_madeTickets x) (e6 : FX.s_R_rows x' = FX.s_R_rows x) (e7 : FX.s_R_cells x' = FX.s_R_cells x) (e8 : FX.s_U_rows x' = FX.s_U_rows x) (e9 : FX.s_U_cells x' = FX.s_U_cells x) (e10 : FX.s_S_rows x' = FX.s_S_rows x) (e11 : FX.s_S_cells x' = FX.s_S_cells x) (e12 : FX.s_T_rows x' = FX.s_T_rows x) (e13 : FX.s_T_cells x' = FX.s_T_cells x) (e14 : FX.s_E_rows x' = nI E'.length) (e15 : TB 4 (FX.s_E_cells x') E') (ha : a < 8) (e16 : FX.nextPast x' = nI a) : CLS x' (FH.tol h, FH.life h, FH.again h, FH.fast h, FH.home h, FH.own h, FH.had h, FH.place h, FH.left h, FH.seed h, t', FH.next h) pw mk T E' := by
  obtain ⟨⟨htm, htol, hsd, hmd⟩, ⟨hRr, hR, hMk⟩, ⟨hUr, hU⟩, ⟨hSr, hS⟩, ⟨hTr, hTT⟩, -⟩ := hC
  exact ⟨⟨e1, e2.trans htol, e3.trans hsd, e4.trans hmd⟩, ⟨e6.trans hRr, by rw [e7]; exact hR, by rw [e7]; exact hMk⟩, ⟨e8.trans hUr, by rw [e9]; exact hU⟩, ⟨e10.trans hSr, by rw [e11]; exact hS⟩, ⟨e12.trans hTr, by rw [e13]; exact hTT⟩, ⟨e14, e15⟩, a, ha, e16⟩
theorem act_cheese {tb mb : Nat} {pw mk : Nat → Nat} {x : FX} {h : FH} {T E : List Row} {i : Nat} {g : Row} {tk : Int32} (hG : GD tb mb pw mk x h T E) (htb : tb ≤ 2000 ∧ mb ≤ 2000) (hg : T[i]? = some g) (htk : tk = g 0) : ∃ x', aR_cheese x tk (hCheese h T E g).1 x' ∧ GD tb (mb + 1) pw mk x' (hCheese h T E g).2.1 (hCheese h T E g).2.2.1 (hCheese h T E g).2.2.2 := by
  obtain ⟨hC, hH⟩ := id hG
  obtain ⟨⟨htm, htol, hsd, hmd⟩, ⟨hRr, hR, hMk⟩, ⟨hUr, hU⟩, ⟨hSr, hS⟩, ⟨hTr, hTT⟩, ⟨hEr, hEE⟩, a, ha, hnp⟩ := id hC
  obtain ⟨⟨t, o, ht, htt, ho, hto, hE⟩, ⟨mm, hmm, hnx, hTo⟩, hP, hTl, hEl, hA, hB, hcc⟩ := id hH
  obtain ⟨h0, ⟨u, hu, h2⟩, ⟨r, hr, h3⟩, h14, -, h9⟩ := hTo g (List.mem_of_getElem? hg)
  have hrow := row_of hTT hP hg hTr htk hTl
  have h2c : (g 2).toNatClampNeg = u := by rw [h2]; exact nI_clamp (by omega)
  obtain ⟨u1, u2, u3, u4⟩ := hU u hu
  have G : ∀ j, j < 10 → ∀ cc, cc = nI j → f_X6_get 240 10 (FX.s_T_rows x) (FX.s_T_cells x) (nI i) cc = some (g j) := fun j hj cc hc => get_tb hTT hg rfl hTr rfl hc hj (by omega) (by decide) (by omega)
  have hbad : ∀ w : Int32, w ≠ 0 → f_X5_whyNoCheese (FX.s_time x) (FX.s_tolerance x) (FX.s_R_rows x) (FX.s_R_cells x) (FX.s_U_rows x) (FX.s_U_cells x) (FX.s_S_rows x) (FX.s_S_cells x) (FX.s_T_rows x) (FX.s_T_cells x) (FX.s_E_rows x) (FX.s_E_cells x) (nI i) 0 = some w → hGets h E g = (-9, h, E) → ∃ x', aR_cheese x tk (hCheese h T E g).1 x' ∧ GD tb (mb + 1) pw mk x' (hCheese h T E g).2.1 (hCheese h T E g).2.2.1 (hCheese h T E g).2.2.2 := by
    intro w hw hwhy e
    have e2 : hCheese h T E g = (-9, h, T, E) := by
      unfold hCheese
      rw [e]
    rw [e2]
    refine ⟨x, ⟨(3, 0, FX.nextPast x, FX.pastCount x, FX.s_U_cells x, FX.s_S_cells x, FX.s_E_rows x, FX.s_E_cells x, FX.pa x), ?_, Or.inr ⟨rfl, rfl⟩, rfl⟩, hG.mono (Nat.le_refl _) (Nat.le_succ _)⟩
    unfold f_X11_cheese
    rw [hrow, Option.bind_some, if_pos rfl, hwhy, Option.bind_some, chkA hw, Option.bind_some, if_neg (by decide)]
  by_cases h1 : g 1 = 1
  · obtain ⟨s, hs, h4⟩ : ∃ s, s < 2 ∧ g 4 = nI s := by
      rcases h14 with ⟨q, -⟩ | ⟨-, q⟩
      · rw [q] at h1; exact absurd h1 (by decide)
      · exact q
    have h4c : (g 4).toNatClampNeg = s := by rw [h4]; exact nI_clamp (by omega)
    obtain ⟨v1, v2⟩ := hS s hs
    have hany : E.any (known (g 2) (g 4) (FX.s_time x + 0 + FH.own h u) (FX.s_time x + 0 - FX.s_tolerance x)) = E.any (hits h g) := by
      refine any_cong (fun w hw => ?_)
      obtain ⟨m, hm, hmt, hto2⟩ := hE w hw
      unfold known hits
      rw [add0, htm, htol, h2c, show decide (FH.time h - FH.tol h ≤ w 3) = true from decide_eq_true (by rw [htt, hto, hm]; exact (sub_le (by omega) ho (by omega)).mpr hto2), Bool.and_true]
    have hwhy : f_X5_whyNoCheese (FX.s_time x) (FX.s_tolerance x) (FX.s_R_rows x) (FX.s_R_cells x) (FX.s_U_rows x) (FX.s_U_cells x) (FX.s_S_rows x) (FX.s_S_cells x) (FX.s_T_rows x) (FX.s_T_cells x) (FX.s_E_rows x) (FX.s_E_cells x) (nI i) 0 = some (if live (FH.time h) g = true then (if hSk h (g 2) (g 3) = true then 3 else (if E.any (hits h g) = true then 4 else (if FH.left h s = 0 then 5 else 0))) else 2) := by
      unfold f_X5_whyNoCheese
      rw [G 2 (by decide) 2 rfl, Option.bind_some, G 4 (by decide) 4 rfl, Option.bind_some, G 1 (by decide) 1 rfl, Option.bind_some, if_pos h1, isAlive_tb hTT hg hTr rfl hTl, Option.bind_some, show live (FX.s_time x + 0) g = live (FH.time h) g by rw [add0, htm]]
      by_cases hv : live (FH.time h) g = true
      · rw [if_pos hv, if_neg (by decide), if_pos hv, hRr, hUr, isSk_eq hC hg hu hr h2 h3 hTl, Option.bind_some]
        by_cases hsk : hSk h (g 2) (g 3) = true
        · rw [if_pos hsk, if_neg (by decide), if_pos hsk]
        · rw [if_neg hsk, if_pos rfl, if_neg hsk, get_U (v := g 2) (c := 3) (j := 3) h2 rfl hu (by decide), Option.bind_some, u3, knows_tb hEE hEr hEl, Option.bind_some, hany]
          by_cases hk : E.any (hits h g) = true
          · rw [if_pos hk, if_neg (by decide), if_pos hk]
          · rw [if_neg hk, if_pos rfl, if_neg hk, hSr, get_S (v := g 4) (c := 2) (j := 2) h4 rfl hs (by decide), Option.bind_some, v2]
            by_cases hl : FH.left h s = 0
            · rw [if_pos hl, if_pos hl]
            · rw [if_neg hl, if_neg hl]
      · rw [if_neg hv, if_pos rfl, if_neg hv]
    by_cases hv : live (FH.time h) g = true
    · have hal : ¬ g 6 ≤ FH.time h := by
        unfold live at hv
        exact Int32.not_le.mpr (of_decide_eq_true hv)
      rw [if_pos hv] at hwhy
      by_cases hsk : hSk h (g 2) (g 3) = true
      · rw [if_pos hsk] at hwhy
        exact hbad 3 (by decide) hwhy (if_pos (Or.inr (Or.inr hsk)))
      · rw [if_neg hsk] at hwhy
        have hn1 : ¬ (g 1 ≠ 1 ∨ g 6 ≤ FH.time h ∨ hSk h (g 2) (g 3) = true) := fun q => q.elim (fun q => q h1) (fun q => q.elim hal hsk)
        by_cases hk : E.any (hits h g) = true
        · rw [if_pos hk] at hwhy
          exact hbad 4 (by decide) hwhy (by unfold hGets; rw [if_neg hn1, if_pos hk])
        · rw [if_neg hk] at hwhy
          by_cases hl : FH.left h s = 0
          · rw [if_pos hl] at hwhy
            exact hbad 5 (by decide) hwhy (by unfold hGets; rw [if_neg hn1, if_neg hk, h4c, if_pos hl])
          · rw [if_neg hl] at hwhy
            have e : hGets h E g = (FH.had h u + 1, (FH.tol h, FH.life h, FH.again h, FH.fast h, FH.home h, FH.own h, upd (FH.had h) u (FH.had h u + 1), FH.place h, upd (FH.left h) s (FH.left h s - 1), FH.seed h, FH.time h, FH.next h), hCut (E ++ [useRow h g])) := by
              unfold hGets
              rw [if_neg hn1, if_neg hk, h4c, if_neg hl, h2c]
            have e2 : hCheese h T E g = (FH.had h u + 1, (FH.tol h, FH.life h, FH.again h, FH.fast h, FH.home h, FH.own h, upd (FH.had h) u (FH.had h u + 1), FH.place h, upd (FH.left h) s (FH.left h s - 1), FH.seed h, FH.time h, FH.next h), T, hCut (E ++ [useRow h g])) := by
              unfold hCheese
              rw [e]
            rw [e2]
            obtain ⟨C', k1, k2⟩ := addUse_tb (a := g 2) (b := g 4) (c := FX.s_time x + FH.own h u) (d := FX.s_time x) (g := useRow h g) hEE hEr hEl (by unfold useRow upd; simp) (by unfold useRow upd; simp) (by unfold useRow upd; simp [htm, h2c]) (by unfold useRow upd; simp [htm])
            obtain ⟨pc', pa', hrem⟩ := remember_eq (pc := FX.pastCount x) (s1 := FX.s_time x) (s2 := FX.s_tolerance x) (s3 := FX.s_seed x) (s4 := FX.s_madeTickets x) (s5 := FX.s_cheesesOfText x) (s6 := FX.s_R_rows x) (c6 := FX.s_R_cells x) (s7 := FX.s_U_rows x) (c7 := FX.s_U_cells x) (s8 := FX.s_S_rows x) (c8 := FX.s_S_cells x) (s9 := FX.s_T_rows x) (c9 := FX.s_T_cells x) (s0 := FX.s_E_rows x) (c0 := FX.s_E_cells x) (pa := FX.pa x) ha hnp
            have hgv : f_X5_giveCheese (FX.s_time x) (FX.s_U_rows x) (FX.s_U_cells x) (FX.s_S_rows x) (FX.s_S_cells x) (FX.s_T_rows x) (FX.s_T_cells x) (FX.s_E_rows x) (FX.s_E_cells x) (nI i) = some (FH.had h u + 1, upd (FX.s_U_cells x) (u * 5 + 4) (FH.had h u + 1), upd (FX.s_S_cells x) (s * 3 + 2) (FH.left h s - 1), nI (hCut (E ++ [useRow h g])).length, C') := by
              unfold f_X5_giveCheese
              rw [G 2 (by decide) 2 rfl, Option.bind_some, G 4 (by decide) 4 rfl, Option.bind_some, hUr, get_U (v := g 2) (c := 4) (j := 4) h2 rfl hu (by decide), Option.bind_some, get_U (v := g 2) (c := 3) (j := 3) h2 rfl hu (by decide), Option.bind_some, u4, u3, k1, Option.bind_some, hSr, get_S (v := g 4) (c := 2) (j := 2) h4 rfl hs (by decide), Option.bind_some, v2, set_at (N := 18) (w := 3) (r := 2) (v := g 4) (c := 2) (n := 2) (i := s) (j := 2) rfl rfl h4 rfl hs (by decide) (by decide) (by decide) (by decide), Option.bind_some, set_at (N := 30) (w := 5) (r := 3) (v := g 2) (c := 4) (n := 3) (i := u) (j := 4) rfl rfl h2 rfl hu (by decide) (by decide) (by decide) (by decide), Option.bind_some]
            refine ⟨_, ⟨(0, FH.had h u + 1, nI ((a + 1) % 8), pc', upd (FX.s_U_cells x) (u * 5 + 4) (FH.had h u + 1), upd (FX.s_S_cells x) (s * 3 + 2) (FH.left h s - 1), nI (hCut (E ++ [useRow h g])).length, C', pa'), ?_, Or.inl ⟨rfl, rfl⟩, rfl⟩, CLS_gets (a := (a + 1) % 8) hu hs hC rfl rfl rfl rfl rfl rfl rfl rfl rfl rfl rfl rfl rfl k2 (next_lt a) rfl, ⟨t, o, ht, htt, ho, hto, ?_⟩, ⟨mm, by omega, hnx, hTo⟩, hP, hTl, ?_, hA, hB, cot_up hs hu hcc⟩
            · unfold f_X11_cheese
              rw [hrow, Option.bind_some, if_pos rfl, hwhy, Option.bind_some, chkA0, Option.bind_some, if_pos rfl, hrem, Option.bind_some, if_pos rfl, hgv]
              rfl
            · intro w hw
              have hw2 : w ∈ E ++ [useRow h g] := by
                unfold hCut at hw
                split at hw
                · exact (List.eraseIdx_sublist _ _).subset hw
                · exact hw
              rcases List.mem_append.mp hw2 with hw3 | hw3
              · exact hE w hw3
              · obtain rfl := List.mem_singleton.mp hw3
                exact ⟨t, by rw [← htt]; unfold useRow upd; simp, Nat.le_refl _, by omega⟩
            · unfold hCut
              split
              · rw [List.length_eraseIdx_of_lt (by rw [List.length_append, List.length_singleton]; omega), List.length_append, List.length_singleton]
                omega
              · rw [List.length_append, List.length_singleton] at *
                omega
    · rw [if_neg hv] at hwhy
      refine hbad 2 (by decide) hwhy (if_pos (Or.inr (Or.inl ?_)))
      unfold live at hv
      exact Int32.not_lt.mp (by simpa using hv)
  · refine hbad 1 (by decide) ?_ (if_pos (Or.inl h1))
    unfold f_X5_whyNoCheese
    rw [G 2 (by decide) 2 rfl, Option.bind_some, G 4 (by decide) 4 rfl, Option.bind_some, G 1 (by decide) 1 rfl, Option.bind_some, if_neg h1]
theorem act_pass {tb mb d n : Nat} {pw mk : Nat → Nat} {x : FX} {h : FH} {T E : List Row} (hG : GD tb mb pw mk x h T E) (htb : tb ≤ 2000 ∧ mb ≤ 2000) (hd : n / 32 / 16 % (if n % 32 < 30 then 4 else 40) = d) (hd2 : d < 40) : ∃ x', aR_pass x (1 + nI (n / 32 / 16 % (if n % 32 < 30 then 4 else 40))) (hPass h T E n).1 x' ∧ GD (tb + 40) (mb + 1) pw mk x' (hPass h T E n).2.1 (hPass h T E n).2.2.1 (hPass h T E n).2.2.2 := by
  unfold hPass
  rw [hd]
  obtain ⟨hC, hH⟩ := id hG
  obtain ⟨⟨htm, htol, hsd, hmd⟩, ⟨hRr, hR, hMk⟩, ⟨hUr, hU⟩, ⟨hSr, hS⟩, ⟨hTr, hTT⟩, ⟨hEr, hEE⟩, a, ha, hnp⟩ := id hC
  obtain ⟨⟨t, o, ht, htt, ho, hto, hE⟩, ⟨mm, hmm, hnx, hTo⟩, hP, hTl, hEl, hA, hB, hcc⟩ := id hH
  have h1d : (1 : Int32) + nI d = nI (1 + d) := nI_add 1 d
  have hst : FX.s_time x + (1 + nI d) = FH.time h + (1 + nI d) := by rw [htm]
  have htn : FH.time h + (1 + nI d) = nI (t + (1 + d)) := by rw [htt, h1d, nI_add]
  obtain ⟨C', f1, f2⟩ := forget_tb (b := FX.s_time x + (1 + nI d) - FX.s_tolerance x) hEE hEr hEl
  have hfe : E.filter (young (FX.s_time x + (1 + nI d) - FX.s_tolerance x)) = E.filter (fresh h (FH.time h + (1 + nI d))) := by
    refine List.filter_congr (fun w hw => ?_)
    obtain ⟨m, hm, hmt, hto2⟩ := hE w hw
    unfold young fresh
    rw [hst, htn, htol, hto, hm]
    by_cases hq : t + (1 + d) ≤ m + o
    · rw [decide_eq_true ((sub_le (by omega) ho (by omega)).mpr hq), decide_eq_true (by rw [show nI (t + (1 + d)) - nI m = nI (t + (1 + d) - m) from pk_sub (a := t + (1 + d)) (b := m) (by omega)]; exact nI_le (by omega) (by omega))]
    · rw [decide_eq_false (fun q => hq ((sub_le (by omega) ho (by omega)).mp q)), decide_eq_false (by rw [show nI (t + (1 + d)) - nI m = nI (t + (1 + d) - m) from pk_sub (a := t + (1 + d)) (b := m) (by omega)]; exact nI_ge (by omega) (by omega))]
  rw [hfe] at f1 f2
  obtain ⟨pc', pa', hrem⟩ := remember_eq (pc := FX.pastCount x) (s1 := FX.s_time x) (s2 := FX.s_tolerance x) (s3 := FX.s_seed x) (s4 := FX.s_madeTickets x) (s5 := FX.s_cheesesOfText x) (s6 := FX.s_R_rows x) (c6 := FX.s_R_cells x) (s7 := FX.s_U_rows x) (c7 := FX.s_U_cells x) (s8 := FX.s_S_rows x) (c8 := FX.s_S_cells x) (s9 := FX.s_T_rows x) (c9 := FX.s_T_cells x) (s0 := FX.s_E_rows x) (c0 := FX.s_E_cells x) (pa := FX.pa x) ha hnp
  have hva : ∀ t', f_X11_validTickets t' (FX.s_T_rows x) (FX.s_T_cells x) = some (nI (T.countP (live t'))) := fun t' => by
    unfold f_X11_validTickets
    rw [alive_tb hTT hTr hTl, Option.bind_some]
  refine ⟨_, ⟨(0, nI (T.countP (live (FH.time h))) - nI (T.countP (live (FH.time h + (1 + nI d)))), nI ((a + 1) % 8), pc', FH.time h + (1 + nI d), nI (E.filter (fresh h (FH.time h + (1 + nI d)))).length, C', pa'), ?_, Or.inl ⟨rfl, rfl⟩, rfl⟩, CLS_time (a := (a + 1) % 8) hC rfl rfl rfl rfl rfl rfl rfl rfl rfl rfl rfl rfl rfl f2 (next_lt a) rfl, ⟨t + (1 + d), o, by omega, htn, ho, hto, ?_⟩, ⟨mm, by omega, hnx, hTo⟩, hP, hTl, Nat.le_trans (List.length_filter_le _ _) hEl, hA, hB, hcc⟩
  · unfold f_X11_pass f_X5_letPass
    rw [h1d, if_neg (show ¬ nI (1 + d) < 1 from nI_nlt (a := 1 + d) (b := 1) (by omega) (by omega)), if_pos (show nI (1 + d) ≤ 999 from nI_le (a := 1 + d) (b := 999) (by omega) (by decide)), hrem, Option.bind_some, if_pos rfl, hva, Option.bind_some, ← h1d, f1, Option.bind_some, Option.bind_some]
    dsimp only
    rw [hva, Option.bind_some, htm]
  · intro w hw
    obtain ⟨hw1, hw2⟩ := List.mem_filter.mp hw
    obtain ⟨m, hm, hmt, hto2⟩ := hE w hw1
    refine ⟨m, hm, by omega, ?_⟩
    unfold fresh at hw2
    have hw3 := of_decide_eq_true hw2
    rw [htn, hto, hm, show nI (t + (1 + d)) - nI m = nI (t + (1 + d) - m) from pk_sub (a := t + (1 + d)) (b := m) (by omega), nI_leI (by omega) (by omega)] at hw3
    omega
