/-! PURE: requests. -/
theorem act_request {tb mb : Nat} {pw mk : Nat → Nat} {x : FX} {h : FH} {T E : List Row} {i z : Nat} {g : Row} {tk : Int32} (hG : GD tb mb pw mk x h T E) (htb : tb ≤ 2000 ∧ mb ≤ 2000) (hg : T[i]? = some g) (htk : tk = g 0) : ∃ x', aR_request x tk (nI (z % 2)) (hRequest h T E g z).1 x' ∧ GD tb (mb + 1) pw mk x' (hRequest h T E g z).2.1 (hRequest h T E g z).2.2.1 (hRequest h T E g z).2.2.2 := by
  obtain ⟨hC, hH⟩ := id hG
  obtain ⟨⟨htm, htol, hsd, hmd⟩, ⟨hRr, hR, hMk⟩, ⟨hUr, hU⟩, ⟨hSr, hS⟩, ⟨hTr, hTT⟩, ⟨hEr, hEE⟩, a, ha, hnp⟩ := id hC
  obtain ⟨-, ⟨mm, hmm, hnx, hTo⟩, hP, hTl, -⟩ := id hH
  obtain ⟨-, ⟨u, hu, h2⟩, ⟨r, hr, h3⟩, -, -, h9⟩ := hTo g (List.mem_of_getElem? hg)
  have hz : z % 2 < 2 := Nat.mod_lt _ (by decide)
  have hrow := row_of hTT hP hg hTr htk hTl
  have h3c : (g 3).toNatClampNeg = r := by rw [h3]; exact nI_clamp (by omega)
  have G : ∀ j, j < 10 → ∀ cc, cc = nI j → f_X6_get 240 10 (FX.s_T_rows x) (FX.s_T_cells x) (nI i) cc = some (g j) := fun j hj cc hc => get_tb hTT hg rfl hTr rfl hc hj (by omega) (by decide) (by omega)
  have hw : f_X5_whyNoRequest (FX.s_time x) (FX.s_tolerance x) (FX.s_R_rows x) (FX.s_R_cells x) (FX.s_U_rows x) (FX.s_U_cells x) (FX.s_S_rows x) (FX.s_S_cells x) (FX.s_T_rows x) (FX.s_T_cells x) (nI i) (nI (z % 2)) = some (if g 1 = 0 then (if live (FH.time h) g = true then (if g 3 = FH.place h (z % 2) then (if hSk h (g 2) (g 3) = true then 4 else if T.length = 24 then 5 else 0) else 3) else 2) else 1) := by
    unfold f_X5_whyNoRequest
    rw [G 1 (by decide) 1 rfl, Option.bind_some]
    by_cases h1 : g 1 = 0
    · rw [if_pos h1, if_pos h1, isAlive_tb hTT hg hTr rfl hTl, Option.bind_some, htm]
      by_cases hv : live (FH.time h) g = true
      · rw [if_pos hv, if_neg (by decide), if_pos hv, G 3 (by decide) 3 rfl, Option.bind_some, hSr, get_S (c := 1) (j := 1) rfl rfl hz (by decide), Option.bind_some, (hS (z % 2) hz).1]
        by_cases ht : g 3 = FH.place h (z % 2)
        · rw [if_pos ht, if_pos ht, hRr, hUr, isSk_eq hC hg hu hr h2 h3 hTl, Option.bind_some]
          by_cases hs : hSk h (g 2) (g 3) = true
          · rw [if_pos hs, if_neg (by decide), if_pos hs]
          · rw [if_neg hs, if_pos rfl, if_neg hs, full_T hTr hTl, Option.bind_some]
            by_cases h24 : T.length = 24
            · rw [if_pos h24, if_neg (by decide), if_pos h24]
            · rw [if_neg h24, if_pos rfl, if_neg h24]
        · rw [if_neg ht, if_neg ht]
      · rw [if_neg hv, if_pos rfl, if_neg hv]
    · rw [if_neg h1, if_neg h1]
  by_cases hok : g 1 = 0 ∧ live (FH.time h) g = true ∧ g 3 = FH.place h (z % 2) ∧ ¬ hSk h (g 2) (g 3) = true ∧ ¬ T.length = 24
  · obtain ⟨h1, hv, ht, hs, h24⟩ := hok
    have hal : ¬ g 6 ≤ FH.time h := by
      unfold live at hv
      exact Int32.not_le.mpr (of_decide_eq_true hv)
    have e : hRequest h T E g z = ((hDer h T g (g 3) (nI (z % 2))).1, (hDer h T g (g 3) (nI (z % 2))).2.1, (hDer h T g (g 3) (nI (z % 2))).2.2, E) := if_neg (fun q => q.elim (fun q => q h1) (fun q => q.elim hal (fun q => q ht)))
    have e2 : hDer h T g (g 3) (nI (z % 2)) = hMakes h T (g 2) (g 3) (nI (z % 2)) (imin (FH.time h + FH.life h (g 3).toNatClampNeg) (g 6)) (imin (FH.time h + FH.again h (g 3).toNatClampNeg) (g 7)) (g 9) := if_neg (fun q => q.elim hs h24)
    rw [e, e2]
    have hk : T.length < 24 := by omega
    obtain ⟨pc', pa', hrem⟩ := remember_eq (pc := FX.pastCount x) (s1 := FX.s_time x) (s2 := FX.s_tolerance x) (s3 := FX.s_seed x) (s4 := FX.s_madeTickets x) (s5 := FX.s_cheesesOfText x) (s6 := FX.s_R_rows x) (c6 := FX.s_R_cells x) (s7 := FX.s_U_rows x) (c7 := FX.s_U_cells x) (s8 := FX.s_S_rows x) (c8 := FX.s_S_cells x) (s9 := FX.s_T_rows x) (c9 := FX.s_T_cells x) (s0 := FX.s_E_rows x) (c0 := FX.s_E_cells x) (pa := FX.pa x) ha hnp
    have hmr : f_X5_makeRequest (FX.s_time x) (FX.s_seed x) (FX.s_madeTickets x) (FX.s_R_rows x) (FX.s_R_cells x) (FX.s_T_rows x) (FX.s_T_cells x) (nI i) (nI (z % 2)) = some (FH.next h, hSeed h, FH.next h + 1, nI (T.length + 1), newC (FX.s_T_cells x) T.length (FH.next h) (if nI (z % 2) = -1 then 0 else 1) (g 2) (nI r) (nI (z % 2)) (FH.time h) (imin (FH.time h + FH.life h r) (g 6)) (if g 9 = 1 then imax (imin (FH.time h + FH.life h r) (g 6)) (imin (FH.time h + FH.again h r) (g 7)) else imin (FH.time h + FH.life h r) (g 6)) (hSeed h) (g 9)) := by
      unfold f_X5_makeRequest
      rw [G 3 (by decide) 3 rfl, Option.bind_some, G 2 (by decide) 2 rfl, Option.bind_some, h3, make_eq hTr hk, Option.bind_some]
      dsimp only
      rw [hRr, inherit_eq hTT hR hg hr hk h9, Option.bind_some, get_T (c := 0) (j := 0) rfl rfl rfl (by omega) (by decide) (by omega), Option.bind_some, newC_0, htm, hsd, hmd]
      rfl
    refine ⟨_, ⟨(0, FH.next h, nI ((a + 1) % 8), pc', hSeed h, FH.next h + 1, nI (T.length + 1), newC (FX.s_T_cells x) T.length (FH.next h) (if nI (z % 2) = -1 then 0 else 1) (g 2) (nI r) (nI (z % 2)) (FH.time h) (imin (FH.time h + FH.life h r) (g 6)) (if g 9 = 1 then imax (imin (FH.time h + FH.life h r) (g 6)) (imin (FH.time h + FH.again h r) (g 7)) else imin (FH.time h + FH.life h r) (g 6)) (hSeed h) (g 9), pa'), ?_, Or.inl ⟨rfl, (one_back _).symm⟩, rfl⟩, der_ok (i := i) (m := r) (a := (a + 1) % 8) hG htb hg hal h24 hr h3 (Or.inr ⟨z % 2, hz, rfl⟩) (next_lt a) rfl rfl rfl rfl rfl rfl rfl rfl rfl rfl rfl rfl rfl rfl rfl rfl⟩
    unfold f_X11_request
    rw [hrow, Option.bind_some, if_pos rfl, chkS hSr hz, Option.bind_some, if_pos rfl, hw, Option.bind_some, if_pos h1, if_pos hv, if_pos ht, if_neg hs, if_neg h24, chkA0, Option.bind_some, if_pos rfl, hrem, Option.bind_some, if_pos rfl, hmr]
    rfl
  · have e : hRequest h T E g z = (-9, h, T, E) := by
      unfold hRequest
      by_cases hc : g 1 ≠ 0 ∨ g 6 ≤ FH.time h ∨ g 3 ≠ FH.place h (z % 2)
      · rw [if_pos hc]
      · rw [if_neg hc]
        unfold hDer
        rw [if_pos]
        apply Classical.byContradiction
        intro hn
        refine hok ⟨Classical.byContradiction fun q => hc (Or.inl q), ?_, ?_, fun q => hn (Or.inl q), fun q => hn (Or.inr q)⟩
        · unfold live
          exact decide_eq_true (Int32.not_le.mp fun q => hc (Or.inr (Or.inl q)))
        · exact Classical.byContradiction fun q => hc (Or.inr (Or.inr q))
    rw [e]
    refine ⟨x, ⟨(3, 0, FX.nextPast x, FX.pastCount x, FX.s_seed x, FX.s_madeTickets x, FX.s_T_rows x, FX.s_T_cells x, FX.pa x), ?_, Or.inr ⟨rfl, rfl⟩, rfl⟩, hG.mono (Nat.le_refl _) (Nat.le_succ _)⟩
    unfold f_X11_request
    rw [hrow, Option.bind_some, if_pos rfl, chkS hSr hz, Option.bind_some, if_pos rfl, hw, Option.bind_some, chkA, Option.bind_some, if_neg (by decide)]
    intro q
    refine hok ?_
    split at q
    · rename_i h1
      split at q
      · rename_i hv
        split at q
        · rename_i ht
          split at q
          · exact absurd q (by decide)
          · rename_i hs
            split at q
            · exact absurd q (by decide)
            · rename_i h24
              exact ⟨h1, hv, ht, hs, h24⟩
        · exact absurd q (by decide)
      · exact absurd q (by decide)
    · exact absurd q (by decide)
