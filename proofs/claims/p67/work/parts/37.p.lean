/-! PURE: renewals, drops, sweeps, clocks. -/
theorem rn_T {C : Nat → Int32} {L : List Row} {i : Nat} {g : Row} {e k : Int32} (h : TB 10 C L) (hg : L[i]? = some g) : TB 10 (upd (upd C (i * 10 + 6) e) (i * 10 + 8) k) (L.set i (upd (upd g 6 e) 8 k)) := by
  refine TB_set h (fun j hj => ?_) (fun c hc => ?_)
  · rw [upd_ne9 (by omega), upd_ne9 (by omega)]
  · have h0 := h i g hg c hc
    unfold upd
    by_cases h8 : c = 8
    · subst h8
      rw [if_pos rfl, if_pos rfl]
    · rw [if_neg (by omega), if_neg h8]
      by_cases h6 : c = 6
      · subst h6
        rw [if_pos rfl, if_pos rfl]
      · rw [if_neg (by omega), if_neg h6]
        exact h0
theorem pw_set {L : List Row} {i : Nat} {g f : Row} (hP : L.Pairwise (fun a b => a 0 ≠ b 0)) (hg : L[i]? = some g) (h0 : f 0 = g 0) : (L.set i f).Pairwise (fun a b => a 0 ≠ b 0) := by
  rw [List.pairwise_iff_getElem]
  intro a b ha hb hab
  rw [List.length_set] at ha hb
  have h1 := List.pairwise_iff_getElem.mp hP a b ha hb hab
  obtain ⟨hi, rfl⟩ := List.getElem?_eq_some_iff.mp hg
  rw [List.getElem_set, List.getElem_set]
  by_cases ha2 : i = a
  · subst ha2
    rw [if_pos rfl, if_neg (by omega), h0]
    exact h1
  · rw [if_neg ha2]
    by_cases hb2 : i = b
    · subst hb2
      rw [if_pos rfl, h0]
      exact h1
    · rw [if_neg hb2]
      exact h1
theorem act_renew {tb mb : Nat} {pw mk : Nat → Nat} {x : FX} {h : FH} {T E : List Row} {i : Nat} {g : Row} {tk : Int32} (hG : GD tb mb pw mk x h T E) (htb : tb ≤ 2000 ∧ mb ≤ 2000) (hg : T[i]? = some g) (htk : tk = g 0) : ∃ x', aR_renew x tk (hRenew h T E i g).1 x' ∧ GD tb (mb + 1) pw mk x' (hRenew h T E i g).2.1 (hRenew h T E i g).2.2.1 (hRenew h T E i g).2.2.2 := by
  obtain ⟨hC, hH⟩ := id hG
  obtain ⟨⟨htm, htol, hsd, hmd⟩, ⟨hRr, hR, hMk⟩, ⟨hUr, hU⟩, ⟨hSr, hS⟩, ⟨hTr, hTT⟩, ⟨hEr, hEE⟩, a, ha, hnp⟩ := id hC
  obtain ⟨⟨t, o, ht, htt, ho, hto, hE⟩, ⟨mm, hmm, hnx, hTo⟩, hP, hTl, hEl, hA, hB, hcc⟩ := id hH
  obtain ⟨h0, ⟨u, hu, h2⟩, ⟨r, hr, h3⟩, h14, ⟨a5, b6, c7, h5, h6, h7, hab, hbc, hc4⟩, h9⟩ := hTo g (List.mem_of_getElem? hg)
  obtain ⟨⟨lf, hl1, hl2, hlf⟩, -, -⟩ := hA r hr
  have hi := (List.getElem?_eq_some_iff.mp hg).1
  have hrow := row_of hTT hP hg hTr htk hTl
  have h3c : (g 3).toNatClampNeg = r := by rw [h3]; exact nI_clamp (by omega)
  have G : ∀ j, j < 10 → ∀ cc, cc = nI j → f_X6_get 240 10 (FX.s_T_rows x) (FX.s_T_cells x) (nI i) cc = some (g j) := fun j hj cc hc => get_tb hTT hg rfl hTr rfl hc hj (by omega) (by decide) (by omega)
  have hend : f_X5_renewedEnd (FX.s_time x) (FX.s_R_rows x) (FX.s_R_cells x) (FX.s_T_rows x) (FX.s_T_cells x) (nI i) = some (hEnd h g) := by
    unfold f_X5_renewedEnd hEnd
    rw [G 3 (by decide) 3 rfl, Option.bind_some, hRr, get_R (c := 1) (j := 1) h3 rfl hr (by decide), Option.bind_some, G 7 (by decide) 7 rfl, Option.bind_some, (hR r hr).1, htm, h3c]
  have hw : f_X5_whyNoRenewal (FX.s_time x) (FX.s_R_rows x) (FX.s_R_cells x) (FX.s_T_rows x) (FX.s_T_cells x) (nI i) = some (if g 9 = 1 then (if live (FH.time h) g = true then (if hEnd h g ≤ g 6 then 3 else 0) else 2) else 1) := by
    unfold f_X5_whyNoRenewal
    rw [renewable_eq hTT hg hTr rfl hTl, Option.bind_some]
    by_cases q9 : g 9 = 1
    · rw [if_pos q9, if_neg (by decide), if_pos q9, isAlive_tb hTT hg hTr rfl hTl, Option.bind_some, htm]
      by_cases hv : live (FH.time h) g = true
      · rw [if_pos hv, if_neg (by decide), if_pos hv, ← htm, hend, Option.bind_some, G 6 (by decide) 6 rfl, Option.bind_some]
        by_cases he : hEnd h g ≤ g 6
        · rw [if_pos he, if_pos he]
        · rw [if_neg he, if_neg he]
      · rw [if_neg hv, if_pos rfl, if_neg hv]
    · rw [if_neg q9, if_pos rfl, if_neg q9]
  by_cases hok : g 9 = 1 ∧ live (FH.time h) g = true ∧ ¬ hEnd h g ≤ g 6
  · obtain ⟨q9, hv, he⟩ := hok
    have hal : ¬ g 6 ≤ FH.time h := by
      unfold live at hv
      exact Int32.not_le.mpr (of_decide_eq_true hv)
    have e : hRenew h T E i g = (hEnd h g, (FH.tol h, FH.life h, FH.again h, FH.fast h, FH.home h, FH.own h, FH.had h, FH.place h, FH.left h, hSeed h, FH.time h, FH.next h), T.set i (upd (upd g 6 (hEnd h g)) 8 (hSeed h)), E) := if_neg (fun q => q.elim (fun q => q q9) (fun q => q.elim hal he))
    rw [e]
    have hen : hEnd h g = nI (min (t + lf) c7) := by
      unfold hEnd
      rw [h3c, htt, hlf, h7, nI_add, imin_nI9 (by omega) (by omega)]
    obtain ⟨pc', pa', hrem⟩ := remember_eq (pc := FX.pastCount x) (s1 := FX.s_time x) (s2 := FX.s_tolerance x) (s3 := FX.s_seed x) (s4 := FX.s_madeTickets x) (s5 := FX.s_cheesesOfText x) (s6 := FX.s_R_rows x) (c6 := FX.s_R_cells x) (s7 := FX.s_U_rows x) (c7 := FX.s_U_cells x) (s8 := FX.s_S_rows x) (c8 := FX.s_S_cells x) (s9 := FX.s_T_rows x) (c9 := FX.s_T_cells x) (s0 := FX.s_E_rows x) (c0 := FX.s_E_cells x) (pa := FX.pa x) ha hnp
    have hmr : f_X5_makeRenewal (FX.s_time x) (FX.s_seed x) (FX.s_R_rows x) (FX.s_R_cells x) (FX.s_T_rows x) (FX.s_T_cells x) (nI i) = some (hEnd h g, hSeed h, upd (upd (FX.s_T_cells x) (i * 10 + 6) (hEnd h g)) (i * 10 + 8) (hSeed h)) := by
      unfold f_X5_makeRenewal f_X5_drawKey
      rw [hend, Option.bind_some, set_T (c := 6) (j := 6) hTr rfl rfl hi (by decide) hTl, Option.bind_some, Option.bind_some, set_T (c := 8) (j := 8) hTr rfl rfl hi (by decide) hTl, Option.bind_some, hsd]
      rfl
    refine ⟨_, ⟨(0, hEnd h g, nI ((a + 1) % 8), pc', hSeed h, upd (upd (FX.s_T_cells x) (i * 10 + 6) (hEnd h g)) (i * 10 + 8) (hSeed h), pa'), ?_, Or.inl ⟨rfl, rfl⟩, rfl⟩, ⟨⟨htm, htol, rfl, hmd⟩, ⟨hRr, hR, hMk⟩, ⟨hUr, hU⟩, ⟨hSr, hS⟩, ⟨?_, rn_T hTT hg⟩, ⟨hEr, hEE⟩, (a + 1) % 8, next_lt a, rfl⟩, ⟨t, o, ht, htt, ho, hto, hE⟩, ⟨mm, by omega, hnx, ?_⟩, pw_set hP hg rfl, by rw [List.length_set]; exact hTl, hEl, hA, hB, hcc⟩
    · unfold f_X11_renew
      rw [hrow, Option.bind_some, if_pos rfl, hw, Option.bind_some, if_pos q9, if_pos hv, if_neg he, chkA0, Option.bind_some, if_pos rfl, hrem, Option.bind_some, if_pos rfl, hmr]
      rfl
    · rw [List.length_set]
      exact hTr
    · intro f hf
      rcases List.mem_or_eq_of_mem_set hf with hf | rfl
      · exact hTo f hf
      · refine ⟨h0, ⟨u, hu, h2⟩, ⟨r, hr, h3⟩, h14, ⟨a5, min (t + lf) c7, c7, h5, hen, h7, ?_, by omega, hc4⟩, h9⟩
        have := mt (nI_leI (a := min (t + lf) c7) (b := b6) (by omega) (by omega)).mpr (by rw [← hen, ← h6]; exact he)
        omega
  · have e : hRenew h T E i g = (-9, h, T, E) := by
      unfold hRenew
      rw [if_pos]
      apply Classical.byContradiction
      intro hn
      refine hok ⟨Classical.byContradiction fun q => hn (Or.inl q), ?_, fun q => hn (Or.inr (Or.inr q))⟩
      unfold live
      exact decide_eq_true (Int32.not_le.mp fun q => hn (Or.inr (Or.inl q)))
    rw [e]
    refine ⟨x, ⟨(3, 0, FX.nextPast x, FX.pastCount x, FX.s_seed x, FX.s_T_cells x, FX.pa x), ?_, Or.inr ⟨rfl, rfl⟩, rfl⟩, hG.mono (Nat.le_refl _) (Nat.le_succ _)⟩
    unfold f_X11_renew
    rw [hrow, Option.bind_some, if_pos rfl, hw, Option.bind_some, chkA, Option.bind_some, if_neg (by decide)]
    intro q
    refine hok ?_
    split at q
    · rename_i h1
      split at q
      · rename_i hv
        split at q
        · exact absurd q (by decide)
        · rename_i he
          exact ⟨h1, hv, he⟩
      · exact absurd q (by decide)
    · exact absurd q (by decide)
theorem HIN_sub {tb mb : Nat} {cot : Int32} {h : FH} {T T' E : List Row} (hH : HIN tb mb cot h T E) (hs : T'.Sublist T) : HIN tb (mb + 1) cot h T' E := by
  obtain ⟨hE, ⟨mm, hmm, hnx, hTo⟩, hP, hTl, hrest⟩ := hH
  exact ⟨hE, ⟨mm, by omega, hnx, fun g hg => hTo g (hs.subset hg)⟩, hP.sublist hs, Nat.le_trans hs.length_le hTl, hrest⟩
theorem CLS_tick {x x' : FX} {h : FH} {pw mk : Nat → Nat} {T T' E : List Row} {a : Nat} (hC : CLS x h pw mk T E) (e1 : FX.s_time x' = FX.s_time x) (e2 : FX.s_tolerance x' = FX.s_tolerance x) (e3 : FX.s_seed x' = FX.s_seed x) (e4 : FX.s_madeTickets x' = FX.s_madeTickets x) (e6 : FX.s_R_rows x' = FX.s_R_rows x) (e7 : FX.s_R_cells x' = FX.s_R_cells x) (e8 : FX.s_U_rows x' = FX.s_U_rows x) (e9 : FX.s_U_cells x' = FX.s_U_cells x) (e10 : FX.s_S_rows x' = FX.s_S_rows x) (e11 : FX.s_S_cells x' = FX.s_S_cells x) (e12 : FX.s_T_rows x' = nI T'.length) (e13 : TB 10 (FX.s_T_cells x') T') (e14 : FX.s_E_rows x' = FX.s_E_rows x) (e15 : FX.s_E_cells x' = FX.s_E_cells x) (ha : a < 8) (e16 : FX.nextPast x' = nI a) : CLS x' h pw mk T' E := by
  obtain ⟨⟨htm, htol, hsd, hmd⟩, ⟨hRr, hR, hMk⟩, ⟨hUr, hU⟩, ⟨hSr, hS⟩, -, ⟨hEr, hEE⟩, -⟩ := hC
  exact ⟨⟨e1.trans htm, e2.trans htol, e3.trans hsd, e4.trans hmd⟩, ⟨e6.trans hRr, by rw [e7]; exact hR, by rw [e7]; exact hMk⟩, ⟨e8.trans hUr, by rw [e9]; exact hU⟩, ⟨e10.trans hSr, by rw [e11]; exact hS⟩, ⟨e12, e13⟩, ⟨e14.trans hEr, by rw [e15]; exact hEE⟩, a, ha, e16⟩
theorem CLS_clock {x x' : FX} {h : FH} {pw mk : Nat → Nat} {T E : List Row} {a u : Nat} {v : Int32} (hu : u < 3) (hC : CLS x h pw mk T E) (e1 : FX.s_time x' = FX.s_time x) (e2 : FX.s_tolerance x' = FX.s_tolerance x) (e3 : FX.s_seed x' = FX.s_seed x) (e4 : FX.s_madeTickets x' = FX.s_madeTickets x) (e6 : FX.s_R_rows x' = FX.s_R_rows x) (e7 : FX.s_R_cells x' = FX.s_R_cells x) (e8 : FX.s_U_rows x' = FX.s_U_rows x) (e9 : FX.s_U_cells x' = upd (FX.s_U_cells x) (u * 5 + 3) v) (e10 : FX.s_S_rows x' = FX.s_S_rows x) (e11 : FX.s_S_cells x' = FX.s_S_cells x) (e12 : FX.s_T_rows x' = FX.s_T_rows x) (e13 : FX.s_T_cells x' = FX.s_T_cells x) (e14 : FX.s_E_rows x' = FX.s_E_rows x) (e15 : FX.s_E_cells x' = FX.s_E_cells x) (ha : a < 8) (e16 : FX.nextPast x' = nI a) : CLS x' (FH.tol h, FH.life h, FH.again h, FH.fast h, FH.home h, upd (FH.own h) u v, FH.had h, FH.place h, FH.left h, FH.seed h, FH.time h, FH.next h) pw mk T E := by
  obtain ⟨⟨htm, htol, hsd, hmd⟩, ⟨hRr, hR, hMk⟩, ⟨hUr, hU⟩, ⟨hSr, hS⟩, ⟨hTr, hTT⟩, ⟨hEr, hEE⟩, -⟩ := hC
  refine ⟨⟨e1.trans htm, e2.trans htol, e3.trans hsd, e4.trans hmd⟩, ⟨e6.trans hRr, by rw [e7]; exact hR, by rw [e7]; exact hMk⟩, ⟨e8.trans hUr, ?_⟩, ⟨e10.trans hSr, by rw [e11]; exact hS⟩, ⟨e12.trans hTr, by rw [e13]; exact hTT⟩, ⟨e14.trans hEr, by rw [e15]; exact hEE⟩, a, ha, e16⟩
  intro i hi
  obtain ⟨u1, u2, u3, u4⟩ := hU i hi
  rw [e9]
  refine ⟨by rw [upd_ne9 (by omega)]; exact u1, by rw [upd_ne9 (by omega)]; exact u2, ?_, by rw [upd_ne9 (by omega)]; exact u4⟩
  show _ = upd (FH.own h) u v i
  by_cases he : i = u
  · subst he
    rw [upd_eq9, upd_eq9]
  · rw [upd_ne9 (by omega), upd_ne9 he]
    exact u3
theorem act_drop {tb mb : Nat} {pw mk : Nat → Nat} {x : FX} {h : FH} {T E : List Row} {i : Nat} {g : Row} {tk : Int32} (hG : GD tb mb pw mk x h T E) (hg : T[i]? = some g) (htk : tk = g 0) : ∃ x', aR_drop x tk (hDrop h T E i).1 x' ∧ GD tb (mb + 1) pw mk x' (hDrop h T E i).2.1 (hDrop h T E i).2.2.1 (hDrop h T E i).2.2.2 := by
  obtain ⟨hC, hH⟩ := id hG
  obtain ⟨hz, hRR, hUU, hSS, ⟨hTr, hTT⟩, hEE, a, ha, hnp⟩ := id hC
  obtain ⟨-, -, hP, hTl, -⟩ := id hH
  have hi := (List.getElem?_eq_some_iff.mp hg).1
  have hrow := row_of hTT hP hg hTr htk hTl
  obtain ⟨C', h1, h2⟩ := rem_tb (N := 240) (w := 10) (r := FX.s_T_rows x) (v := nI i) hTT hi rfl hTr rfl (by decide) (by omega) (by decide) (by omega)
  obtain ⟨pc', pa', hrem⟩ := remember_eq (pc := FX.pastCount x) (s1 := FX.s_time x) (s2 := FX.s_tolerance x) (s3 := FX.s_seed x) (s4 := FX.s_madeTickets x) (s5 := FX.s_cheesesOfText x) (s6 := FX.s_R_rows x) (c6 := FX.s_R_cells x) (s7 := FX.s_U_rows x) (c7 := FX.s_U_cells x) (s8 := FX.s_S_rows x) (c8 := FX.s_S_cells x) (s9 := FX.s_T_rows x) (c9 := FX.s_T_cells x) (s0 := FX.s_E_rows x) (c0 := FX.s_E_cells x) (pa := FX.pa x) ha hnp
  refine ⟨_, ⟨(0, nI (T.eraseIdx i).length, nI ((a + 1) % 8), pc', nI (T.eraseIdx i).length, C', pa'), ?_, Or.inl ⟨rfl, rfl⟩, rfl⟩, CLS_tick (a := (a + 1) % 8) hC rfl rfl rfl rfl rfl rfl rfl rfl rfl rfl rfl h2 rfl rfl (next_lt a) rfl, HIN_sub hH (List.eraseIdx_sublist T i)⟩
  unfold f_X11_drop f_X6_size
  rw [hrow, Option.bind_some, if_pos rfl, hrem, Option.bind_some, if_pos rfl, h1, Option.bind_some, Option.bind_some]
theorem act_sweep {tb mb : Nat} {pw mk : Nat → Nat} {x : FX} {h : FH} {T E : List Row} (hG : GD tb mb pw mk x h T E) : ∃ x', aR_sweep x (hSweep h T E).1 x' ∧ GD tb (mb + 1) pw mk x' (hSweep h T E).2.1 (hSweep h T E).2.2.1 (hSweep h T E).2.2.2 := by
  obtain ⟨hC, hH⟩ := id hG
  obtain ⟨⟨htm, hz⟩, hRR, hUU, hSS, ⟨hTr, hTT⟩, hEE, a, ha, hnp⟩ := id hC
  obtain ⟨-, -, hP, hTl, -⟩ := id hH
  obtain ⟨C', h1, h2⟩ := dead_tb (t := FX.s_time x) hTT hTr hTl
  obtain ⟨pc', pa', hrem⟩ := remember_eq (pc := FX.pastCount x) (s1 := FX.s_time x) (s2 := FX.s_tolerance x) (s3 := FX.s_seed x) (s4 := FX.s_madeTickets x) (s5 := FX.s_cheesesOfText x) (s6 := FX.s_R_rows x) (c6 := FX.s_R_cells x) (s7 := FX.s_U_rows x) (c7 := FX.s_U_cells x) (s8 := FX.s_S_rows x) (c8 := FX.s_S_cells x) (s9 := FX.s_T_rows x) (c9 := FX.s_T_cells x) (s0 := FX.s_E_rows x) (c0 := FX.s_E_cells x) (pa := FX.pa x) ha hnp
  rw [htm] at h2
  refine ⟨_, ⟨(0, (hSweep h T E).1, nI ((a + 1) % 8), pc', nI (T.filter (live (FH.time h))).length, C', pa'), ?_, Or.inl ⟨rfl, rfl⟩, rfl⟩, CLS_tick (a := (a + 1) % 8) hC rfl rfl rfl rfl rfl rfl rfl rfl rfl rfl rfl h2 rfl rfl (next_lt a) rfl, HIN_sub hH List.filter_sublist⟩
  unfold f_X11_sweep
  rw [hrem, Option.bind_some, if_pos rfl, h1, Option.bind_some, htm]
  rfl
theorem act_clock {tb mb : Nat} {pw mk : Nat → Nat} {x : FX} {h : FH} {T E : List Row} {u z : Nat} (hG : GD tb mb pw mk x h T E) (hu : u < 3) : ∃ x', aR_setClock x (nI u) (nI (z % 7) - 3) (hClock h T E u z).1 x' ∧ GD tb (mb + 1) pw mk x' (hClock h T E u z).2.1 (hClock h T E u z).2.2.1 (hClock h T E u z).2.2.2 := by
  obtain ⟨hC, hH⟩ := id hG
  obtain ⟨hz, hRR, ⟨hUr, hU⟩, hSS, hTT, hEE, a, ha, hnp⟩ := id hC
  obtain ⟨pc', pa', hrem⟩ := remember_eq (pc := FX.pastCount x) (s1 := FX.s_time x) (s2 := FX.s_tolerance x) (s3 := FX.s_seed x) (s4 := FX.s_madeTickets x) (s5 := FX.s_cheesesOfText x) (s6 := FX.s_R_rows x) (c6 := FX.s_R_cells x) (s7 := FX.s_U_rows x) (c7 := FX.s_U_cells x) (s8 := FX.s_S_rows x) (c8 := FX.s_S_cells x) (s9 := FX.s_T_rows x) (c9 := FX.s_T_cells x) (s0 := FX.s_E_rows x) (c0 := FX.s_E_cells x) (pa := FX.pa x) ha hnp
  have hb : ∀ k, k < 7 → ¬ nI k - 3 < -9 ∧ nI k - 3 ≤ 9 := by decide +kernel
  obtain ⟨b1, b2⟩ := hb (z % 7) (Nat.mod_lt _ (by decide))
  refine ⟨_, ⟨(0, FH.own h u, nI ((a + 1) % 8), pc', upd (FX.s_U_cells x) (u * 5 + 3) (nI (z % 7) - 3), pa'), ?_, Or.inl ⟨rfl, rfl⟩, rfl⟩, CLS_clock (a := (a + 1) % 8) hu hC rfl rfl rfl rfl rfl rfl rfl rfl rfl rfl rfl rfl rfl rfl (next_lt a) rfl, ?_⟩
  · unfold f_X11_setClock
    rw [chkU hUr hu, Option.bind_some, if_pos rfl, if_neg b1, if_pos b2, hrem, Option.bind_some, if_pos rfl, hUr, get_U (c := 3) (j := 3) rfl rfl hu (by decide), Option.bind_some, set_at (N := 30) (w := 5) (r := 3) (c := 3) (n := 3) (i := u) (j := 3) rfl rfl rfl rfl hu (by decide) (by decide) (by decide) (by decide), Option.bind_some, (hU u hu).2.2.1]
  · exact hH.mono (Nat.le_refl _) (Nat.le_succ _)
