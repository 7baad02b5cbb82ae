/-! PURE: referrals and requests. -/
theorem row_of {C : Nat → Int32} {L : List Row} {i : Nat} {g : Row} {r v : Int32} (h : TB 10 C L) (hP : L.Pairwise (fun a b => a 0 ≠ b 0)) (hg : L[i]? = some g) (hr : r = nI L.length) (hv : v = g 0) (hl : L.length ≤ 24) : f_X11_rowOf r C v = some (0, nI i) := by
  have hi := (List.getElem?_eq_some_iff.mp hg).1
  unfold f_X11_rowOf
  rw [find_tb (N := 240) (w := 10) (c := 0) (j := 0) h hg hv.symm (fun k f hk hf => ?_) rfl hr rfl (by decide) (by omega) (by decide) (by omega), Option.bind_some, if_neg (show ¬ nI i = -1 from fun z => absurd (show nI i < 0 by rw [z]; decide) (nI_pos (by omega)))]
  obtain ⟨hk2, rfl⟩ := List.getElem?_eq_some_iff.mp hf
  obtain ⟨hi2, rfl⟩ := List.getElem?_eq_some_iff.mp hg
  rw [hv]
  exact List.pairwise_iff_getElem.mp hP k i hk2 hi2 hk
theorem isSk_eq {x : FX} {h : FH} {pw mk : Nat → Nat} {T E : List Row} {i u r : Nat} {g : Row} (hC : CLS x h pw mk T E) (hg : T[i]? = some g) (hu : u < 3) (hr : r < 3) (h2 : g 2 = nI u) (h3 : g 3 = nI r) (hl : T.length ≤ 24) : f_X5_isSkewed (FX.s_tolerance x) 3 (FX.s_R_cells x) 3 (FX.s_U_cells x) (FX.s_T_rows x) (FX.s_T_cells x) (nI i) = some (if hSk h (g 2) (g 3) = true then 1 else 0) := by
  obtain ⟨⟨-, htol, -⟩, -, -, -, ⟨hTr, hTT⟩, -⟩ := id hC
  unfold f_X5_isSkewed
  rw [getT (c := 2) (j := 2) hTT hg hTr rfl rfl (by decide) hl, Option.bind_some, getT (c := 3) (j := 3) hTT hg hTr rfl rfl (by decide) hl, Option.bind_some, skew_eq hC h2 h3 hu hr, Option.bind_some, htol, h2, h3]
  by_cases hs : iabs (FH.own h u - FH.fast h r) ≤ FH.tol h
  · rw [if_pos hs, if_neg (by rw [hSk_iff hu hr]; exact fun z => z hs)]
  · rw [if_neg hs, if_pos (by rw [hSk_iff hu hr]; exact hs)]
/-- the realms' trust by the drawn bits -/
def TRS (c4 : Nat) (mk : Nat → Nat) : Prop := ∀ i, i < 3 → mk i < 8 ∧ ∀ j, j < 3 → (mk i).testBit j = trB c4 i j
theorem trust_eq {c4 : Nat} {x : FX} {h : FH} {pw mk : Nat → Nat} {T E : List Row} {r z : Nat} {v w : Int32} (hC : CLS x h pw mk T E) (hm : TRS c4 mk) (hr : r < 3) (hz : z < 3) (hv : v = nI r) (hw : w = nI z) : f_X2_hasTrust 3 (FX.s_R_cells x) v w = some (if trB c4 r z = true then 1 else 0) := by
  obtain ⟨-, ⟨-, -, hMk⟩, -⟩ := id hC
  unfold f_X2_hasTrust
  rw [get_R (c := 4) (j := 4) hv rfl hr (by decide), Option.bind_some, hMk r hr, hw, bit_nI (by have := (hm r hr).1; omega) (by omega), (hm r hr).2 z hz]
  by_cases ht : trB c4 r z = true
  · rw [if_pos ht, if_pos (show nI 1 = 1 from rfl), if_pos ht]
  · rw [if_neg ht, if_neg (show ¬ nI 0 = 1 by decide), if_neg ht]
theorem mkC_old {C : Nat → Int32} {k j : Nat} {a0 a1 a2 a3 a4 a5 a8 : Int32} (h : j < k * 10) : mkC C k a0 a1 a2 a3 a4 a5 a8 j = C j := by
  unfold mkC
  repeat rw [upd_ne9 (by omega)]
theorem renewable_eq {C : Nat → Int32} {L : List Row} {i : Nat} {g : Row} {r v : Int32} (h : TB 10 C L) (hg : L[i]? = some g) (hr : r = nI L.length) (hv : v = nI i) (hl : L.length ≤ 24) : f_X7_canBeRenewed r C v = some (if g 9 = 1 then 1 else 0) := by
  unfold f_X7_canBeRenewed
  rw [getT (c := 9) (j := 9) h hg hr hv rfl (by decide) hl, Option.bind_some]
  by_cases h9 : g 9 = 1
  · rw [if_pos h9, if_pos h9]
  · rw [if_neg h9, if_neg h9]
theorem inherit_eq {tm a0 a1 a2 a4 a5 a8 : Int32} {C R : Nat → Int32} {L : List Row} {h : FH} {i m : Nat} {g : Row} (hT : TB 10 C L) (hR : RLM3 R h) (hg : L[i]? = some g) (hm : m < 3) (hk : L.length < 24) (h9 : g 9 = 0 ∨ g 9 = 1) : f_X5_inheritLife tm 3 R (nI (L.length + 1)) (mkC C L.length a0 a1 a2 (nI m) a4 a5 a8) (nI L.length) (nI i) = some (newC C L.length a0 a1 a2 (nI m) a4 a5 (imin (tm + FH.life h m) (g 6)) (if g 9 = 1 then imax (imin (tm + FH.life h m) (g 6)) (imin (tm + FH.again h m) (g 7)) else imin (tm + FH.life h m) (g 6)) a8 (g 9)) := by
  have hi := (List.getElem?_eq_some_iff.mp hg).1
  have G : ∀ j, j < 10 → ∀ cc, cc = nI j → f_X6_get 240 10 (nI (L.length + 1)) (mkC C L.length a0 a1 a2 (nI m) a4 a5 a8) (nI i) cc = some (g j) := fun j hj cc hc => by
    rw [get_T rfl rfl hc (by omega) hj (by omega), mkC_old (ix_lt hi hj (Nat.le_refl _)), hT i g hg j hj]
  unfold f_X5_inheritLife f_X7_canBeRenewed
  rw [G 6 (by decide) 6 rfl, Option.bind_some, G 9 (by decide) 9 rfl, Option.bind_some]
  have hc : (if g 9 = 1 then some (1 : Int32) else some 0) = some (g 9) := by
    rcases h9 with h9 | h9
    · rw [h9, if_neg (by decide)]
    · rw [h9, if_pos rfl]
  rw [hc, Option.bind_some, G 7 (by decide) 7 rfl, Option.bind_some, life_eq (m := m) hR rfl rfl hk hm mkC_3 h9, Option.bind_some, new_of]
theorem imin_nI9 {a b : Nat} (ha : a < 2 ^ 31) (hb : b < 2 ^ 31) : imin (nI a) (nI b) = nI (min a b) := by
  unfold imin
  by_cases h : b < a
  · rw [if_pos (nI_lt h ha), Nat.min_eq_right (by omega)]
  · rw [if_neg (nI_nlt (by omega) (by omega)), Nat.min_eq_left (by omega)]
theorem live_iff {t b : Nat} (ht : t < 2 ^ 31) (hb : b < 2 ^ 31) : nI b ≤ nI t ↔ b ≤ t := nI_leI hb ht
/-- what a derived ticket is on both sides; both acts end with it -/
theorem der_ok {tb mb : Nat} {pw mk : Nat → Nat} {x x' : FX} {h : FH} {T E : List Row} {i m a : Nat} {g : Row} {sv re : Int32} (hG : GD tb mb pw mk x h T E) (htb : tb ≤ 2000 ∧ mb ≤ 2000) (hg : T[i]? = some g) (hal : ¬ g 6 ≤ FH.time h) (h24 : T.length ≠ 24) (hm : m < 3) (hre : re = nI m) (hsv : sv = -1 ∨ ∃ s, s < 2 ∧ sv = nI s) (ha : a < 8)
    (e1 : FX.s_time x' = FX.s_time x) (e2 : FX.s_tolerance x' = FX.s_tolerance x) (e3 : FX.s_seed x' = hSeed h) (e4 : FX.s_madeTickets x' = FH.next h + 1) (e5 : FX.s_cheesesOfText x' = FX.s_cheesesOfText x) (e6 : FX.s_R_rows x' = FX.s_R_rows x) (e7 : FX.s_R_cells x' = FX.s_R_cells x) (e8 : FX.s_U_rows x' = FX.s_U_rows x) (e9 : FX.s_U_cells x' = FX.s_U_cells x) (e10 : FX.s_S_rows x' = FX.s_S_rows x) (e11 : FX.s_S_cells x' = FX.s_S_cells x) (e12 : FX.s_T_rows x' = nI (T.length + 1)) (e13 : FX.s_T_cells x' = newC (FX.s_T_cells x) T.length (FH.next h) (if sv = -1 then 0 else 1) (g 2) (nI m) sv (FH.time h) (imin (FH.time h + FH.life h m) (g 6)) (if g 9 = 1 then imax (imin (FH.time h + FH.life h m) (g 6)) (imin (FH.time h + FH.again h m) (g 7)) else imin (FH.time h + FH.life h m) (g 6)) (hSeed h) (g 9)) (e14 : FX.s_E_rows x' = FX.s_E_rows x) (e15 : FX.s_E_cells x' = FX.s_E_cells x) (e16 : FX.nextPast x' = nI a) :
    GD tb (mb + 1) pw mk x' (hMakes h T (g 2) re sv (imin (FH.time h + FH.life h re.toNatClampNeg) (g 6)) (imin (FH.time h + FH.again h re.toNatClampNeg) (g 7)) (g 9)).2.1 (hMakes h T (g 2) re sv (imin (FH.time h + FH.life h re.toNatClampNeg) (g 6)) (imin (FH.time h + FH.again h re.toNatClampNeg) (g 7)) (g 9)).2.2 E := by
  subst hre
  obtain ⟨hC, hH⟩ := id hG
  obtain ⟨⟨htm, htol, hsd, hmd⟩, ⟨hRr, hR, hMk⟩, ⟨hUr, hU⟩, ⟨hSr, hS⟩, ⟨hTr, hTT⟩, ⟨hEr, hEE⟩, -⟩ := id hC
  obtain ⟨⟨t, o, ht, htt, -⟩, ⟨mm, hmm, hnx, hTo⟩, -, hTl, -, hA, -⟩ := id hH
  obtain ⟨⟨lf, hl1, hl2, hlf⟩, ⟨ag, ha1, hag⟩, -⟩ := hA m hm
  obtain ⟨-, ⟨u, hu, h2⟩, -, -, ⟨a5, b6, c7, h5, h6, h7, hab, hbc, hc4⟩, h9⟩ := hTo g (List.mem_of_getElem? hg)
  have hb : t < b6 := by
    have := mt (live_iff (t := t) (b := b6) (by omega) (by omega)).mpr (by rw [← h6, ← htt]; exact hal)
    omega
  have hrc : (nI m).toNatClampNeg = m := nI_clamp (by omega)
  rw [hrc]
  refine ⟨⟨⟨e1.trans htm, e2.trans htol, e3, e4⟩, ⟨e6.trans hRr, by rw [e7]; exact hR, by rw [e7]; exact hMk⟩, ⟨e8.trans hUr, by rw [e9]; exact hU⟩, ⟨e10.trans hSr, by rw [e11]; exact hS⟩, ⟨?_, ?_⟩, ⟨e14.trans hEr, by rw [e15]; exact hEE⟩, a, ha, e16⟩, ?_⟩
  · rw [e12]
    show nI (T.length + 1) = nI (T ++ [_]).length
    rw [List.length_append, List.length_singleton]
  · rw [e13]
    obtain ⟨q0, q1, q2, q3, q4, q5, q6, q7, q8, q9⟩ := @mkRow_at h (g 2) (nI m) sv (imin (FH.time h + FH.life h m) (g 6)) (imin (FH.time h + FH.again h m) (g 7)) (g 9)
    refine TB_new hTT q0 (q1.trans ?_) q2 q3 q4 q5 q6 (q7.trans (by rw [imax_comm])) q8 q9
    rcases hsv with rfl | ⟨s, hs, rfl⟩
    · rfl
    · rw [if_pos (show (0 : Int32) ≤ nI s from nI_le (a := 0) (Nat.zero_le _) (by omega)), if_neg (fun z => absurd (show nI s < 0 by rw [z]; decide) (nI_pos (by omega)))]
  · rw [e5]
    exact makes_ok (u := u) (r := m) (a := min (t + lf) b6) (b := min (t + ag) c7) hH htb.2 h24 hu h2 hm rfl hsv (by rw [htt, hlf, h6, nI_add, imin_nI9 (by omega) (by omega)]) (by rw [htt, hag, h7, nI_add, imin_nI9 (by omega) (by omega)]) (fun t' h1 h2 => by have := (nI_eq (a := t) (b := t') (by omega) (by omega)).mp (htt.symm.trans h1); omega) (by omega) (by omega) h9
theorem act_refer {tb mb c4 : Nat} {pw mk : Nat → Nat} {x : FX} {h : FH} {T E : List Row} {i z : Nat} {g : Row} {tk : Int32} (hG : GD tb mb pw mk x h T E) (hm : TRS c4 mk) (htb : tb ≤ 2000 ∧ mb ≤ 2000) (hg : T[i]? = some g) (htk : tk = g 0) : ∃ x', aR_refer x tk (nI (z % 3)) (hRefer c4 h T E g z).1 x' ∧ GD tb (mb + 1) pw mk x' (hRefer c4 h T E g z).2.1 (hRefer c4 h T E g z).2.2.1 (hRefer c4 h T E g z).2.2.2 := by
  obtain ⟨hC, hH⟩ := id hG
  obtain ⟨⟨htm, htol, hsd, hmd⟩, ⟨hRr, hR, hMk⟩, ⟨hUr, hU⟩, ⟨hSr, hS⟩, ⟨hTr, hTT⟩, ⟨hEr, hEE⟩, a, ha, hnp⟩ := id hC
  obtain ⟨-, ⟨mm, hmm, hnx, hTo⟩, hP, hTl, -⟩ := id hH
  obtain ⟨-, ⟨u, hu, h2⟩, ⟨r, hr, h3⟩, -, -, h9⟩ := hTo g (List.mem_of_getElem? hg)
  have hz : z % 3 < 3 := Nat.mod_lt _ (by decide)
  have hrow := row_of hTT hP hg hTr htk hTl
  have h3c : (g 3).toNatClampNeg = r := by rw [h3]; exact nI_clamp (by omega)
  have G : ∀ j, j < 10 → ∀ cc, cc = nI j → f_X6_get 240 10 (FX.s_T_rows x) (FX.s_T_cells x) (nI i) cc = some (g j) := fun j hj cc hc => get_tb hTT hg rfl hTr rfl hc hj (by omega) (by decide) (by omega)
  have hw : f_X5_whyNoReferral (FX.s_time x) (FX.s_tolerance x) (FX.s_R_rows x) (FX.s_R_cells x) (FX.s_U_rows x) (FX.s_U_cells x) (FX.s_T_rows x) (FX.s_T_cells x) (nI i) (nI (z % 3)) = some (if g 1 = 0 then (if live (FH.time h) g = true then (if trB c4 r (z % 3) = true then (if hSk h (g 2) (g 3) = true then 4 else if T.length = 24 then 5 else 0) else 3) else 2) else 1) := by
    unfold f_X5_whyNoReferral
    rw [G 1 (by decide) 1 rfl, Option.bind_some]
    by_cases h1 : g 1 = 0
    · rw [if_pos h1, if_pos h1, isAlive_tb hTT hg hTr rfl hTl, Option.bind_some, htm]
      by_cases hv : live (FH.time h) g = true
      · rw [if_pos hv, if_neg (by decide), if_pos hv, G 3 (by decide) 3 rfl, Option.bind_some, hRr, trust_eq hC hm hr hz h3 rfl, Option.bind_some]
        by_cases ht : trB c4 r (z % 3) = true
        · rw [if_pos ht, if_neg (by decide), if_pos ht, hUr, isSk_eq hC hg hu hr h2 h3 hTl, Option.bind_some]
          by_cases hs : hSk h (g 2) (g 3) = true
          · rw [if_pos hs, if_neg (by decide), if_pos hs]
          · rw [if_neg hs, if_pos rfl, if_neg hs, full_T hTr hTl, Option.bind_some]
            by_cases h24 : T.length = 24
            · rw [if_pos h24, if_neg (by decide), if_pos h24]
            · rw [if_neg h24, if_pos rfl, if_neg h24]
        · rw [if_neg ht, if_pos rfl, if_neg ht]
      · rw [if_neg hv, if_pos rfl, if_neg hv]
    · rw [if_neg h1, if_neg h1]
  by_cases hok : g 1 = 0 ∧ live (FH.time h) g = true ∧ trB c4 r (z % 3) = true ∧ ¬ hSk h (g 2) (g 3) = true ∧ ¬ T.length = 24
  · obtain ⟨h1, hv, ht, hs, h24⟩ := hok
    have hal : ¬ g 6 ≤ FH.time h := by
      unfold live at hv
      exact Int32.not_le.mpr (of_decide_eq_true hv)
    have e : hRefer c4 h T E g z = ((hDer h T g (nI (z % 3)) (-1)).1, (hDer h T g (nI (z % 3)) (-1)).2.1, (hDer h T g (nI (z % 3)) (-1)).2.2, E) := if_neg (by rw [h3c, ht]; exact fun q => q.elim (fun q => q h1) (fun q => q.elim hal (fun q => by cases q)))
    have e2 : hDer h T g (nI (z % 3)) (-1) = hMakes h T (g 2) (nI (z % 3)) (-1) (imin (FH.time h + FH.life h (nI (z % 3)).toNatClampNeg) (g 6)) (imin (FH.time h + FH.again h (nI (z % 3)).toNatClampNeg) (g 7)) (g 9) := if_neg (fun q => q.elim hs h24)
    rw [e, e2]
    have hk : T.length < 24 := by omega
    obtain ⟨pc', pa', hrem⟩ := remember_eq (pc := FX.pastCount x) (s1 := FX.s_time x) (s2 := FX.s_tolerance x) (s3 := FX.s_seed x) (s4 := FX.s_madeTickets x) (s5 := FX.s_cheesesOfText x) (s6 := FX.s_R_rows x) (c6 := FX.s_R_cells x) (s7 := FX.s_U_rows x) (c7 := FX.s_U_cells x) (s8 := FX.s_S_rows x) (c8 := FX.s_S_cells x) (s9 := FX.s_T_rows x) (c9 := FX.s_T_cells x) (s0 := FX.s_E_rows x) (c0 := FX.s_E_cells x) (pa := FX.pa x) ha hnp
    have hmr : f_X5_makeReferral (FX.s_time x) (FX.s_seed x) (FX.s_madeTickets x) (FX.s_R_rows x) (FX.s_R_cells x) (FX.s_T_rows x) (FX.s_T_cells x) (nI i) (nI (z % 3)) = some (FH.next h, hSeed h, FH.next h + 1, nI (T.length + 1), newC (FX.s_T_cells x) T.length (FH.next h) (if (-1 : Int32) = -1 then 0 else 1) (g 2) (nI (z % 3)) (-1) (FH.time h) (imin (FH.time h + FH.life h (z % 3)) (g 6)) (if g 9 = 1 then imax (imin (FH.time h + FH.life h (z % 3)) (g 6)) (imin (FH.time h + FH.again h (z % 3)) (g 7)) else imin (FH.time h + FH.life h (z % 3)) (g 6)) (hSeed h) (g 9)) := by
      unfold f_X5_makeReferral
      rw [G 2 (by decide) 2 rfl, Option.bind_some, make_eq hTr hk, Option.bind_some]
      dsimp only
      rw [hRr, inherit_eq hTT hR hg hz hk h9, Option.bind_some, get_T (c := 0) (j := 0) rfl rfl rfl (by omega) (by decide) (by omega), Option.bind_some, newC_0, htm, hsd, hmd]
      rfl
    refine ⟨_, ⟨(0, FH.next h, nI ((a + 1) % 8), pc', hSeed h, FH.next h + 1, nI (T.length + 1), newC (FX.s_T_cells x) T.length (FH.next h) (if (-1 : Int32) = -1 then 0 else 1) (g 2) (nI (z % 3)) (-1) (FH.time h) (imin (FH.time h + FH.life h (z % 3)) (g 6)) (if g 9 = 1 then imax (imin (FH.time h + FH.life h (z % 3)) (g 6)) (imin (FH.time h + FH.again h (z % 3)) (g 7)) else imin (FH.time h + FH.life h (z % 3)) (g 6)) (hSeed h) (g 9), pa'), ?_, Or.inl ⟨rfl, (one_back _).symm⟩, rfl⟩, der_ok (i := i) (m := z % 3) (a := (a + 1) % 8) hG htb hg hal h24 hz rfl (Or.inl rfl) (next_lt a) rfl rfl rfl rfl rfl rfl rfl rfl rfl rfl rfl rfl rfl rfl rfl rfl⟩
    unfold f_X11_refer
    rw [hrow, Option.bind_some, if_pos rfl, chkR hRr hz, Option.bind_some, if_pos rfl, hw, Option.bind_some, if_pos h1, if_pos hv, if_pos ht, if_neg hs, if_neg h24, chkA0, Option.bind_some, if_pos rfl, hrem, Option.bind_some, if_pos rfl, hmr]
    rfl
  · have e : hRefer c4 h T E g z = (-9, h, T, E) := by
      unfold hRefer
      by_cases hc : g 1 ≠ 0 ∨ g 6 ≤ FH.time h ∨ trB c4 (g 3).toNatClampNeg (z % 3) = false
      · rw [if_pos hc]
      · rw [if_neg hc]
        unfold hDer
        rw [if_pos]
        rw [h3c] at hc
        apply Classical.byContradiction
        intro hn
        refine hok ⟨Classical.byContradiction fun q => hc (Or.inl q), ?_, ?_, fun q => hn (Or.inl q), fun q => hn (Or.inr q)⟩
        · unfold live
          exact decide_eq_true (Int32.not_le.mp fun q => hc (Or.inr (Or.inl q)))
        · cases hb : trB c4 r (z % 3) with
          | true => rfl
          | false => exact absurd (Or.inr (Or.inr hb)) hc
    rw [e]
    refine ⟨x, ⟨(3, 0, FX.nextPast x, FX.pastCount x, FX.s_seed x, FX.s_madeTickets x, FX.s_T_rows x, FX.s_T_cells x, FX.pa x), ?_, Or.inr ⟨rfl, rfl⟩, rfl⟩, hG.mono (Nat.le_refl _) (Nat.le_succ _)⟩
    unfold f_X11_refer
    rw [hrow, Option.bind_some, if_pos rfl, chkR hRr hz, Option.bind_some, if_pos rfl, hw, Option.bind_some, chkA, Option.bind_some, if_neg (by decide)]
    intro q
    refine hok ?_
    split at q
    · rename_i h1
      split at q
      · rename_i hv
        split at q
        · rename_i ht
          split at q
          · exact absurd q (by decide)
          · rename_i hs
            split at q
            · exact absurd q (by decide)
            · rename_i h24
              exact ⟨h1, hv, ht, hs, h24⟩
        · exact absurd q (by decide)
      · exact absurd q (by decide)
    · exact absurd q (by decide)
