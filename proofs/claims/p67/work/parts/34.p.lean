/-! PURE: acts of the class: logins, referrals, requests. -/
def GD (tb mb : Nat) (pw mk : Nat → Nat) (x : FX) (h : FH) (T E : List Row) : Prop := CLS x h pw mk T E ∧ HIN tb mb (FX.s_cheesesOfText x) h T E
theorem HIN.mono {tb mb tb' mb' : Nat} {cot : Int32} {h : FH} {T E : List Row} (hH : HIN tb mb cot h T E) (h1 : tb ≤ tb') (h2 : mb ≤ mb') : HIN tb' mb' cot h T E := by
  obtain ⟨⟨t, o, ht, htm⟩, ⟨m, hm, hnx⟩, hrest⟩ := hH
  exact ⟨⟨t, o, by omega, htm⟩, ⟨m, by omega, hnx⟩, hrest⟩
theorem GD.mono {tb mb tb' mb' : Nat} {pw mk : Nat → Nat} {x : FX} {h : FH} {T E : List Row} (hG : GD tb mb pw mk x h T E) (h1 : tb ≤ tb') (h2 : mb ≤ mb') : GD tb' mb' pw mk x h T E := ⟨hG.1, hG.2.mono h1 h2⟩
theorem chkU {r : Int32} {u : Nat} (hr : r = 3) (hu : u < 3) : f_X11_checkUser r (nI u) = some 0 := by
  unfold f_X11_checkUser
  rw [has_at (n := 3) hr rfl hu (by decide), Option.bind_some, if_neg (by decide)]
theorem chkR {r : Int32} {u : Nat} (hr : r = 3) (hu : u < 3) : f_X11_checkRealm r (nI u) = some 0 := by
  unfold f_X11_checkRealm
  rw [has_at (n := 3) hr rfl hu (by decide), Option.bind_some, if_neg (by decide)]
theorem chkS {r : Int32} {u : Nat} (hr : r = 2) (hu : u < 2) : f_X11_checkService r (nI u) = some 0 := by
  unfold f_X11_checkService
  rw [has_at (n := 2) hr rfl hu (by decide), Option.bind_some, if_neg (by decide)]
theorem chkA {w : Int32} (h : w ≠ 0) : f_X11_checkAllowed w = some 3 := by
  unfold f_X11_checkAllowed
  rw [if_neg h]
theorem chkA0 : f_X11_checkAllowed 0 = some 0 := rfl
theorem chkP {p : Nat} (h : p < 101) : f_X11_checkPassword (nI p) = some 0 := by
  unfold f_X11_checkPassword
  rw [if_neg (nI_pos (by omega)), if_pos (show nI p ≤ 9999 from nI_le (a := p) (b := 9999) (by omega) (by decide))]
theorem login_why {tb mb : Nat} {pw mk : Nat → Nat} {x : FX} {h : FH} {T E : List Row} {u z : Nat} (hG : GD tb mb pw mk x h T E) (hu : u < 3) (hpw : pw u < 100) : f_X5_whyNoLogin (FX.s_tolerance x) (FX.s_R_rows x) (FX.s_R_cells x) (FX.s_U_rows x) (FX.s_U_cells x) (FX.s_T_rows x) (nI u) (if z % 8 = 0 then 100 else nI (pw u)) = some (if z % 8 = 0 then 1 else if hSk h (nI u) (FH.home h u) = true then 2 else if T.length = 24 then 3 else 0) := by
  obtain ⟨hC, -, -, -, hTl, -, hA, -⟩ := hG
  obtain ⟨⟨-, htol, -⟩, ⟨hRr, -⟩, ⟨hUr, hU⟩, -, ⟨hTr, -⟩, -⟩ := id hC
  obtain ⟨-, -, r, hr, hhr⟩ := hA u hu
  obtain ⟨u1, u2, -⟩ := hU u hu
  unfold f_X5_whyNoLogin
  rw [hRr, hUr, get_U (c := 2) (j := 2) rfl rfl hu (by decide), Option.bind_some, u2]
  by_cases hz : z % 8 = 0
  · rw [if_pos hz, if_pos hz, if_neg (show ¬ nI (pw u) = 100 from fun e => by have := (nI_eq (a := pw u) (b := 100) (by omega) (by decide)).mp e; omega)]
  · rw [if_neg hz, if_neg hz, if_pos rfl, get_U (c := 1) (j := 1) rfl rfl hu (by decide), Option.bind_some, u1, hhr, skew_eq hC rfl rfl hu hr, Option.bind_some, htol]
    by_cases hs : iabs (FH.own h u - FH.fast h r) ≤ FH.tol h
    · rw [if_pos hs, if_neg (by rw [hSk_iff hu hr]; exact fun z => z hs), full_T hTr hTl, Option.bind_some]
      by_cases h24 : T.length = 24
      · rw [if_pos h24, if_neg (by decide), if_pos h24]
      · rw [if_neg h24, if_pos rfl, if_neg h24]
    · rw [if_neg hs, if_pos (by rw [hSk_iff hu hr]; exact hs)]
theorem act_login {tb mb : Nat} {pw mk : Nat → Nat} {x : FX} {h : FH} {T E : List Row} {u z : Nat} (hG : GD tb mb pw mk x h T E) (hu : u < 3) (hpw : pw u < 100) (htb : tb ≤ 2000 ∧ mb ≤ 2000) : ∃ x', aR_login x (nI u) (if z % 8 = 0 then 100 else nI (pw u)) (if z / 8 % 2 = 0 then 1 else 0) (hLogin h T E u z).1 x' ∧ GD tb (mb + 1) pw mk x' (hLogin h T E u z).2.1 (hLogin h T E u z).2.2.1 (hLogin h T E u z).2.2.2 := by
  have hw := login_why (z := z) hG hu hpw
  obtain ⟨hC, hH⟩ := id hG
  obtain ⟨⟨htm, htol, hsd, hmd⟩, ⟨hRr, hR, hMk⟩, ⟨hUr, hU⟩, ⟨hSr, hS⟩, ⟨hTr, hTT⟩, ⟨hEr, hEE⟩, a, ha, hnp⟩ := id hC
  have hP : f_X11_checkPassword (if z % 8 = 0 then 100 else nI (pw u)) = some 0 := by
    by_cases hz : z % 8 = 0
    · rw [if_pos hz]; exact chkP (p := 100) (by decide)
    · rw [if_neg hz]; exact chkP (by omega)
  by_cases hbad : z % 8 = 0 ∨ hSk h (nI u) (FH.home h u) = true ∨ T.length = 24
  · have e : hLogin h T E u z = (-9, h, T, E) := if_pos hbad
    rw [e]
    refine ⟨x, ⟨(3, 0, FX.nextPast x, FX.pastCount x, FX.s_seed x, FX.s_madeTickets x, FX.s_T_rows x, FX.s_T_cells x, FX.pa x), ?_, Or.inr ⟨rfl, rfl⟩, rfl⟩, hG.mono (Nat.le_refl _) (Nat.le_succ _)⟩
    unfold f_X11_login
    rw [chkU hUr hu, Option.bind_some, if_pos rfl, hP, Option.bind_some, if_pos rfl, hw, Option.bind_some, chkA, Option.bind_some, if_neg (by decide)]
    rcases hbad with h1 | h1 | h1
    · rw [if_pos h1]; decide
    · by_cases hz : z % 8 = 0
      · rw [if_pos hz]; decide
      · rw [if_neg hz, if_pos h1]; decide
    · by_cases hz : z % 8 = 0
      · rw [if_pos hz]; decide
      · rw [if_neg hz]
        by_cases hs : hSk h (nI u) (FH.home h u) = true
        · rw [if_pos hs]; decide
        · rw [if_neg hs, if_pos h1]; decide
  · obtain ⟨hz, hs, h24⟩ : ¬ z % 8 = 0 ∧ ¬ hSk h (nI u) (FH.home h u) = true ∧ ¬ T.length = 24 := ⟨fun q => hbad (Or.inl q), fun q => hbad (Or.inr (Or.inl q)), fun q => hbad (Or.inr (Or.inr q))⟩
    obtain ⟨⟨t, o, ht, htt, -⟩, -, -, hTl, -, hA, -⟩ := id hH
    obtain ⟨⟨lf, hl1, hl2, hlf⟩, ⟨ag, ha1, hag⟩, r, hr, hhr⟩ := hA u hu
    obtain ⟨⟨lf, hl1, hl2, hlf⟩, ⟨ag, ha1, hag⟩, -⟩ := hA r hr
    obtain ⟨u1, u2, u3, u4⟩ := hU u hu
    have hrc : (FH.home h u).toNatClampNeg = r := by rw [hhr]; exact nI_clamp (by omega)
    generalize hfl : (if z / 8 % 2 = 0 then (1 : Int32) else 0) = fl
    have hfl1 : fl = 0 ∨ fl = 1 := by
      rw [← hfl]
      split
      · exact Or.inr rfl
      · exact Or.inl rfl
    have hk : T.length < 24 := by omega
    obtain ⟨pc', pa', hrem⟩ := remember_eq (pc := FX.pastCount x) (s1 := FX.s_time x) (s2 := FX.s_tolerance x) (s3 := FX.s_seed x) (s4 := FX.s_madeTickets x) (s5 := FX.s_cheesesOfText x) (s6 := FX.s_R_rows x) (c6 := FX.s_R_cells x) (s7 := FX.s_U_rows x) (c7 := FX.s_U_cells x) (s8 := FX.s_S_rows x) (c8 := FX.s_S_cells x) (s9 := FX.s_T_rows x) (c9 := FX.s_T_cells x) (s0 := FX.s_E_rows x) (c0 := FX.s_E_cells x) (pa := FX.pa x) ha hnp
    have e : hLogin h T E u z = ((hMakes h T (nI u) (FH.home h u) (-1) (FH.time h + FH.life h (FH.home h u).toNatClampNeg) (FH.time h + FH.again h (FH.home h u).toNatClampNeg) (if z / 8 % 2 = 0 then 1 else 0)).1, (hMakes h T (nI u) (FH.home h u) (-1) (FH.time h + FH.life h (FH.home h u).toNatClampNeg) (FH.time h + FH.again h (FH.home h u).toNatClampNeg) (if z / 8 % 2 = 0 then 1 else 0)).2.1, (hMakes h T (nI u) (FH.home h u) (-1) (FH.time h + FH.life h (FH.home h u).toNatClampNeg) (FH.time h + FH.again h (FH.home h u).toNatClampNeg) (if z / 8 % 2 = 0 then 1 else 0)).2.2, E) := if_neg hbad
    rw [e, hfl, hrc]
    have hml : f_X5_makeLogin (FX.s_time x) (FX.s_seed x) (FX.s_madeTickets x) (FX.s_R_rows x) (FX.s_R_cells x) (FX.s_U_rows x) (FX.s_U_cells x) (FX.s_T_rows x) (FX.s_T_cells x) (nI u) fl = some (FH.next h, hSeed h, FH.next h + 1, nI (T.length + 1), newC (FX.s_T_cells x) T.length (FH.next h) 0 (nI u) (FH.home h u) (-1) (FH.time h) (FH.time h + FH.life h r) (if fl = 1 then imax (FH.time h + FH.life h r) (FH.time h + FH.again h r) else FH.time h + FH.life h r) (hSeed h) fl) := by
      unfold f_X5_makeLogin
      rw [hUr, hRr, get_U (c := 1) (j := 1) rfl rfl hu (by decide), Option.bind_some, u1, make_eq hTr hk, Option.bind_some]
      dsimp only
      rw [life_eq (m := r) hR rfl rfl hk hr (mkC_3.trans hhr) hfl1, Option.bind_some, imin_top9, imin_top9, new_of, get_T (c := 0) (j := 0) rfl rfl rfl (by omega) (by decide) (by omega), Option.bind_some, newC_0, htm, hsd, hmd, if_pos rfl]
      rfl
    refine ⟨_, ⟨(0, FH.next h, nI ((a + 1) % 8), pc', hSeed h, FH.next h + 1, nI (T.length + 1), newC (FX.s_T_cells x) T.length (FH.next h) 0 (nI u) (FH.home h u) (-1) (FH.time h) (FH.time h + FH.life h r) (if fl = 1 then imax (FH.time h + FH.life h r) (FH.time h + FH.again h r) else FH.time h + FH.life h r) (hSeed h) fl, pa'), ?_, Or.inl ⟨rfl, (one_back _).symm⟩, rfl⟩, ⟨⟨htm, htol, rfl, rfl⟩, ⟨hRr, hR, hMk⟩, ⟨hUr, hU⟩, ⟨hSr, hS⟩, ⟨?_, ?_⟩, ⟨hEr, hEE⟩, (a + 1) % 8, next_lt a, rfl⟩, ?_⟩
    · unfold f_X11_login
      rw [chkU hUr hu, Option.bind_some, if_pos rfl, hP, Option.bind_some, if_pos rfl, hw, Option.bind_some, if_neg hz, if_neg hs, if_neg h24, chkA0, Option.bind_some, if_pos rfl, hrem, Option.bind_some, if_pos rfl, hml]
      rfl
    · show nI (T.length + 1) = nI (T ++ [_]).length
      rw [List.length_append, List.length_singleton]
    · obtain ⟨q0, q1, q2, q3, q4, q5, q6, q7, q8, q9⟩ := @mkRow_at h (nI u) (FH.home h u) (-1) (FH.time h + FH.life h r) (FH.time h + FH.again h r) fl
      exact TB_new hTT q0 (q1.trans rfl) q2 q3 q4 q5 q6 (q7.trans (by rw [imax_comm])) q8 q9
    · exact makes_ok (u := u) (r := r) (a := t + lf) (b := t + ag) hH htb.2 h24 hu rfl hr hhr (Or.inl rfl) (by rw [htt, hlf, nI_add]) (by rw [htt, hag, nI_add]) (fun t' h1 h2 => by have := (nI_eq (a := t) (b := t') (by omega) (by omega)).mp (htt.symm.trans h1); omega) (by omega) (by omega) hfl1
