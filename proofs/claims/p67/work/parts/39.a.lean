/-! PURE: an act; what is asked behind it. -/
theorem step_G {tb mb c4 n at9 : Nat} {pw mk : Nat → Nat} {xs : Nat → Int32} {Ls : Nat} {x : FX} {h : FH} {T E : List Row} {g : Row} {tk : Int32} (hG : GD tb mb pw mk x h T E) (hm : TRS c4 mk) (hpw : ∀ u, pw u = scel xs Ls (5 + u) / 4 % 100) (htb : tb ≤ 2000 ∧ mb ≤ 2000) (hrow : 7 ≤ n % 32 → n % 32 < 25 → T[at9]? = some g ∧ tk = g 0) : ∃ x', aRs xs Ls x n tk (hActG c4 h T E n at9 g).1 x' ∧ GD (tb + 40) (mb + 1) pw mk x' (hActG c4 h T E n at9 g).2.1 (hActG c4 h T E n at9 g).2.2.1 (hActG c4 h T E n at9 g).2.2.2 := by
  have hu : n / 32 % 3 < 3 := Nat.mod_lt _ (by decide)
  have hpb : ∀ u, pw u < 100 := fun u => by rw [hpw]; exact Nat.mod_lt _ (by decide)
  have hk : n % 32 < 32 := Nat.mod_lt _ (by decide)
  by_cases k0 : n % 32 < 7
  · have e : hActG c4 h T E n at9 g = hLogin h T E (n / 32 % 3) (n / 32 / 16) := by unfold hActG; rw [if_pos k0]
    rw [e]
    obtain ⟨x', h1, h2⟩ := act_login (z := n / 32 / 16) hG hu (hpb _) htb
    rw [hpw] at h1
    exact ⟨x', ⟨fun _ _ => h1, fun q1 q2 => absurd q1 (by omega), fun q1 q2 => absurd q1 (by omega), fun q1 q2 => absurd q1 (by omega), fun q1 q2 => absurd q1 (by omega), fun q1 q2 => absurd q1 (by omega), fun q1 q2 => absurd q1 (by omega), fun q1 q2 => absurd q1 (by omega), fun q1 q2 => absurd q1 (by omega)⟩, h2.mono (by omega) (by omega)⟩
  by_cases k1 : n % 32 < 11
  · have e : hActG c4 h T E n at9 g = hRefer c4 h T E g (n / 32 / 16) := by unfold hActG; rw [if_neg k0, if_pos k1]
    rw [e]
    obtain ⟨hg, htk⟩ := hrow (by omega) (by omega)
    obtain ⟨x', h1, h2⟩ := act_refer (z := n / 32 / 16) hG hm htb hg htk
    exact ⟨x', ⟨fun q1 q2 => absurd q2 (by omega), fun _ _ => h1, fun q1 q2 => absurd q1 (by omega), fun q1 q2 => absurd q1 (by omega), fun q1 q2 => absurd q1 (by omega), fun q1 q2 => absurd q1 (by omega), fun q1 q2 => absurd q1 (by omega), fun q1 q2 => absurd q1 (by omega), fun q1 q2 => absurd q1 (by omega)⟩, h2.mono (by omega) (by omega)⟩
  by_cases k2 : n % 32 < 15
  · have e : hActG c4 h T E n at9 g = hRequest h T E g (n / 32 / 16) := by unfold hActG; rw [if_neg k0, if_neg k1, if_pos k2]
    rw [e]
    obtain ⟨hg, htk⟩ := hrow (by omega) (by omega)
    obtain ⟨x', h1, h2⟩ := act_request (z := n / 32 / 16) hG htb hg htk
    exact ⟨x', ⟨fun q1 q2 => absurd q2 (by omega), fun q1 q2 => absurd q2 (by omega), fun _ _ => h1, fun q1 q2 => absurd q1 (by omega), fun q1 q2 => absurd q1 (by omega), fun q1 q2 => absurd q1 (by omega), fun q1 q2 => absurd q1 (by omega), fun q1 q2 => absurd q1 (by omega), fun q1 q2 => absurd q1 (by omega)⟩, h2.mono (by omega) (by omega)⟩
  by_cases k3 : n % 32 < 18
  · have e : hActG c4 h T E n at9 g = hRenew h T E at9 g := by unfold hActG; rw [if_neg k0, if_neg k1, if_neg k2, if_pos k3]
    rw [e]
    obtain ⟨hg, htk⟩ := hrow (by omega) (by omega)
    obtain ⟨x', h1, h2⟩ := act_renew hG htb hg htk
    exact ⟨x', ⟨fun q1 q2 => absurd q2 (by omega), fun q1 q2 => absurd q2 (by omega), fun q1 q2 => absurd q2 (by omega), fun _ _ => h1, fun q1 q2 => absurd q1 (by omega), fun q1 q2 => absurd q1 (by omega), fun q1 q2 => absurd q1 (by omega), fun q1 q2 => absurd q1 (by omega), fun q1 q2 => absurd q1 (by omega)⟩, h2.mono (by omega) (by omega)⟩
  by_cases k4 : n % 32 < 24
  · have e : hActG c4 h T E n at9 g = hCheese h T E g := by unfold hActG; rw [if_neg k0, if_neg k1, if_neg k2, if_neg k3, if_pos k4]
    rw [e]
    obtain ⟨hg, htk⟩ := hrow (by omega) (by omega)
    obtain ⟨x', h1, h2⟩ := act_cheese hG htb hg htk
    exact ⟨x', ⟨fun q1 q2 => absurd q2 (by omega), fun q1 q2 => absurd q2 (by omega), fun q1 q2 => absurd q2 (by omega), fun q1 q2 => absurd q2 (by omega), fun _ _ => h1, fun q1 q2 => absurd q1 (by omega), fun q1 q2 => absurd q1 (by omega), fun q1 q2 => absurd q1 (by omega), fun q1 q2 => absurd q1 (by omega)⟩, h2.mono (by omega) (by omega)⟩
  by_cases k5 : n % 32 < 25
  · have e : hActG c4 h T E n at9 g = hDrop h T E at9 := by unfold hActG; rw [if_neg k0, if_neg k1, if_neg k2, if_neg k3, if_neg k4, if_pos k5]
    rw [e]
    obtain ⟨hg, htk⟩ := hrow (by omega) (by omega)
    obtain ⟨x', h1, h2⟩ := act_drop hG hg htk
    exact ⟨x', ⟨fun q1 q2 => absurd q2 (by omega), fun q1 q2 => absurd q2 (by omega), fun q1 q2 => absurd q2 (by omega), fun q1 q2 => absurd q2 (by omega), fun q1 q2 => absurd q2 (by omega), fun _ _ => h1, fun q1 q2 => absurd q1 (by omega), fun q1 q2 => absurd q1 (by omega), fun q1 q2 => absurd q1 (by omega)⟩, h2.mono (by omega) (by omega)⟩
  by_cases k6 : n % 32 < 26
  · have e : hActG c4 h T E n at9 g = hSweep h T E := by unfold hActG; rw [if_neg k0, if_neg k1, if_neg k2, if_neg k3, if_neg k4, if_neg k5, if_pos k6]
    rw [e]
    obtain ⟨x', h1, h2⟩ := act_sweep hG
    exact ⟨x', ⟨fun q1 q2 => absurd q2 (by omega), fun q1 q2 => absurd q2 (by omega), fun q1 q2 => absurd q2 (by omega), fun q1 q2 => absurd q2 (by omega), fun q1 q2 => absurd q2 (by omega), fun q1 q2 => absurd q2 (by omega), fun _ _ => h1, fun q1 q2 => absurd q1 (by omega), fun q1 q2 => absurd q1 (by omega)⟩, h2.mono (by omega) (by omega)⟩
  by_cases k7 : n % 32 < 27
  · have e : hActG c4 h T E n at9 g = hClock h T E (n / 32 % 3) (n / 32 / 16) := by unfold hActG; rw [if_neg k0, if_neg k1, if_neg k2, if_neg k3, if_neg k4, if_neg k5, if_neg k6, if_pos k7]
    rw [e]
    obtain ⟨x', h1, h2⟩ := act_clock (z := n / 32 / 16) hG hu
    exact ⟨x', ⟨fun q1 q2 => absurd q2 (by omega), fun q1 q2 => absurd q2 (by omega), fun q1 q2 => absurd q2 (by omega), fun q1 q2 => absurd q2 (by omega), fun q1 q2 => absurd q2 (by omega), fun q1 q2 => absurd q2 (by omega), fun q1 q2 => absurd q2 (by omega), fun _ _ => h1, fun q1 q2 => absurd q1 (by omega)⟩, h2.mono (by omega) (by omega)⟩
  have e : hActG c4 h T E n at9 g = hPass h T E n := by unfold hActG; rw [if_neg k0, if_neg k1, if_neg k2, if_neg k3, if_neg k4, if_neg k5, if_neg k6, if_neg k7]
  rw [e]
  obtain ⟨x', h1, h2⟩ := act_pass (n := n) hG htb rfl (by split <;> omega)
  exact ⟨x', ⟨fun q1 q2 => absurd q2 (by omega), fun q1 q2 => absurd q2 (by omega), fun q1 q2 => absurd q2 (by omega), fun q1 q2 => absurd q2 (by omega), fun q1 q2 => absurd q2 (by omega), fun q1 q2 => absurd q2 (by omega), fun q1 q2 => absurd q2 (by omega), fun q1 q2 => absurd q2 (by omega), fun _ _ => h1⟩, h2⟩
theorem step_A {tb mb c4 n : Nat} {pw mk : Nat → Nat} {xs : Nat → Int32} {Ls : Nat} {x : FX} {h : FH} {T E : List Row} (hG : GD tb mb pw mk x h T E) (hm : TRS c4 mk) (hpw : ∀ u, pw u = scel xs Ls (5 + u) / 4 % 100) (htb : tb ≤ 2000 ∧ mb ≤ 2000) (hn : n < 2 ^ 31) : ∃ x', actR xs Ls x n (hAct c4 h T E n).1 x' ∧ GD (tb + 40) (mb + 1) pw mk x' (hAct c4 h T E n).2.1 (hAct c4 h T E n).2.2.1 (hAct c4 h T E n).2.2.2 := by
  obtain ⟨hC, hH⟩ := id hG
  obtain ⟨-, -, -, -, ⟨hTr, hTT⟩, -⟩ := id hC
  obtain ⟨-, -, -, hTl, -⟩ := id hH
  have htc : f_X11_ticketCount (FX.s_T_rows x) = some (nI T.length) := by
    unfold f_X11_ticketCount f_X6_size
    rw [Option.bind_some, hTr]
  have hz : nI T.length = 0 ↔ T.length = 0 := nI_eq (a := T.length) (b := 0) (by omega) (by decide)
  by_cases h0 : 7 ≤ n % 32 ∧ n % 32 < 25 ∧ T.length = 0
  · have e : hAct c4 h T E n = (-8, h, T, E) := if_pos h0
    rw [e]
    exact ⟨x, ⟨nI T.length, 0, htc, Or.inl ⟨h0.1, h0.2.1, hz.mpr h0.2.2, rfl, rfl⟩⟩, hG.mono (by omega) (by omega)⟩
  · have e : hAct c4 h T E n = hActG c4 h T E n (if T.length = 0 then 0 else n / 32 % T.length) (if T.length = 0 then fun _ => 0 else T.getD (n / 32 % T.length) (fun _ => 0)) := if_neg h0
    rw [e]
    by_cases hl : T.length = 0
    · rw [if_pos hl, if_pos hl]
      obtain ⟨x', h1, h2⟩ := step_G (n := n) (at9 := 0) (g := fun _ => 0) (tk := 0) hG hm hpw htb (fun q1 q2 => absurd ⟨q1, q2, hl⟩ h0)
      exact ⟨x', ⟨nI T.length, 0, htc, Or.inr ⟨fun q => h0 ⟨q.1, q.2.1, hl⟩, fun _ => rfl, fun q => absurd (hz.mpr hl) q, h1⟩⟩, h2⟩
    · rw [if_neg hl, if_neg hl]
      have hat : n / 32 % T.length < T.length := Nat.mod_lt _ (by omega)
      have hg : T[n / 32 % T.length]? = some T[n / 32 % T.length] := List.getElem?_eq_getElem hat
      have hgd : T.getD (n / 32 % T.length) (fun _ => 0) = T[n / 32 % T.length] := by rw [List.getD_eq_getElem?_getD, hg]; rfl
      rw [hgd]
      obtain ⟨x', h1, h2⟩ := step_G (n := n) (at9 := n / 32 % T.length) (g := T[n / 32 % T.length]) (tk := T[n / 32 % T.length] 0) hG hm hpw htb (fun q1 q2 => ⟨hg, rfl⟩)
      refine ⟨x', ⟨nI T.length, T[n / 32 % T.length] 0, htc, Or.inr ⟨fun q => hl (hz.mp q.2.2), fun q => absurd (hz.mp q) hl, fun _ => ?_, h1⟩⟩, h2⟩
      unfold f_X11_ticketAt
      rw [show irm (nI (n / 32)) (nI T.length) = nI (n / 32 % T.length) from irm_nI (by omega) (by omega) (by omega), has_at hTr rfl hat (by omega), Option.bind_some, if_neg (by decide), getT (c := 0) (j := 0) hTT hg hTr rfl rfl (by decide) hTl, Option.bind_some]
theorem zr1 : zr 1 = some 1 := by decide
theorem zr0 : zr 0 = some 0 := by decide
theorem agr_of {tb mb : Nat} {pw mk : Nat → Nat} {x : FX} {h : FH} {T E : List Row} (hG : GD tb mb pw mk x h T E) : agR x h T E := by
  obtain ⟨hC, hH⟩ := id hG
  obtain ⟨⟨htm, htol, hsd, hmd⟩, ⟨hRr, hR, hMk⟩, ⟨hUr, hU⟩, ⟨hSr, hS⟩, ⟨hTr, hTT⟩, ⟨hEr, hEE⟩, -⟩ := id hC
  obtain ⟨-, -, hP, hTl, hEl, -⟩ := id hH
  refine ⟨?_, ?_, ?_, ?_, ?_, ?_, ?_, ?_, ?_⟩
  · unfold f_X11_time
    rw [htm]
  · unfold f_X11_seed
    rw [hsd]
  · unfold f_X11_ticketCount f_X6_size
    rw [Option.bind_some, hTr]
  · unfold f_X11_useCount f_X6_size
    rw [Option.bind_some, hEr]
  · unfold f_X11_validTickets hVal
    rw [alive_tb hTT hTr hTl, Option.bind_some, htm]
  · intro k g hg
    have hk := (List.getElem?_eq_some_iff.mp hg).1
    have hrow := row_of (v := g 0) hTT hP hg hTr rfl hTl
    have G : ∀ j, j < 10 → ∀ cc, cc = nI j → f_X6_get 240 10 (FX.s_T_rows x) (FX.s_T_cells x) (nI k) cc = some (g j) := fun j hj cc hc => get_tb hTT hg rfl hTr rfl hc hj (by omega) (by decide) (by omega)
    refine ⟨?_, ?_, ?_, ?_, ?_, ?_, ?_, ?_, ?_, ?_, ?_⟩
    · unfold f_X11_ticketAt
      rw [has_at hTr rfl hk (by omega), Option.bind_some, if_neg (by decide), G 0 (by decide) 0 rfl, Option.bind_some]
    · unfold f_X11_kindOf
      rw [hrow, Option.bind_some, if_pos rfl, G 1 (by decide) 1 rfl, Option.bind_some]
    · unfold f_X11_ownerOf
      rw [hrow, Option.bind_some, if_pos rfl, G 2 (by decide) 2 rfl, Option.bind_some]
    · unfold f_X11_realmOf
      rw [hrow, Option.bind_some, if_pos rfl, G 3 (by decide) 3 rfl, Option.bind_some]
    · unfold f_X11_serviceOf
      rw [hrow, Option.bind_some, if_pos rfl, G 4 (by decide) 4 rfl, Option.bind_some]
    · unfold f_X11_startOf
      rw [hrow, Option.bind_some, if_pos rfl, G 5 (by decide) 5 rfl, Option.bind_some]
    · unfold f_X11_endOf
      rw [hrow, Option.bind_some, if_pos rfl, G 6 (by decide) 6 rfl, Option.bind_some]
    · unfold f_X11_lastEndOf
      rw [hrow, Option.bind_some, if_pos rfl, G 7 (by decide) 7 rfl, Option.bind_some]
    · unfold f_X11_keyOf
      rw [hrow, Option.bind_some, if_pos rfl, G 8 (by decide) 8 rfl, Option.bind_some]
    · unfold f_X11_isRenewable
      rw [hrow, Option.bind_some, if_pos rfl, renewable_eq hTT hg hTr rfl hTl, Option.bind_some]
      by_cases h9 : g 9 = 1
      · rw [if_pos h9, zr1, Option.bind_some]
      · rw [if_neg h9, zr0, Option.bind_some]
    · unfold f_X11_isValid
      rw [hrow, Option.bind_some, if_pos rfl, isAlive_tb hTT hg hTr rfl hTl, Option.bind_some, htm]
      by_cases h6 : FH.time h < g 6
      · rw [if_pos (show live (FH.time h) g = true from decide_eq_true h6), zr1, Option.bind_some, if_pos h6]
      · rw [if_neg (show ¬ live (FH.time h) g = true by unfold live; simp [h6]), zr0, Option.bind_some, if_neg h6]
  · intro k hk
    obtain ⟨u1, u2, u3, u4⟩ := hU k hk
    refine ⟨?_, ?_⟩
    · unfold f_X11_cheesesOf
      rw [chkU hUr hk, Option.bind_some, if_pos rfl, hUr, get_U (c := 4) (j := 4) rfl rfl hk (by decide), Option.bind_some, u4]
    · unfold f_X11_clockOf
      rw [chkR hRr hk, Option.bind_some, if_pos rfl, hRr, get_R (c := 3) (j := 3) rfl rfl hk (by decide), Option.bind_some, (hR k hk).2.2, htm]
  · have h1 := chkS (u := 0) hSr (by decide)
    unfold f_X11_cheesesLeft
    rw [show f_X11_checkService (FX.s_S_rows x) 0 = some 0 from h1, Option.bind_some, if_pos rfl, hSr, get_S (v := 0) (c := 2) (i := 0) (j := 2) rfl rfl (by decide) (by decide), Option.bind_some, (hS 0 (by decide)).2]
  · have h1 := chkS (u := 1) hSr (by decide)
    unfold f_X11_cheesesLeft
    rw [show f_X11_checkService (FX.s_S_rows x) 1 = some 0 from h1, Option.bind_some, if_pos rfl, hSr, get_S (v := 1) (c := 2) (i := 1) (j := 2) rfl rfl (by decide) (by decide), Option.bind_some, (hS 1 (by decide)).2]
theorem sum_S {V : Nat → Int32} : f_X6_sumOf 18 3 2 V 2 = some (V 2 + V 5) := by
  unfold f_X6_sumOf
  rw [show (5000 : Nat) = 4997 + 1 + 1 + 1 from rfl, f_X6_sumOf_L4, if_neg (by decide), get_S (v := 0) (c := 2) (i := 0) (j := 2) rfl rfl (by decide) (by decide), Option.bind_some, f_X6_sumOf_L4, if_neg (by decide), get_S (v := 0 + 1) (c := 2) (i := 1) (j := 2) rfl rfl (by decide) (by decide), Option.bind_some, f_X6_sumOf_L4, if_pos (by decide), Option.bind_some]
  simp
theorem sum_U {V : Nat → Int32} : f_X6_sumOf 30 5 3 V 4 = some (V 4 + V 9 + V 14) := by
  unfold f_X6_sumOf
  rw [show (5000 : Nat) = 4996 + 1 + 1 + 1 + 1 from rfl, f_X6_sumOf_L4, if_neg (by decide), get_U (v := 0) (c := 4) (i := 0) (j := 4) rfl rfl (by decide) (by decide), Option.bind_some, f_X6_sumOf_L4, if_neg (by decide), get_U (v := 0 + 1) (c := 4) (i := 1) (j := 4) rfl rfl (by decide) (by decide), Option.bind_some, f_X6_sumOf_L4, if_neg (by decide), get_U (v := 0 + 1 + 1) (c := 4) (i := 2) (j := 4) rfl rfl (by decide) (by decide), Option.bind_some, f_X6_sumOf_L4, if_pos (by decide), Option.bind_some]
  simp
theorem diff_of {tb mb : Nat} {pw mk : Nat → Nat} {x : FX} {h : FH} {T E : List Row} (hG : GD tb mb pw mk x h T E) : f_X11_cheeseDifference (FX.s_cheesesOfText x) (FX.s_U_rows x) (FX.s_U_cells x) (FX.s_S_rows x) (FX.s_S_cells x) = some 0 := by
  obtain ⟨hC, hH⟩ := id hG
  obtain ⟨-, -, ⟨hUr, hU⟩, ⟨hSr, hS⟩, -⟩ := id hC
  obtain ⟨-, -, -, -, -, -, -, hc⟩ := id hH
  unfold f_X11_cheeseDifference
  rw [hUr, hSr, sum_S, Option.bind_some, sum_U, Option.bind_some, show FX.s_S_cells x 2 = FH.left h 0 from (hS 0 (by decide)).2, show FX.s_S_cells x 5 = FH.left h 1 from (hS 1 (by decide)).2, show FX.s_U_cells x 4 = FH.had h 0 from (hU 0 (by decide)).2.2.2, show FX.s_U_cells x 9 = FH.had h 1 from (hU 1 (by decide)).2.2.2, show FX.s_U_cells x 14 = FH.had h 2 from (hU 2 (by decide)).2.2.2, hc]
theorem lives_of {tb mb : Nat} {pw mk : Nat → Nat} {x : FX} {h : FH} {T E : List Row} (hG : GD tb mb pw mk x h T E) : f_X11_lifeErrors (FX.s_T_rows x) (FX.s_T_cells x) = some 0 := by
  obtain ⟨hC, hH⟩ := id hG
  obtain ⟨-, -, -, -, ⟨hTr, hTT⟩, -⟩ := id hC
  obtain ⟨-, ⟨mm, hmm, hnx, hTo⟩, hP, hTl, -⟩ := id hH
  refine lifeE_tb hTT hTr hTl (fun g hg => ?_)
  obtain ⟨-, -, -, -, ⟨a, b, c, h5, h6, h7, h1, h2, h3⟩, -⟩ := hTo g hg
  rw [h5, h6, h7]
  exact ⟨nI_ge h1 (by omega), nI_le h2 (by omega)⟩
theorem rowok_of {m : Nat} {g : Row} (h : RW m g) : rowOK g := by
  obtain ⟨-, ⟨u, hu, h2⟩, hr, h14, -⟩ := h
  refine ⟨by rw [h2]; exact vp_in_nI hu (by decide), hr, fun h1 => ?_⟩
  rcases h14 with ⟨q, -⟩ | ⟨-, s, hs, h4⟩
  · rw [q] at h1
    exact absurd h1 (by decide)
  · rw [h4]
    exact vp_in_nI hs (by decide)
