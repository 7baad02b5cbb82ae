/-! PURE: the class and the Hand. -/
/-- the class holds what the Hand holds -/
def CLS (x : FX) (h : FH) (pw mk : Nat → Nat) (T E : List Row) : Prop :=
  (FX.s_time x = FH.time h ∧ FX.s_tolerance x = FH.tol h ∧ FX.s_seed x = FH.seed h ∧ FX.s_madeTickets x = FH.next h) ∧
  (FX.s_R_rows x = 3 ∧ RLM3 (FX.s_R_cells x) h ∧ ∀ i, i < 3 → FX.s_R_cells x (i * 5 + 4) = nI (mk i)) ∧
  (FX.s_U_rows x = 3 ∧ ∀ i, i < 3 → FX.s_U_cells x (i * 5 + 1) = FH.home h i ∧ FX.s_U_cells x (i * 5 + 2) = nI (pw i) ∧ FX.s_U_cells x (i * 5 + 3) = FH.own h i ∧ FX.s_U_cells x (i * 5 + 4) = FH.had h i) ∧
  (FX.s_S_rows x = 2 ∧ ∀ i, i < 2 → FX.s_S_cells x (i * 3 + 1) = FH.place h i ∧ FX.s_S_cells x (i * 3 + 2) = FH.left h i) ∧
  (FX.s_T_rows x = nI T.length ∧ TB 10 (FX.s_T_cells x) T) ∧
  (FX.s_E_rows x = nI E.length ∧ TB 4 (FX.s_E_cells x) E) ∧
  ∃ a, a < 8 ∧ FX.nextPast x = nI a
/-- a ticket's numbers; m bounds its own -/
def RW (m : Nat) (g : Row) : Prop := (∃ n, n < m ∧ g 0 = nI n) ∧ (∃ u, u < 3 ∧ g 2 = nI u) ∧ (∃ r, r < 3 ∧ g 3 = nI r) ∧ ((g 1 = 0 ∧ g 4 = -1) ∨ (g 1 = 1 ∧ ∃ s, s < 2 ∧ g 4 = nI s)) ∧ (∃ a b c, g 5 = nI a ∧ g 6 = nI b ∧ g 7 = nI c ∧ a < b ∧ b ≤ c ∧ c ≤ 4000) ∧ (g 9 = 0 ∨ g 9 = 1)
/-- the Hand's own bounds -/
def HIN (tb mb : Nat) (cot : Int32) (h : FH) (T E : List Row) : Prop :=
  (∃ t o, t ≤ tb ∧ FH.time h = nI t ∧ o < 4 ∧ FH.tol h = nI o ∧ ∀ w ∈ E, ∃ m, w 3 = nI m ∧ m ≤ t ∧ t ≤ m + o) ∧
  (∃ m, m ≤ mb ∧ FH.next h = nI m ∧ ∀ g ∈ T, RW m g) ∧
  T.Pairwise (fun a b => a 0 ≠ b 0) ∧ T.length ≤ 24 ∧ E.length ≤ 30 ∧
  (∀ i, i < 3 → (∃ l, 1 ≤ l ∧ l ≤ 60 ∧ FH.life h i = nI l) ∧ (∃ a, a ≤ 199 ∧ FH.again h i = nI a) ∧ ∃ r, r < 3 ∧ FH.home h i = nI r) ∧
  (∀ i, i < 2 → ∃ r, r < 3 ∧ FH.place h i = nI r) ∧
  ((cot - (FH.left h 0 + FH.left h 1)) - (FH.had h 0 + FH.had h 1 + FH.had h 2) = 0)
theorem remember_eq {a : Nat} {np pc s1 s2 s3 s4 s5 s6 : Int32} {c6 : Nat → Int32} {s7 : Int32} {c7 : Nat → Int32} {s8 : Int32} {c8 : Nat → Int32} {s9 : Int32} {c9 : Nat → Int32} {s0 : Int32} {c0 : Nat → Int32} {pa : Nat → Option SV} (ha : a < 8) (hn : np = nI a) : ∃ pc' pa', f_X11_remember np pc s1 s2 s3 s4 s5 s6 c6 s7 c7 s8 c8 s9 c9 s0 c0 pa = some (0, nI ((a + 1) % 8), pc', pa') := by
  subst hn
  unfold f_X11_remember
  rw [if_neg (vp_in_nI ha (by decide)), nI_1, show irm (nI (a + 1)) 8 = nI ((a + 1) % 8) from irm_nI (by omega) (by decide) (by decide)]
  exact ⟨_, _, rfl⟩
theorem next_lt (a : Nat) : (a + 1) % 8 < 8 := Nat.mod_lt _ (by decide)
theorem one_back (x : Int32) : x + 1 - 1 = x := by simp
theorem skew_eq {x : FX} {h : FH} {pw mk : Nat → Nat} {T E : List Row} {u r : Nat} {v w : Int32} (hC : CLS x h pw mk T E) (hv : v = nI u) (hw : w = nI r) (hu : u < 3) (hr : r < 3) : f_X5_skewOf 3 (FX.s_R_cells x) 3 (FX.s_U_cells x) v w = some (iabs (FH.own h u - FH.fast h r)) := by
  obtain ⟨-, ⟨-, hR, -⟩, ⟨-, hU⟩, -⟩ := hC
  unfold f_X5_skewOf
  rw [get_U (c := 3) (j := 3) hv rfl hu (by decide), Option.bind_some, get_R (c := 3) (j := 3) hw rfl hr (by decide), Option.bind_some, (hU u hu).2.2.1, (hR r hr).2.2]
theorem hSk_iff {h : FH} {u r : Nat} (hu : u < 3) (hr : r < 3) : (hSk h (nI u) (nI r) = true) = ¬ (iabs (FH.own h u - FH.fast h r) ≤ FH.tol h) := by
  unfold hSk
  rw [nI_clamp (by omega), nI_clamp (by omega)]
  simp
theorem full_T {r : Int32} {n : Nat} (hr : r = nI n) (hn : n ≤ 24) : f_X6_isFull 240 24 r = some (if n = 24 then 1 else 0) := by
  subst hr
  unfold f_X6_isFull
  by_cases h : n = 24
  · rw [if_neg (show ¬ nI n < 24 from nI_nlt (a := n) (b := 24) (by omega) (by omega)), if_pos h]
  · rw [if_pos (show nI n < 24 from nI_lt (a := n) (b := 24) (by omega) (by decide)), if_neg h]
/-- a ticket that is made fits -/
theorem makes_ok {tb mb : Nat} {cot : Int32} {h : FH} {T E : List Row} {ow re sv en la rn : Int32} {u r a b : Nat} (hH : HIN tb mb cot h T E) (hmb : mb ≤ 2000) (h24 : T.length ≠ 24) (hu : u < 3) (how : ow = nI u) (hr : r < 3) (hre : re = nI r) (hsv : sv = -1 ∨ ∃ s, s < 2 ∧ sv = nI s) (hen : en = nI a) (hla : la = nI b) (hlife : ∀ t, FH.time h = nI t → t ≤ tb → t < a) (ha : a ≤ 4000) (hb : b ≤ 4000) (hrn : rn = 0 ∨ rn = 1) : HIN tb (mb + 1) cot (hMakes h T ow re sv en la rn).2.1 (hMakes h T ow re sv en la rn).2.2 E := by
  obtain ⟨⟨t, o, ht, htm, ho, hto, hE⟩, ⟨m, hm, hnx, hT⟩, hP, hTl, hEl, hA, hB, hc⟩ := hH
  obtain ⟨q0, q1, q2, q3, q4, q5, q6, q7, q8, q9⟩ := @mkRow_at h ow re sv en la rn
  refine ⟨⟨t, o, ht, htm, ho, hto, hE⟩, ⟨m + 1, by omega, by show FH.next h + 1 = _; rw [hnx, nI_1], ?_⟩, ?_, ?_, hEl, hA, hB, hc⟩
  · intro g hg
    rcases List.mem_append.mp hg with hg | hg
    · obtain ⟨⟨n, hn, hn2⟩, hrest⟩ := hT g hg
      exact ⟨⟨n, by omega, hn2⟩, hrest⟩
    · obtain rfl := List.mem_singleton.mp hg
      refine ⟨⟨m, by omega, q0.trans hnx⟩, ⟨u, hu, q2.trans how⟩, ⟨r, hr, q3.trans hre⟩, ?_, ?_, ?_⟩
      · rcases hsv with hs | ⟨s, hs, hs2⟩
        · left
          exact ⟨by rw [q1, hs]; rfl, q4.trans hs⟩
        · right
          exact ⟨by rw [q1, hs2, if_pos (show (0 : Int32) ≤ nI s from nI_le (a := 0) (Nat.zero_le _) (by omega))], s, hs, q4.trans hs2⟩
      · have hta := hlife t htm ht
        by_cases h1 : rn = 1
        · refine ⟨t, a, max a b, q5.trans htm, q6.trans hen, ?_, hta, Nat.le_max_left _ _, by omega⟩
          rw [q7, if_pos h1, hla, hen]
          unfold imax
          by_cases h2 : b < a
          · rw [if_pos (nI_lt h2 (by omega)), Nat.max_eq_left (by omega)]
          · rw [if_neg (nI_nlt (by omega) (by omega)), Nat.max_eq_right (by omega)]
        · exact ⟨t, a, a, q5.trans htm, q6.trans hen, by rw [q7, if_neg h1, hen], hta, Nat.le_refl _, ha⟩
      · rw [q9]
        exact hrn
  · refine List.pairwise_append.mpr ⟨hP, List.pairwise_singleton _ _, ?_⟩
    intro g hg f hf
    obtain rfl := List.mem_singleton.mp hf
    obtain ⟨⟨n, hn, hn2⟩, -⟩ := hT g hg
    rw [hn2, q0, hnx]
    exact fun z => by have := (nI_eq (by omega) (by omega)).mp z; omega
  · show (T ++ [_]).length ≤ 24
    rw [List.length_append, List.length_singleton]
    omega
