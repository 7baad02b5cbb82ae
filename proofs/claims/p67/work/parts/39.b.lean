/-! PURE: distances, for every trust of three realms. -/
theorem cg_trust {R R0 : Nat → Int32} (hg : ∀ v, f_X6_get 25 5 3 R v 4 = f_X6_get 25 5 3 R0 v 4) (v w : Int32) : f_X2_hasTrust 3 R v w = f_X2_hasTrust 3 R0 v w := by
  unfold f_X2_hasTrust
  rw [hg]
theorem cg_some {R R0 : Nat → Int32} (hg : ∀ v, f_X6_get 25 5 3 R v 4 = f_X6_get 25 5 3 R0 v 4) (a : Int32) : ∀ (fu : Nat) (v w : Int32), f_X2_trustedBySome_L4 3 R a fu v w = f_X2_trustedBySome_L4 3 R0 a fu v w := by
  intro fu
  induction fu with
  | zero => intro v w; rfl
  | succ fu ih =>
    intro v w
    unfold f_X2_trustedBySome_L4
    simp only [hg, ih]
theorem cg_by {R R0 : Nat → Int32} (hg : ∀ v, f_X6_get 25 5 3 R v 4 = f_X6_get 25 5 3 R0 v 4) (a : Int32) : f_X2_trustedBySome 3 R a = f_X2_trustedBySome 3 R0 a := by
  unfold f_X2_trustedBySome
  rw [cg_some hg]
theorem cg_ref {R R0 : Nat → Int32} (hg : ∀ v, f_X6_get 25 5 3 R v 4 = f_X6_get 25 5 3 R0 v 4) (a : Int32) : ∀ (fu : Nat) (v w : Int32), f_X2_referrals_L7 3 R a fu v w = f_X2_referrals_L7 3 R0 a fu v w := by
  intro fu
  induction fu with
  | zero => intro v w; rfl
  | succ fu ih =>
    intro v w
    unfold f_X2_referrals_L7
    simp only [cg_by hg, ih]
theorem cg_L17 {R R0 : Nat → Int32} (hg : ∀ v, f_X6_get 25 5 3 R v 4 = f_X6_get 25 5 3 R0 v 4) (a b : Int32) : ∀ (fu : Nat) (C : Nat → Int32) (w : Int32), f_X10_addDirect_L17 a 3 R b fu C w = f_X10_addDirect_L17 a 3 R0 b fu C w := by
  intro fu
  induction fu with
  | zero => intro C w; rfl
  | succ fu ih =>
    intro C w
    unfold f_X10_addDirect_L17
    simp only [cg_trust hg, ih]
theorem cg_L2 {R R0 : Nat → Int32} (hg : ∀ v, f_X6_get 25 5 3 R v 4 = f_X6_get 25 5 3 R0 v 4) : ∀ (fu : Nat) (a : Int32) (C : Nat → Int32) (w : Int32), f_X10_addDirect_L2 3 R fu a C w = f_X10_addDirect_L2 3 R0 fu a C w := by
  intro fu
  induction fu with
  | zero => intro a C w; rfl
  | succ fu ih =>
    intro a C w
    unfold f_X10_addDirect_L2
    simp only [cg_L17 hg, ih]
theorem cg_L49 {R R0 : Nat → Int32} (hg : ∀ v, f_X6_get 25 5 3 R v 4 = f_X6_get 25 5 3 R0 v 4) (a : Int32) (W : Nat → Int32) (b : Int32) : ∀ (fu : Nat) (v w : Int32), f_X2_countDistanceErrors_L49 3 R a W b fu v w = f_X2_countDistanceErrors_L49 3 R0 a W b fu v w := by
  intro fu
  induction fu with
  | zero => intro v w; rfl
  | succ fu ih =>
    intro v w
    unfold f_X2_countDistanceErrors_L49 f_X2_referrals
    simp only [cg_ref hg, ih]
theorem cg_L38 {R R0 : Nat → Int32} (hg : ∀ v, f_X6_get 25 5 3 R v 4 = f_X6_get 25 5 3 R0 v 4) (a : Int32) (W : Nat → Int32) : ∀ (fu : Nat) (v w : Int32), f_X2_countDistanceErrors_L38 3 R a W fu v w = f_X2_countDistanceErrors_L38 3 R0 a W fu v w := by
  intro fu
  induction fu with
  | zero => intro v w; rfl
  | succ fu ih =>
    intro v w
    unfold f_X2_countDistanceErrors_L38
    simp only [cg_L49 hg, ih]
theorem cg_dist {R R0 : Nat → Int32} (hg : ∀ v, f_X6_get 25 5 3 R v 4 = f_X6_get 25 5 3 R0 v 4) : f_X11_distanceErrors 3 R = f_X11_distanceErrors 3 R0 := by
  unfold f_X11_distanceErrors f_X2_countDistanceErrors f_X2_cderest f_X10_addDirect
  simp only [cg_L2 hg, cg_L38 hg]
/-- realms that hold their trust alone -/
def onlyT (a b c : Nat) : Nat → Int32 := fun j => if j = 4 then nI a else if j = 9 then nI b else if j = 14 then nI c else 0
theorem onlyT_get {R : Nat → Int32} {a b c : Nat} (h0 : R 4 = nI a) (h1 : R 9 = nI b) (h2 : R 14 = nI c) (v : Int32) : f_X6_get 25 5 3 R v 4 = f_X6_get 25 5 3 (onlyT a b c) v 4 := by
  by_cases hv : v < 0
  · unfold f_X6_get
    rw [if_pos hv]
    rfl
  · by_cases hw : 3 ≤ v
    · unfold f_X6_get
      rw [if_neg hv, if_pos hw]
      rfl
    · have e : v = nI 0 ∨ v = nI 1 ∨ v = nI 2 := by
        have q1 := Int32.not_lt.mp hv
        have q2 := Int32.not_le.mp hw
        rw [Int32.le_iff_toInt_le] at q1
        rw [Int32.lt_iff_toInt_lt] at q2
        have e0 : (0 : Int32).toInt = 0 := by decide
        have e3 : (3 : Int32).toInt = 3 := by decide
        rw [e0] at q1
        rw [e3] at q2
        have q3 : v.toInt = 0 ∨ v.toInt = 1 ∨ v.toInt = 2 := by omega
        rcases q3 with q | q | q
        · exact Or.inl (Int32.toInt_inj.mp (q.trans (by decide)))
        · exact Or.inr (Or.inl (Int32.toInt_inj.mp (q.trans (by decide))))
        · exact Or.inr (Or.inr (Int32.toInt_inj.mp (q.trans (by decide))))
      rcases e with rfl | rfl | rfl
      · rw [get_R (c := 4) (i := 0) (j := 4) rfl rfl (by decide) (by decide), get_R (c := 4) (i := 0) (j := 4) rfl rfl (by decide) (by decide)]
        exact congrArg some h0
      · rw [get_R (c := 4) (i := 1) (j := 4) rfl rfl (by decide) (by decide), get_R (c := 4) (i := 1) (j := 4) rfl rfl (by decide) (by decide)]
        exact congrArg some h1
      · rw [get_R (c := 4) (i := 2) (j := 4) rfl rfl (by decide) (by decide), get_R (c := 4) (i := 2) (j := 4) rfl rfl (by decide) (by decide)]
        exact congrArg some h2
theorem dist_all : ∀ a ∈ [0, 2, 4, 6], ∀ b ∈ [0, 1, 4, 5], ∀ c ∈ [0, 1, 2, 3], f_X11_distanceErrors 3 (onlyT a b c) = some 0 := by decide +kernel
theorem mask_in : ∀ m, m < 8 → (m.testBit 0 = false → m ∈ [0, 2, 4, 6]) ∧ (m.testBit 1 = false → m ∈ [0, 1, 4, 5]) ∧ (m.testBit 2 = false → m ∈ [0, 1, 2, 3]) := by decide +kernel
theorem dist_of {tb mb c4 : Nat} {pw mk : Nat → Nat} {x : FX} {h : FH} {T E : List Row} (hG : GD tb mb pw mk x h T E) (hm : TRS c4 mk) : f_X11_distanceErrors (FX.s_R_rows x) (FX.s_R_cells x) = some 0 := by
  obtain ⟨hC, -⟩ := id hG
  obtain ⟨-, ⟨hRr, -, hMk⟩, -⟩ := id hC
  have hd : ∀ i, trB c4 i i = false := fun i => by unfold trB; simp
  rw [hRr, cg_dist (onlyT_get (hMk 0 (by decide)) (hMk 1 (by decide)) (hMk 2 (by decide)))]
  refine dist_all _ ?_ _ ?_ _ ?_
  · exact (mask_in _ (hm 0 (by decide)).1).1 (((hm 0 (by decide)).2 0 (by decide)).trans (hd 0))
  · exact (mask_in _ (hm 1 (by decide)).1).2.1 (((hm 1 (by decide)).2 1 (by decide)).trans (hd 1))
  · exact (mask_in _ (hm 2 (by decide)).1).2.2 (((hm 2 (by decide)).2 2 (by decide)).trans (hd 2))
/-- the relation that an act keeps -/
def RELP (c4 : Nat) (pw mk : Nat → Nat) (t : Nat) (x : FX) (h : FH) (T E : List Row) : Prop := t ≤ 36 ∧ TRS c4 mk ∧ GD (40 * (36 - t)) (36 - t) pw mk x h T E
theorem step_all {pw mk : Nat → Nat} {xs : Nat → Int32} {Ls : Nat} (hpw : ∀ u, pw u = scel xs Ls (5 + u) / 4 % 100) (t : Nat) : STEP (scel xs Ls 4) xs Ls (RELP (scel xs Ls 4) pw mk (t + 1)) (RELP (scel xs Ls 4) pw mk t) := by
  intro x h T E n hr hn
  obtain ⟨ht, hm, hG⟩ := hr
  obtain ⟨hC, hH⟩ := id hG
  obtain ⟨-, ⟨mm, hmm, hnx, hTo⟩, -, hTl, hEl, hA, -⟩ := id hH
  refine ⟨⟨hTl, hEl, fun g hg => rowok_of (hTo g hg), fun u hu => ?_⟩, ?_⟩
  · obtain ⟨-, -, r, hr, hhr⟩ := hA u hu
    rw [hhr]
    exact vp_in_nI hr (by decide)
  · obtain ⟨x', h1, h2⟩ := step_A hG hm hpw (by omega) hn
    have h3 : GD (40 * (36 - t)) (36 - t) pw mk x' (hAct (scel xs Ls 4) h T E n).2.1 (hAct (scel xs Ls 4) h T E n).2.2.1 (hAct (scel xs Ls 4) h T E n).2.2.2 := h2.mono (by omega) (by omega)
    obtain ⟨-, -, -, hl3, hl4, -⟩ := id h3.2
    exact ⟨x', h1, ⟨by omega, hm, h3⟩, hl3, hl4, agr_of h3, diff_of h3, lives_of h3, dist_of h3 hm⟩
