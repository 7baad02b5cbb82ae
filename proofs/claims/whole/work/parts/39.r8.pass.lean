/-! PURE: tickets that live are counted; time passes. -/
def pal (g : Nat → Int32) (tm : Int32) : Nat → Bool := fun i => decide (¬ g (103 + 10 * i + 6) ≤ tm)
theorem cnt_imp {p q : Nat → Bool} : ∀ n, (∀ i, i < n → p i = true → q i = true) → cnt p n ≤ cnt q n := by
  intro n
  induction n with
  | zero => intro _; exact Nat.le_refl 0
  | succ n ih =>
    intro h
    have h1 := ih (fun i hi => h i (by omega))
    by_cases hp : p n = true
    · rw [cnt_yes hp, cnt_yes (h n (by omega) hp)]; omega
    · rw [cnt_no hp]
      exact Nat.le_trans h1 cnt_step
theorem cnt_congr {p q : Nat → Bool} : ∀ n, (∀ i, i < n → p i = q i) → cnt p n = cnt q n := by
  intro n
  induction n with
  | zero => intro _; rfl
  | succ n ih =>
    intro h
    have h1 := ih (fun i hi => h i (by omega))
    show cnt p n + (if p n = true then 1 else 0) = cnt q n + (if q n = true then 1 else 0)
    rw [h1, h n (by omega)]
theorem alive_L {Tr tm : Int32} {T g : Nat → Int32} {k : Nat} (hT : TKT Tr T g k) : ∀ (n j : Nat) (x a : Int32), x.toInt = (j : Int) → j ≤ k → k < j + n → a.toInt = ((cnt (pal g tm) j : Nat) : Int) → ∃ b, f_X7_countAlive_L4 Tr T tm n a x = some b ∧ b.toInt = ((cnt (pal g tm) k : Nat) : Int) := by
  have hk := hT.2.1
  intro n
  induction n with
  | zero => intro j x a hx hj hn; omega
  | succ n ih =>
    intro j x a hx hj hn ha
    rw [f_X7_countAlive_L4]
    simp only [f_X6_size, ob_some]
    by_cases hq : Tr ≤ x
    · have hjk : j = k := by
        rw [ti_le hT.1 hx] at hq
        omega
      rw [if_pos hq]
      exact ⟨a, rfl, by rw [ha, hjk]⟩
    · have hjk : j < k := by
        rw [ti_le hT.1 hx] at hq
        omega
      have hcl := cnt_le (p := pal g tm) j
      rw [if_neg hq, alive_c hT hx hjk, ob_some, if_some, ob_some]
      by_cases hl : g (103 + 10 * j + 6) ≤ tm
      · have e1 : alv (g (103 + 10 * j + 6)) tm = 0 := if_pos hl
        have e2 : ¬ pal g tm j = true := fun z => of_decide_eq_true z hl
        rw [if_pos e1, Int32.add_zero]
        exact ih (j + 1) (x + 1) a (ti_inc hx (by omega)) hjk (by omega) (by rw [ha, cnt_no e2])
      · have e1 : ¬ alv (g (103 + 10 * j + 6)) tm = 0 := fun z => hl (by rw [alv_zero] at z; exact z)
        have e2 : pal g tm j = true := decide_eq_true hl
        rw [if_neg e1]
        exact ih (j + 1) (x + 1) (a + 1) (ti_inc hx (by omega)) hjk (by omega) (by rw [ti_inc ha (by omega), cnt_yes e2])
theorem living_L {g : Nat → Int32} {k : Nat} (h6 : (g 6).toInt = (k : Int)) (hk : k ≤ 24) : ∀ (n j : Nat) (x a : Int32), x.toInt = (j : Int) → j ≤ k → k < j + n → a.toInt = ((cnt (pal g (g 0)) j : Nat) : Int) → ∃ b, f_X12_living_L4 g n a x = some b ∧ b.toInt = ((cnt (pal g (g 0)) k : Nat) : Int) := by
  intro n
  induction n with
  | zero => intro j x a hx hj hn; omega
  | succ n ih =>
    intro j x a hx hj hn ha
    rw [f_X12_living_L4]
    simp only [zM6, ob_some]
    by_cases hq : g 6 ≤ x
    · have hjk : j = k := by
        rw [ti_le h6 hx] at hq
        omega
      rw [if_pos hq]
      exact ⟨a, rfl, by rw [ha, hjk]⟩
    · have hjk : j < k := by
        rw [ti_le h6 hx] at hq
        omega
      have hcl := cnt_le (p := pal g (g 0)) j
      rw [if_neg hq, lives_m hx (by omega), ob_some, if_some, ob_some]
      by_cases hl : g (103 + 10 * j + 6) ≤ g 0
      · have e1 : alv (g (103 + 10 * j + 6)) (g 0) = 0 := if_pos hl
        have e2 : ¬ pal g (g 0) j = true := fun z => of_decide_eq_true z hl
        rw [if_pos e1, Int32.add_zero]
        exact ih (j + 1) (x + 1) a (ti_inc hx (by omega)) hjk (by omega) (by rw [ha, cnt_no e2])
      · have e1 : ¬ alv (g (103 + 10 * j + 6)) (g 0) = 0 := fun z => hl (by rw [alv_zero] at z; exact z)
        have e2 : pal g (g 0) j = true := decide_eq_true hl
        rw [if_neg e1]
        exact ih (j + 1) (x + 1) (a + 1) (ti_inc hx (by omega)) hjk (by omega) (by rw [ti_inc ha (by omega), cnt_yes e2])
theorem alive_all {Tr : Int32} {T g : Nat → Int32} {k : Nat} (hT : TKT Tr T g k) (tm : Int32) : ∃ b, f_X7_countAlive Tr T tm = some b ∧ b.toInt = ((cnt (pal g tm) k : Nat) : Int) := by
  have hk := hT.2.1
  obtain ⟨b, h1, h2⟩ := alive_L (tm := tm) hT 5000 0 0 0 (by decide) (by omega) (by omega) ti_zero
  refine ⟨b, ?_, h2⟩
  unfold f_X7_countAlive
  rw [h1, ob_some]
theorem living_all {g : Nat → Int32} {k : Nat} (h6 : (g 6).toInt = (k : Int)) (hk : k ≤ 24) : ∃ b, f_X12_living g = some b ∧ b.toInt = ((cnt (pal g (g 0)) k : Nat) : Int) := by
  obtain ⟨b, h1, h2⟩ := living_L h6 hk 5000 0 0 0 (by decide) (by omega) (by omega) ti_zero
  refine ⟨b, ?_, h2⟩
  unfold f_X12_living
  rw [h1, ob_some]
theorem pal_congr {g g' : Nat → Int32} {tm : Int32} {k : Nat} (hk : k ≤ 24) (h : ∀ j, 103 ≤ j → j < 343 → g' j = g j) : cnt (pal g' tm) k = cnt (pal g tm) k := cnt_congr k (fun i hi => by
  unfold pal
  rw [h _ (by omega) (by omega)])
/-- both sides count alike, at a time that the reference's row holds -/
theorem alive_same {Tr tm : Int32} {T g g' : Nat → Int32} {k : Nat} (hT : TKT Tr T g k) (h0 : g' 0 = tm) (h6 : g' 6 = g 6) (h : ∀ j, 103 ≤ j → j < 343 → g' j = g j) : ∃ b, f_X7_countAlive Tr T tm = some b ∧ f_X12_living g' = some b ∧ b.toInt = ((cnt (pal g tm) k : Nat) : Int) := by
  obtain ⟨b, h1, h2⟩ := alive_all hT tm
  obtain ⟨c, h3, h4⟩ := living_all (g := g') (k := k) (by rw [h6, hT.2.2.1]; exact hT.1) hT.2.1
  rw [h0, pal_congr hT.2.1 h] at h4
  have hbc : b = c := ti_eq (by rw [h2, h4])
  subst hbc
  exact ⟨b, h1, h3, h2⟩
theorem pass_do {tb mb : Nat} {tm tol seed made cot Rr : Int32} {R : Nat → Int32} {Ur : Int32} {U : Nat → Int32} {Vr : Int32} {V : Nat → Int32} {Tr : Int32} {T : Nat → Int32} {Er : Int32} {E : Nat → Int32} {g : Nat → Int32} {mn : Int32} (h : ST tb mb tm tol seed made cot Rr R Ur U Vr V Tr T Er E g) (htb : tb ≤ 1200000) (hm0 : 0 ≤ mn.toInt) (hm1 : mn.toInt ≤ 999) : ∃ o3 o5 Er' E' g', f_X11_validTickets tm Tr T = some o3 ∧ f_X5_letPass tm tol Er E mn = some (tm + mn, Er', E') ∧ f_X11_validTickets (tm + mn) Tr T = some o5 ∧ f_X12_passes g mn = some (o3 - o5, g') ∧ 0 ≤ (o3 - o5).toInt ∧ ST (tb + 999) mb (tm + mn) tol seed made cot Rr R Ur U Vr V Tr T Er' E' g' := by
  obtain ⟨r, u, s, k, e, ⟨y0, y1, y2, y7, y9⟩, ⟨hR, hR2, hR3⟩, ⟨hU, hU2⟩, ⟨hS, hS2⟩, hT, hE, ⟨z1, z2, z3, z4, z5, z6⟩, hRI, hUI, hSI, hTI, hEI, hUZ⟩ := h
  obtain ⟨g3, g4, g5, g6, g8⟩ := ST_gs (tb := 0) (mb := 0) (tm := 0) (tol := 0) (seed := 0) (made := 0) (cot := 0) hR hU hS hT hE
  have hk24 := hT.2.1
  have he30 := hE.2.1
  have t1 : (g 0 + mn).toInt = (g 0).toInt + mn.toInt := ti_add rfl rfl (by omega) (by omega)
  have t2 : (g 0 + mn - g 1).toInt = (g 0).toInt + mn.toInt - (g 1).toInt := ti_sub t1 rfl (by omega) (by omega)
  have hpe : ∀ i, i < e → (¬ g 1 < g 0 + mn - g (343 + 4 * i + 3) ↔ g 0 + mn - g 1 ≤ g (343 + 4 * i + 3)) := fun i hi => by
    obtain ⟨w1, w2⟩ := hEI i hi
    have t3 : (g 0 + mn - g (343 + 4 * i + 3)).toInt = (g 0).toInt + mn.toInt - (g (343 + 4 * i + 3)).toInt := ti_sub t1 rfl (by omega) (by omega)
    rw [ti_lt rfl t3, ti_le t2 rfl]
    omega
  have k0 : upd g 0 (g 0 + mn) 0 = g 0 + mn := upd_eq rfl
  have kf : ∀ j, j ≠ 0 → upd g 0 (g 0 + mn) j = g j := fun j hj => upd_ne hj
  have kw : wr g 463 0 (g 0 + mn) = some (upd g 0 (g 0 + mn)) := zW0
  generalize upd g 0 (g 0 + mn) = g3' at k0 kf kw
  have hp1 : ∀ i, i < e → (decide (g 0 + mn - g 1 ≤ g (343 + 4 * i + 3)) = true ↔ ¬ g3' 1 < g3' 0 - g3' (343 + 4 * i + 3)) := fun i hi => by
    rw [k0, kf 1 (by decide), kf _ (by omega), hpe i hi]
    exact ⟨fun z => of_decide_eq_true z, fun z => decide_eq_true z⟩
  have hp2 : ∀ i, i < e → (decide (g 0 + mn - g 1 ≤ g (343 + 4 * i + 3)) = true ↔ tm + mn - tol ≤ E (i * 4 + 3)) := fun i hi => by
    rw [hE.2.2.2 i 3 hi (by decide), ← y0, ← y1]
    exact ⟨fun z => of_decide_eq_true z, fun z => decide_eq_true z⟩
  obtain ⟨g4', f1, f2, f3, f4⟩ := forget_m (g := g3') (p := fun i => decide (g 0 + mn - g 1 ≤ g (343 + 4 * i + 3))) he30 (by rw [kf 8 (by decide)]; exact g8) hp1
  have hErx : (Er - 1).toInt = (e : Int) - 1 := ti_sub hE.1 ti_one (by omega) (by omega)
  obtain ⟨Er', E', c1, c2, c3⟩ := forgetC_L (E0 := E) (si := tm + mn - tol) he30 hp2 5000 e e (Er - 1) Er E hErx (Nat.le_refl e) (by omega) hE.1 rfl (fun i c _ _ => rfl) (fun i q c h1 h2 => by omega)
  have fg : ∀ j, j ≠ 0 → j ≠ 8 → (j < 343 ∨ 463 ≤ j) → g4' j = g j := fun j h1 h2 h3 => by rw [f3 j h2 h3, kf j h1]
  have fg0 : g4' 0 = g 0 + mn := by rw [f3 0 (by decide) (Or.inl (by decide)), k0]
  obtain ⟨o3, v1, v2, v3⟩ := alive_same (tm := tm) (g' := g) hT y0 rfl (fun j _ _ => rfl)
  obtain ⟨o5, u1, u2, u3⟩ := alive_same (tm := tm + mn) (g' := g4') hT (by rw [fg0, y0]) (fg 6 (by decide) (by decide) (Or.inl (by decide))) (fun j h1 h2 => fg j (by omega) (by omega) (Or.inl h2))
  have hle : cnt (pal g (tm + mn)) k ≤ cnt (pal g tm) k := cnt_imp k (fun i _ hi => by
    have h1 : ¬ g (103 + 10 * i + 6) ≤ tm + mn := of_decide_eq_true hi
    refine decide_eq_true (fun h2 => h1 ?_)
    rw [← y0] at h2 ⊢
    rw [Int32.le_iff_toInt_le] at h2 ⊢
    rw [t1]
    omega)
  have hc24 := cnt_le (p := pal g tm) k
  have ag : ∀ a b, 8 < a → b ≤ 343 → AG a b g g4' := fun a b h1 h2 j h3 h4 => fg j (by omega) (by omega) (Or.inl (by omega))
  have fz : ∀ j, 0 < j → j < 8 → g4' j = g j := fun j h1 h2 => fg j (by omega) (by omega) (Or.inl (by omega))
  refine ⟨o3, o5, Er', E', g4', ?_, ?_, ?_, ?_, ?_, r, u, s, k, cnt (fun i => decide (g 0 + mn - g 1 ≤ g (343 + 4 * i + 3))) e, ?_, ⟨RLM_fr hR (fz 3 (by decide) (by decide)) (ag _ _ (by decide) (by decide)), NMr_fr hR2 hR.2.1 (ag _ _ (by decide) (by decide)), TRU_fr hR3 (ag _ _ (by decide) (by decide))⟩, ⟨USR_fr hU (fz 4 (by decide) (by decide)) (ag _ _ (by decide) (by decide)), NMu_fr hU2 hU.2.1 (ag _ _ (by decide) (by decide))⟩, ⟨SVC_fr hS (fz 5 (by decide) (by decide)) (ag _ _ (by decide) (by decide)), NMs_fr hS2 hS.2.1 (ag _ _ (by decide) (by decide))⟩, TKT_fr hT (fz 6 (by decide) (by decide)) (ag _ _ (by decide) (by decide)), ⟨c2, ?_, ti_eq (by rw [f2, c2]), fun q c hq hc => ?_⟩, ?_, RIN_fr hRI hR.2.1 (ag _ _ (by decide) (by decide)), UIN_fr hUI hU.2.1 (ag _ _ (by decide) (by decide)), SIN_fr hSI hS.2.1 (ag _ _ (by decide) (by decide)), ?_, fun q hq => ?_, UZ_fr hUZ (ag _ _ (by decide) (by decide))⟩
  · unfold f_X11_validTickets
    rw [v1, ob_some]
  · simp only [f_X5_letPass, f_X9_forgetBefore, f_X6_size, ob_some, c1]
  · unfold f_X11_validTickets
    rw [u1, ob_some]
  · simp only [f_X12_passes, v2, zM0, kw, f1, u2, ob_some]
  · rw [ti_sub v3 u3 (by omega) (by omega)]
    omega
  · rw [fg0, fz 1 (by decide) (by decide), fz 2 (by decide) (by decide), fz 7 (by decide) (by decide), fg 9 (by decide) (by decide) (Or.inl (by decide)), y0]
    exact ⟨rfl, y1, y2, y7, y9⟩
  · have := cnt_le (p := fun i => decide (g 0 + mn - g 1 ≤ g (343 + 4 * i + 3))) e
    omega
  · obtain ⟨i, i1, i2, i3⟩ := cnt_surj e hq
    rw [← i3, c3 i c i1 i2 hc, f4 i c i1 i2 hc, kf _ (by omega)]
    exact hE.2.2.2 i c i1 hc
  · unfold ZIN
    rw [fg0, fz 1 (by decide) (by decide), fz 7 (by decide) (by decide), t1]
    exact ⟨by omega, by omega, z3, z4, z5, z6⟩
  · intro q hq
    obtain ⟨x1, x2, x3, x4, x5, x6, x7, x8, x9, x10, x11, x12⟩ := TIR_of (hTI q hq) (g' := g4') (i' := q) (fun c hc => fg _ (by omega) (by omega) (Or.inl (by omega)))
    exact ⟨x1, x2, x3, x4, x5, x6, x7, x8, by omega, x10, by omega, x12⟩
  · obtain ⟨i, i1, i2, i3⟩ := cnt_surj e hq
    have h1 := of_decide_eq_true i2
    rw [ti_le t2 rfl] at h1
    have h2 := (hEI i i1).2
    rw [← i3, f4 i 3 i1 i2 (by decide), kf _ (by omega), fg0, fz 1 (by decide) (by decide), t1]
    omega
