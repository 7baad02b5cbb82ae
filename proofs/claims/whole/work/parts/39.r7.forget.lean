/-! PURE: uses forgotten: the class takes rows out from behind, the reference moves them up. -/
def cnt (p : Nat → Bool) : Nat → Nat
  | 0 => 0
  | n + 1 => cnt p n + (if p n = true then 1 else 0)
theorem cnt_yes {p : Nat → Bool} {n : Nat} (h : p n = true) : cnt p (n + 1) = cnt p n + 1 := by
  show cnt p n + (if p n = true then 1 else 0) = _
  rw [if_pos h]
theorem cnt_no {p : Nat → Bool} {n : Nat} (h : ¬ p n = true) : cnt p (n + 1) = cnt p n := by
  show cnt p n + (if p n = true then 1 else 0) = _
  rw [if_neg h]
  rfl
theorem cnt_step {p : Nat → Bool} {n : Nat} : cnt p n ≤ cnt p (n + 1) := Nat.le_add_right _ _
theorem cnt_le {p : Nat → Bool} : ∀ n, cnt p n ≤ n := by
  intro n
  induction n with
  | zero => exact Nat.le_refl 0
  | succ n ih =>
    by_cases h : p n = true
    · rw [cnt_yes h]; omega
    · rw [cnt_no h]; omega
theorem cnt_mono {p : Nat → Bool} {i : Nat} : ∀ j, i ≤ j → cnt p i ≤ cnt p j := by
  intro j
  induction j with
  | zero => intro h; rw [show i = 0 by omega]; exact Nat.le_refl _
  | succ j ih =>
    intro h
    by_cases hij : i = j + 1
    · rw [hij]; exact Nat.le_refl _
    · exact Nat.le_trans (ih (by omega)) cnt_step
theorem cnt_lt {p : Nat → Bool} {i j : Nat} (h : i < j) (hp : p i = true) : cnt p i < cnt p j := by
  have h1 := cnt_mono (p := p) (i := i + 1) j h
  rw [cnt_yes hp] at h1
  omega
theorem cnt_surj {p : Nat → Bool} {q : Nat} : ∀ n, q < cnt p n → ∃ i, i < n ∧ p i = true ∧ cnt p i = q := by
  intro n
  induction n with
  | zero => intro h; exact absurd h (Nat.not_lt_zero q)
  | succ n ih =>
    intro h
    by_cases hp : p n = true
    · rw [cnt_yes hp] at h
      by_cases hq : q = cnt p n
      · exact ⟨n, by omega, hp, hq.symm⟩
      · obtain ⟨i, h1, h2⟩ := ih (by omega)
        exact ⟨i, by omega, h2⟩
    · rw [cnt_no hp] at h
      obtain ⟨i, h1, h2⟩ := ih h
      exact ⟨i, by omega, h2⟩
theorem forgetC_L {E0 : Nat → Int32} {e : Nat} {si : Int32} {p : Nat → Bool} (he : e ≤ 30) (hp : ∀ i, i < e → (p i = true ↔ si ≤ E0 (i * 4 + 3))) : ∀ (f j ro : Nat) (x rows : Int32) (E : Nat → Int32), x.toInt = (j : Int) - 1 → j ≤ e → j < f → rows.toInt = (ro : Int) → ro + cnt p j = j + cnt p e → (∀ i c, i < j → c < 4 → E (i * 4 + c) = E0 (i * 4 + c)) → (∀ i q c, j ≤ i → i < e → p i = true → q + cnt p j = j + cnt p i → c < 4 → E (q * 4 + c) = E0 (i * 4 + c)) → ∃ rows' E', f_X9_forgetBefore_L7 si f rows E x = some (rows', E') ∧ rows'.toInt = ((cnt p e : Nat) : Int) ∧ ∀ i c, i < e → p i = true → c < 4 → E' (cnt p i * 4 + c) = E0 (i * 4 + c) := by
  intro f
  induction f with
  | zero => intro j ro x rows E hx hj hf; omega
  | succ f ih =>
    intro j ro x rows E hx hj hf hr hro hlo hhi
    rw [f_X9_forgetBefore_L7]
    by_cases hq : x < 0
    · have hj0 : j = 0 := by
        rw [ti_lt hx ti_zero] at hq
        omega
      subst hj0
      have h0 : cnt p 0 = 0 := rfl
      rw [if_pos hq]
      refine ⟨rows, E, rfl, by rw [hr]; omega, fun i c hi hpi hc => hhi i (cnt p i) c (Nat.zero_le i) hi hpi (by omega) hc⟩
    · obtain ⟨q, rfl⟩ : ∃ q, j = q + 1 := by
        rw [ti_lt hx ti_zero] at hq
        exact ⟨j - 1, by omega⟩
      have hxq : x.toInt = (q : Int) := by omega
      have hqe : q < e := by omega
      have hm1 := cnt_mono (p := p) (i := q + 1) e hj
      have hl1 := cnt_le (p := p) e
      have hle := cnt_le (p := p) (q + 1)
      have hqr : q < ro := by omega
      have hro30 : ro ≤ 30 := by
        have := cnt_mono (p := p) (i := q + 1) e hj
        have h2 : cnt p e ≤ cnt p (q + 1) + (e - (q + 1)) := by
          clear hhi hlo ih
          have key : ∀ d, cnt p (q + 1 + d) ≤ cnt p (q + 1) + d := by
            intro d
            induction d with
            | zero => exact Nat.le_refl _
            | succ d ihd =>
              by_cases hd : p (q + 1 + d) = true
              · have := cnt_yes hd
                show cnt p (q + 1 + d + 1) ≤ _
                omega
              · have := cnt_no hd
                show cnt p (q + 1 + d + 1) ≤ _
                omega
          have := key (e - (q + 1))
          rw [show q + 1 + (e - (q + 1)) = e by omega] at this
          exact this
        omega
      obtain ⟨x2, hxe, hx2⟩ : ∃ x2, x + -1 = x2 ∧ x2.toInt = (q : Int) - 1 := ⟨_, rfl, ti_add hxq (b := -1) (by decide) (by omega) (by omega)⟩
      rw [if_neg hq, hxe, eR3 hr hro30 hxq hqr, ob_some, hlo q 3 (by omega) (by decide)]
      by_cases hk : p q = true
      · have hcy := cnt_yes hk
        rw [if_pos ((hp q hqe).mp hk)]
        refine ih q ro x2 rows E hx2 (by omega) (by omega) hr (by omega) (fun i c hi hc => hlo i c (by omega) hc) (fun i q' c h1 h2 h3 h4 h5 => ?_)
        by_cases hiq : i = q
        · subst hiq
          rw [show q' = i by omega]
          exact hlo i c (by omega) h5
        · exact hhi i q' c (by omega) h2 h3 (by omega) h5
      · have hcn := cnt_no hk
        rw [if_neg (fun z => hk ((hp q hqe).mpr z)), remove_at (W := 4) (by decide) (by decide) hr hxq hqr (by omega) (by decide)]
        have hro1 : (rows - 1).toInt = ((ro - 1 : Nat) : Int) := by rw [ti_sub hr ti_one (by omega) (by omega)]; omega
        rw [ob_some]
        refine ih q (ro - 1) x2 (rows - 1) (shf E (q * 4) ((ro - 1) * 4) 4) hx2 (by omega) (by omega) hro1 (by omega) (fun i c hi hc => ?_) (fun i q' c h1 h2 h3 h4 h5 => ?_)
        · rw [shf_lo (by omega)]
          exact hlo i c (by omega) hc
        · have hiq : ¬ i = q := fun e => hk (by rw [← e]; exact h3)
          have hci := cnt_lt (p := p) h2 h3
          have hcm := cnt_mono (p := p) (i := q + 1) i (by omega)
          rw [shf_in (by omega) (by omega), show q' * 4 + c + 4 = (q' + 1) * 4 + c by omega]
          exact hhi i (q' + 1) c (by omega) h2 h3 (by omega) h5
theorem copyUse_L {m k : Nat} {v1 v2 : Int32} (hm : m ≤ k) (hk : k < 30) (h1 : v1.toInt = (m : Int)) (h2 : v2.toInt = (k : Int)) : ∀ (n j : Nat) (x : Int32) (ga : Nat → Int32), x.toInt = (j : Int) → j ≤ 4 → 4 < j + n → ∃ ga', f_X12_forget_L39 v1 v2 1 n ga x = some ga' ∧ (∀ c, j ≤ c → c < 4 → ga' (343 + 4 * m + c) = ga (343 + 4 * k + c)) ∧ ∀ q, (q < 343 + 4 * m + j ∨ 343 + 4 * m + 4 ≤ q) → ga' q = ga q := by
  intro n
  induction n with
  | zero => intro j x ga hx hj hn; omega
  | succ n ih =>
    intro j x ga hx hj hn
    rw [f_X12_forget_L39]
    by_cases hq : 4 ≤ x
    · have hj4 : j = 4 := by
        rw [ti_le (a := 4) (by decide) hx] at hq
        omega
      rw [if_pos hq]
      exact ⟨ga, rfl, fun c h3 h4 => by omega, fun q _ => rfl⟩
    · have hj4 : j < 4 := by
        rw [ti_le (a := 4) (by decide) hx] at hq
        omega
      have hr : (343 + 4 * v2 + x).toInt = ((343 + 4 * k + j : Nat) : Int) := off_ti (aff_ti (B := 343) (W := 4) (by decide) (by decide) h2 (by omega)) hx (by omega)
      have hw : (343 + 4 * v1 + x).toInt = ((343 + 4 * m + j : Nat) : Int) := off_ti (aff_ti (B := 343) (W := 4) (by decide) (by decide) h1 (by omega)) hx (by omega)
      have hr4 : 343 + 4 * k + j < 463 := by omega
      have hw4 : 343 + 4 * m + j < 463 := by omega
      rw [if_neg hq, if_neg n10]
      simp only [f_X12_ofUse, ob_some, rd_at (f := ga) hr hr4, wr_to (f := ga) hw hw4]
      obtain ⟨ga', e1, e2, e3⟩ := ih (j + 1) (x + 1) (upd ga (343 + 4 * m + j) (ga (343 + 4 * k + j))) (ti_inc hx (by omega)) (by omega) (by omega)
      refine ⟨ga', e1, fun c h3 h4 => ?_, fun q hq2 => ?_⟩
      · by_cases hc : c = j
        · subst hc
          rw [e3 _ (by omega), upd_eq rfl]
        · rw [e2 c (by omega) h4, upd_ne (by omega)]
      · rw [e3 q (by omega), upd_ne (by omega)]
theorem forgetM_L {g0 : Nat → Int32} {e : Nat} {p : Nat → Bool} (he : e ≤ 30) (h8 : (g0 8).toInt = (e : Int)) (hp : ∀ i, i < e → (p i = true ↔ ¬ g0 1 < g0 0 - g0 (343 + 4 * i + 3))) : ∀ (n k : Nat) (x mn : Int32) (ga : Nat → Int32), x.toInt = (k : Int) → k ≤ e → e < k + n → mn.toInt = ((cnt p k : Nat) : Int) → (∀ j, (j < 343 ∨ 463 ≤ j) → ga j = g0 j) → (∀ i c, k ≤ i → i < e → c < 4 → ga (343 + 4 * i + c) = g0 (343 + 4 * i + c)) → (∀ i c, i < k → p i = true → c < 4 → ga (343 + 4 * cnt p i + c) = g0 (343 + 4 * i + c)) → ∃ ga' mn', f_X12_forget_L4 n ga mn x = some (ga', mn') ∧ mn'.toInt = ((cnt p e : Nat) : Int) ∧ (∀ j, (j < 343 ∨ 463 ≤ j) → ga' j = g0 j) ∧ ∀ i c, i < e → p i = true → c < 4 → ga' (343 + 4 * cnt p i + c) = g0 (343 + 4 * i + c) := by
  intro n
  induction n with
  | zero => intro k x mn ga hx hk hn; omega
  | succ n ih =>
    intro k x mn ga hx hk hn hmn hfr hhi hlo
    have g8 : ga 8 = g0 8 := hfr 8 (Or.inl (by decide))
    have g00 : ga 0 = g0 0 := hfr 0 (Or.inl (by decide))
    have g01 : ga 1 = g0 1 := hfr 1 (Or.inl (by decide))
    rw [f_X12_forget_L4]
    simp only [zM8, ob_some, g8]
    by_cases hq : g0 8 ≤ x
    · have hke : k = e := by
        rw [ti_le h8 hx] at hq
        omega
      rw [if_pos hq]
      subst hke
      exact ⟨ga, mn, rfl, hmn, hfr, hlo⟩
    · have hke : k < e := by
        rw [ti_le h8 hx] at hq
        omega
      have hk30 : k < 30 := by omega
      have hx2 := ti_inc hx (by omega)
      have hcl := cnt_le (p := p) k
      rw [if_neg hq]
      simp only [zM0, zM1, f_X12_ofUse, ob_some, eM3 (g := ga) hx hk30, hhi k 3 (Nat.le_refl k) hke (by decide), g00, g01, if_some]
      by_cases hk : p k = true
      · have hcy := cnt_yes hk
        obtain ⟨ga1, e1, e2, e3⟩ := copyUse_L hcl hk30 hmn hx 5000 0 0 ga (by decide) (by decide) (by decide)
        rw [if_neg ((hp k hke).mp hk), e1, ob_some, if_neg n10]
        refine ih (k + 1) (x + 1) (mn + 1) ga1 hx2 hke (by omega) (by rw [ti_inc hmn (by omega), hcy]) (fun j hj => ?_) (fun i c h1 h2 h3 => ?_) (fun i c h1 h2 h3 => ?_)
        · rw [e3 j (by omega)]
          exact hfr j hj
        · rw [e3 _ (by omega)]
          exact hhi i c (by omega) h2 h3
        · by_cases hik : i = k
          · subst hik
            rw [e2 c (Nat.zero_le c) h3]
            exact hhi i c (Nat.le_refl i) hke h3
          · have := cnt_lt (p := p) (i := i) (j := k) (by omega) h2
            rw [e3 _ (by omega)]
            exact hlo i c (by omega) h2 h3
      · have hcn := cnt_no hk
        have h1 : g0 1 < g0 0 - g0 (343 + 4 * k + 3) := Classical.byContradiction fun z => hk ((hp k hke).mpr z)
        have e1 : f_X12_forget_L39 mn x 0 5000 ga 0 = some ga := by
          rw [f_X12_forget_L39, if_neg (by decide), if_pos rfl]
        rw [if_pos h1, e1, ob_some, if_pos rfl, Int32.add_zero]
        refine ih (k + 1) (x + 1) mn ga hx2 hke (by omega) (by rw [hmn, hcn]) hfr (fun i c h1 h2 h3 => hhi i c (by omega) h2 h3) (fun i c h1 h2 h3 => ?_)
        have hik : ¬ i = k := fun z => hk (by rw [← z]; exact h2)
        exact hlo i c (by omega) h2 h3
theorem forget_m {g : Nat → Int32} {e : Nat} {p : Nat → Bool} (he : e ≤ 30) (h8 : (g 8).toInt = (e : Int)) (hp : ∀ i, i < e → (p i = true ↔ ¬ g 1 < g 0 - g (343 + 4 * i + 3))) : ∃ g', f_X12_forget g = some g' ∧ (g' 8).toInt = ((cnt p e : Nat) : Int) ∧ (∀ j, j ≠ 8 → (j < 343 ∨ 463 ≤ j) → g' j = g j) ∧ ∀ i c, i < e → p i = true → c < 4 → g' (343 + 4 * cnt p i + c) = g (343 + 4 * i + c) := by
  obtain ⟨ga, mn, h1, h2, h3, h4⟩ := forgetM_L he h8 hp 5000 0 0 0 g (by decide) (by omega) (by omega) ti_zero (fun j _ => rfl) (fun i c _ _ _ => rfl) (fun i c h => absurd h (Nat.not_lt_zero i))
  refine ⟨upd ga 8 mn, ?_, by rw [upd_eq rfl]; exact h2, fun j hj1 hj2 => by rw [upd_ne hj1]; exact h3 j hj2, fun i c h5 h6 h7 => by rw [upd_ne (by omega)]; exact h4 i c h5 h6 h7⟩
  simp only [f_X12_forget, h1, ob_some, zW8]
