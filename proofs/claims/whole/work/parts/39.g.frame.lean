/-! PURE: what does not change; copies of rows; the calls that are remembered. -/
theorem va_up_eq' {α : Type} {f : Nat → α} {k j : Nat} {v : α} (h : j = k) : va_up f k v j = v := if_pos h
theorem va_up_ne' {α : Type} {f : Nat → α} {k j : Nat} {v : α} (h : j ≠ k) : va_up f k v j = f j := if_neg h
def AG (a b : Nat) (g g' : Nat → Int32) : Prop := ∀ j, a ≤ j → j < b → g' j = g j
theorem RLM_fr {rows : Int32} {R g g' : Nat → Int32} {r : Nat} (h : RLM rows R g r) (h3 : g' 3 = g 3) (hf : AG 10 30 g g') : RLM rows R g' r := by
  obtain ⟨a, b, c, d⟩ := h
  exact ⟨a, b, by rw [h3, c], fun i k hi h1 h4 => by rw [hf _ (by omega) (by omega)]; exact d i k hi h1 h4⟩
theorem NMr_fr {R g g' : Nat → Int32} {r : Nat} (h : NMS 5 4 10 R g r) (hr : r ≤ 5) (hf : AG 10 30 g g') : NMS 5 4 10 R g' r := fun i hi => by rw [hf _ (by omega) (by omega)]; exact h i hi
theorem TRU_fr {R g g' : Nat → Int32} {r : Nat} (h : TRU R g r) (hf : AG 30 55 g g') : TRU R g' r := by
  obtain ⟨mk, a, b⟩ := h
  exact ⟨mk, a, fun i j hi hj => by rw [hf _ (by omega) (by omega)]; exact b i j hi hj⟩
theorem RIN_fr {g g' : Nat → Int32} {r : Nat} (h : RIN g r) (hr : r ≤ 5) (hf : AG 10 30 g g') : RIN g' r := fun i hi => by
  rw [hf _ (by omega) (by omega), hf _ (by omega) (by omega)]; exact h i hi
theorem USR_fr {rows : Int32} {U g g' : Nat → Int32} {u : Nat} (h : USR rows U g u) (h4 : g' 4 = g 4) (hf : AG 55 85 g g') : USR rows U g' u := by
  obtain ⟨a, b, c, d⟩ := h
  exact ⟨a, b, by rw [h4, c], fun i k hi h1 h5 => by rw [hf _ (by omega) (by omega)]; exact d i k hi h1 h5⟩
theorem NMu_fr {U g g' : Nat → Int32} {u : Nat} (h : NMS 5 5 55 U g u) (hu : u ≤ 6) (hf : AG 55 85 g g') : NMS 5 5 55 U g' u := fun i hi => by rw [hf _ (by omega) (by omega)]; exact h i hi
theorem UIN_fr {mb : Nat} {g g' : Nat → Int32} {r u : Nat} (h : UIN mb g r u) (hu : u ≤ 6) (hf : AG 55 85 g g') : UIN mb g' r u := fun i hi => by
  rw [hf _ (by omega) (by omega), hf _ (by omega) (by omega)]; exact h i hi
theorem UZ_fr {g g' : Nat → Int32} {u : Nat} (h : UZ g u) (hf : AG 55 85 g g') : UZ g' u := fun i h1 h2 => by rw [hf _ (by omega) (by omega)]; exact h i h1 h2
theorem SVC_fr {rows : Int32} {V g g' : Nat → Int32} {s : Nat} (h : SVC rows V g s) (h5 : g' 5 = g 5) (hf : AG 85 103 g g') : SVC rows V g' s := by
  obtain ⟨a, b, c, d⟩ := h
  exact ⟨a, b, by rw [h5, c], fun i k hi h1 h4 => by rw [hf _ (by omega) (by omega)]; exact d i k hi h1 h4⟩
theorem NMs_fr {V g g' : Nat → Int32} {s : Nat} (h : NMS 3 3 85 V g s) (hs : s ≤ 6) (hf : AG 85 103 g g') : NMS 3 3 85 V g' s := fun i hi => by rw [hf _ (by omega) (by omega)]; exact h i hi
theorem SIN_fr {g g' : Nat → Int32} {r s : Nat} (h : SIN g r s) (hs : s ≤ 6) (hf : AG 85 103 g g') : SIN g' r s := fun i hi => by
  rw [hf _ (by omega) (by omega)]; exact h i hi
theorem TKT_fr {rows : Int32} {T g g' : Nat → Int32} {k : Nat} (h : TKT rows T g k) (h6 : g' 6 = g 6) (hf : AG 103 343 g g') : TKT rows T g' k := by
  obtain ⟨a, b, c, d⟩ := h
  exact ⟨a, b, by rw [h6, c], fun i c hi hc => by rw [hf _ (by omega) (by omega)]; exact d i c hi hc⟩
def TIR (tb mb : Nat) (g : Nat → Int32) (r u s i : Nat) : Prop := 0 ≤ (g (103 + 10 * i + 0)).toInt ∧ (g (103 + 10 * i + 0)).toInt ≤ (mb : Int) ∧ ((g (103 + 10 * i + 1) = 0 ∧ g (103 + 10 * i + 4) = -1) ∨ (g (103 + 10 * i + 1) = 1 ∧ 0 ≤ (g (103 + 10 * i + 4)).toInt ∧ (g (103 + 10 * i + 4)).toInt < (s : Int))) ∧ 0 ≤ (g (103 + 10 * i + 2)).toInt ∧ (g (103 + 10 * i + 2)).toInt < (u : Int) ∧ 0 ≤ (g (103 + 10 * i + 3)).toInt ∧ (g (103 + 10 * i + 3)).toInt < (r : Int) ∧ 0 ≤ (g (103 + 10 * i + 6)).toInt ∧ (g (103 + 10 * i + 6)).toInt ≤ (tb : Int) + 9999 ∧ 0 ≤ (g (103 + 10 * i + 7)).toInt ∧ (g (103 + 10 * i + 7)).toInt ≤ (tb : Int) + 9999 ∧ (g (103 + 10 * i + 9) = 0 ∨ g (103 + 10 * i + 9) = 1)
/-- a row of tickets that is another one's -/
theorem TIR_of {tb mb : Nat} {g g' : Nat → Int32} {r u s i i' : Nat} (h : TIR tb mb g r u s i) (hf : ∀ c, c < 10 → g' (103 + 10 * i' + c) = g (103 + 10 * i + c)) : TIR tb mb g' r u s i' := by
  unfold TIR
  rw [hf 0 (by decide), hf 1 (by decide), hf 2 (by decide), hf 3 (by decide), hf 4 (by decide), hf 6 (by decide), hf 7 (by decide), hf 9 (by decide)]
  exact h
theorem TIN_fr {tb mb : Nat} {g g' : Nat → Int32} {r u s k : Nat} (h : TIN tb mb g r u s k) (hk : k ≤ 24) (hf : AG 103 343 g g') : TIN tb mb g' r u s k := fun i hi => TIR_of (h i hi) (fun c hc => hf _ (by omega) (by omega))
theorem USE_fr {rows : Int32} {E g g' : Nat → Int32} {e : Nat} (h : USE rows E g e) (h8 : g' 8 = g 8) (hf : AG 343 463 g g') : USE rows E g' e := by
  obtain ⟨a, b, c, d⟩ := h
  exact ⟨a, b, by rw [h8, c], fun i c hi hc => by rw [hf _ (by omega) (by omega)]; exact d i c hi hc⟩
theorem EIN_fr {g g' : Nat → Int32} {e : Nat} (h : EIN g e) (he : e ≤ 30) (h0 : g' 0 = g 0) (h1 : g' 1 = g 1) (hf : AG 343 463 g g') : EIN g' e := fun i hi => by
  rw [h0, h1, hf (343 + 4 * i + 3) (by omega) (by omega)]; exact h i hi
theorem ST.congr {tb mb : Nat} {tm tol seed made cot Rr : Int32} {R : Nat → Int32} {Ur : Int32} {U : Nat → Int32} {Vr : Int32} {V : Nat → Int32} {Tr : Int32} {T : Nat → Int32} {Er : Int32} {E : Nat → Int32} {g g' : Nat → Int32} (h : ST tb mb tm tol seed made cot Rr R Ur U Vr V Tr T Er E g) (hf : ∀ j, j < 463 → g' j = g j) : ST tb mb tm tol seed made cot Rr R Ur U Vr V Tr T Er E g' := by
  obtain ⟨r, u, s, k, e, hz, ⟨hR, hR2, hR3⟩, ⟨hU, hU2⟩, ⟨hS, hS2⟩, hT, hE, hZ, hRI, hUI, hSI, hTI, hEI, hUZ⟩ := h
  have hag : ∀ a b, b ≤ 463 → AG a b g g' := fun a b hb j _ hj => hf j (by omega)
  have e0 := hf 0 (by decide)
  have e1 := hf 1 (by decide)
  have e7 := hf 7 (by decide)
  refine ⟨r, u, s, k, e, ?_, ⟨RLM_fr hR (hf 3 (by decide)) (hag _ _ (by decide)), NMr_fr hR2 hR.2.1 (hag _ _ (by decide)), TRU_fr hR3 (hag _ _ (by decide))⟩, ⟨USR_fr hU (hf 4 (by decide)) (hag _ _ (by decide)), NMu_fr hU2 hU.2.1 (hag _ _ (by decide))⟩, ⟨SVC_fr hS (hf 5 (by decide)) (hag _ _ (by decide)), NMs_fr hS2 hS.2.1 (hag _ _ (by decide))⟩, TKT_fr hT (hf 6 (by decide)) (hag _ _ (by decide)), USE_fr hE (hf 8 (by decide)) (hag _ _ (by decide)), ?_, RIN_fr hRI hR.2.1 (hag _ _ (by decide)), UIN_fr hUI hU.2.1 (hag _ _ (by decide)), SIN_fr hSI hS.2.1 (hag _ _ (by decide)), TIN_fr hTI hT.2.1 (hag _ _ (by decide)), EIN_fr hEI hE.2.1 e0 e1 (hag _ _ (by decide)), UZ_fr hUZ (hag _ _ (by decide))⟩
  · rw [e0, e1, e7, hf 2 (by decide), hf 9 (by decide)]; exact hz
  · unfold ZIN; rw [e0, e1, e7]; exact hZ
theorem STw.congr {tb mb : Nat} {w : SV} {g g' : Nat → Int32} (h : STw tb mb w g) (hf : ∀ j, j < 463 → g' j = g j) : STw tb mb w g' := ST.congr h hf
def cpy (f t : Nat → Int32) (a b : Nat) : Nat → Int32 := fun j => if b ≤ j ∧ j < b + 463 then f (a + (j - b)) else t j
theorem copy_L {fn tn a b : Nat} {fa : Nat → Int32} {v1 v3 : Int32} (h1 : v1.toInt = (a : Int)) (h3 : v3.toInt = (b : Int)) (ha : a + 463 ≤ fn) (hb : b + 463 ≤ tn) (hfn : fn < 100000) (htn : tn < 100000) : ∀ (n k : Nat) (x : Int32) (ta : Nat → Int32), x.toInt = (k : Int) → k ≤ 463 → 463 < k + n → f_X12_copyRow_L3 fn tn fa v1 v3 n ta x = some (fun j => if b + k ≤ j ∧ j < b + 463 then fa (a + (j - b)) else ta j) := by
  intro n
  induction n with
  | zero => intro k x ta hx hk hn; omega
  | succ n ih =>
    intro k x ta hx hk hn
    rw [f_X12_copyRow_L3]
    by_cases hq : 463 ≤ x
    · have hk2 : k = 463 := by
        rw [ti_le (a := 463) (by decide) hx] at hq
        omega
      rw [if_pos hq]
      refine congrArg some (funext fun j => ?_)
      rw [if_neg (fun z => by omega)]
    · have hk2 : k < 463 := by
        rw [ti_le (a := 463) (by decide) hx] at hq
        omega
      rw [if_neg hq, rd_at (off_ti h1 hx (by omega)) (by omega)]
      show (wr ta tn (v3 + x) (fa (a + k))).bind _ = _
      rw [wr_to (off_ti h3 hx (by omega)) (by omega)]
      show f_X12_copyRow_L3 fn tn fa v1 v3 n (upd ta (b + k) (fa (a + k))) (x + 1) = _
      rw [ih (k + 1) (x + 1) _ (by rw [ti_add hx ti_one (by omega) (by omega)]; omega) (by omega) (by omega)]
      refine congrArg some (funext fun j => ?_)
      by_cases hj : j = b + k
      · rw [if_neg (fun z => by omega), upd_eq hj, if_pos (by omega), hj, Nat.add_sub_cancel_left]
      · rw [upd_ne hj]
        by_cases hc : b + k ≤ j ∧ j < b + 463
        · rw [if_pos hc, if_pos (by omega)]
        · rw [if_neg hc, if_neg (fun z => hc (by omega))]
theorem copyRow_m {fn tn a b : Nat} {fa ta : Nat → Int32} {v1 v3 : Int32} (h1 : v1.toInt = (a : Int)) (h3 : v3.toInt = (b : Int)) (ha : a + 463 ≤ fn) (hb : b + 463 ≤ tn) (hfn : fn < 100000) (htn : tn < 100000) : f_X12_copyRow fn tn fa ta v1 v3 = some (cpy fa ta a b) := by
  unfold f_X12_copyRow
  rw [copy_L h1 h3 ha hb hfn htn 5000 0 0 ta (by decide) (by omega) (by omega)]
  rfl
theorem cpy_in {f t : Nat → Int32} {a b j i : Nat} (hj : j = b + i) (hi : i < 463) : cpy f t a b j = f (a + i) := by
  unfold cpy
  rw [if_pos (by omega), show j - b = i by omega]
theorem cpy_out {f t : Nat → Int32} {a b j : Nat} (hj : j < b ∨ b + 463 ≤ j) : cpy f t a b j = t j := if_neg (fun z => by omega)
theorem irm8 : ∀ n, n < 32 → irm (Int32.ofNat n) 8 = Int32.ofNat (n % 8) := by decide +kernel
theorem irm8_ti {x : Int32} {n : Nat} (h : x.toInt = (n : Int)) (hn : n < 32) : (irm x 8).toInt = ((n % 8 : Nat) : Int) := by
  rw [ofNat_of h, irm8 n hn, ti_nat (by omega)]
theorem remember_same {tb mb : Nat} {np pc mu us : Int32} {pa : Nat → Option SV} {mr : Nat → Int32} {tm tol seed made cot Rr : Int32} {R : Nat → Int32} {Ur : Int32} {U : Nat → Int32} {Vr : Int32} {V : Nat → Int32} {Tr : Int32} {T : Nat → Int32} {Er : Int32} {E : Nat → Int32} {g : Nat → Int32} (hU : UND tb mb np pc pa mu us mr) (hS : ST tb mb tm tol seed made cot Rr R Ur U Vr V Tr T Er E g) : ∃ np' pc' pa' mu' us' mr', f_X11_remember np pc tm tol seed made cot Rr R Ur U Vr V Tr T Er E pa = some (0, np', pc', pa') ∧ f_X12_remember mu us g mr = some (mu', us', mr') ∧ UND tb mb np' pc' pa' mu' us' mr' := by
  obtain ⟨c, a, hc, ha, h1, h2, h3, h4, h5⟩ := hU
  have hnp : (np + 1).toInt = (((a + c) % 8 + 1 : Nat) : Int) := by rw [ti_add h4 ti_one (by omega) (by omega)]; omega
  have hnp8 := irm8_ti hnp (by omega)
  have hpc : (pc + 1).toInt = ((c + 1 : Nat) : Int) := by rw [ti_add h3 ti_one (by omega) (by omega)]; omega
  have hcl : np.toNatClampNeg = (a + c) % 8 := ti_clamp h4
  have hcx : ¬ (np < 0 ∨ 8 ≤ np.toNatClampNeg) := by
    rintro (z | z)
    · exact ti_neg h4 (by omega) z
    · omega
  have hX : f_X11_remember np pc tm tol seed made cot Rr R Ur U Vr V Tr T Er E pa = some (0, irm (np + 1) 8, imin 8 (pc + 1), va_up pa ((a + c) % 8) (some (tm, tol, seed, made, cot, Rr, R, Ur, U, Vr, V, Tr, T, Er, E))) := by
    unfold f_X11_remember
    rw [if_neg hcx, hcl]
  have hSw : STw tb mb (tm, tol, seed, made, cot, Rr, R, Ur, U, Vr, V, Tr, T, Er, E) g := hS
  have hnew : ∀ p : Nat, p < 8 → STw tb mb (tm, tol, seed, made, cot, Rr, R, Ur, U, Vr, V, Tr, T, Er, E) (fun i => cpy g mr 0 (463 * p) (463 * p + i)) := fun p hp => hSw.congr (fun j hj => by
    show cpy g mr 0 (463 * p) (463 * p + j) = g j
    rw [cpy_in rfl hj, Nat.zero_add])
  have hold : ∀ (p q : Nat) (w : SV), q ≠ p → STw tb mb w (fun i => mr (463 * q + i)) → STw tb mb w (fun i => cpy g mr 0 (463 * p) (463 * q + i)) := fun p q w hpq hw => hw.congr (fun j hj => by
    show cpy g mr 0 (463 * p) (463 * q + j) = mr (463 * q + j)
    rw [cpy_out]
    omega)
  by_cases h8 : c = 8
  · subst h8
    have hmu : mu = 8 := ti_eq (by rw [h1]; decide)
    have hus : (us + 1).toInt = ((a + 1 : Nat) : Int) := by rw [ti_add h2 ti_one (by omega) (by omega)]; omega
    have hus8 := irm8_ti hus (by omega)
    have h71 : ((8 : Int32) - 1).toInt = ((7 : Nat) : Int) := by decide
    have hp : (irm (irm (us + 1) 8 + (8 - 1)) 8).toInt = ((((a + 1) % 8 + 7) % 8 : Nat) : Int) := irm8_ti (by rw [ti_add hus8 h71 (by omega) (by omega)]; omega) (by omega)
    have hpa : ((a + 1) % 8 + 7) % 8 = (a + 8) % 8 := by omega
    rw [hpa] at hp
    have h463 : (463 * irm (irm (us + 1) 8 + (8 - 1)) 8).toInt = ((463 * ((a + 8) % 8) : Nat) : Int) := by rw [ti_mul (a := 463) (by decide) hp (by omega) (by omega)]; omega
    have hM : f_X12_remember mu us g mr = some (8 - 1 + 1, irm (us + 1) 8, cpy g mr 0 (463 * ((a + 8) % 8))) := by
      simp only [f_X12_remember, hmu, if_true, ob_some]
      rw [copyRow_m (a := 0) (by decide) h463 (by omega) (by omega) (by omega) (by omega)]
      rfl
    refine ⟨_, _, _, _, _, _, hX, hM, 8, (a + 1) % 8, by omega, by omega, by decide, hus8, ?_, ?_, ?_⟩
    · have : imin 8 (pc + 1) = 8 := by
        unfold imin
        rw [if_neg (by rw [ti_lt hpc (b := 8) (by decide)]; omega)]
      rw [this]; decide
    · rw [hnp8]; omega
    · intro j hj
      by_cases hj7 : j = 7
      · refine ⟨_, va_up_eq' (by omega), ?_⟩
        rw [show ((a + 1) % 8 + j) % 8 = (a + 8) % 8 by omega]
        exact hnew _ (by omega)
      · obtain ⟨w, e1, e2⟩ := h5 (j + 1) (by omega)
        rw [show (a + (j + 1)) % 8 = ((a + 1) % 8 + j) % 8 by omega] at e1 e2
        refine ⟨w, by rw [va_up_ne' (by omega)]; exact e1, hold _ _ w (by omega) e2⟩
  · have hmu : ¬ mu = 8 := fun z => by rw [z] at h1; have : (8 : Int32).toInt = 8 := by decide
                                       omega
    have hp : (irm (us + mu) 8).toInt = (((a + c) % 8 : Nat) : Int) := irm8_ti (by rw [ti_add h2 h1 (by omega) (by omega)]; omega) (by omega)
    have h463 : (463 * irm (us + mu) 8).toInt = ((463 * ((a + c) % 8) : Nat) : Int) := by rw [ti_mul (a := 463) (by decide) hp (by omega) (by omega)]; omega
    have hM : f_X12_remember mu us g mr = some (mu + 1, us, cpy g mr 0 (463 * ((a + c) % 8))) := by
      simp only [f_X12_remember, if_neg hmu, ob_some]
      rw [copyRow_m (a := 0) (by decide) h463 (by omega) (by omega) (by omega) (by omega)]
      rfl
    refine ⟨_, _, _, _, _, _, hX, hM, c + 1, a, by omega, ha, ?_, h2, ?_, ?_, ?_⟩
    · rw [ti_add h1 ti_one (by omega) (by omega)]; omega
    · have : imin 8 (pc + 1) = pc + 1 := by
        unfold imin
        by_cases hlt : pc + 1 < 8
        · rw [if_pos hlt]
        · rw [if_neg hlt]
          rw [ti_lt hpc (b := 8) (by decide)] at hlt
          exact ti_eq (by rw [hpc, show c + 1 = 8 by omega]; decide)
      rw [this, hpc]
    · rw [hnp8]; omega
    · intro j hj
      by_cases hjc : j = c
      · refine ⟨_, va_up_eq' (by omega), ?_⟩
        rw [hjc]
        exact hnew _ (by omega)
      · obtain ⟨w, e1, e2⟩ := h5 j (by omega)
        exact ⟨w, by rw [va_up_ne' (by omega)]; exact e1, hold _ _ w (by omega) e2⟩
