/-! PURE: the first text, as both sides lay it. -/
def BIGT : Nat := 294423031772631886348121523384512896793142818265168418435235846206892702378380348459756821916612993176100556731134169704366013947768451674767429466021853210847384421637960957949767863797572835540197902531909355875045973354850522484209766559286156498839406350299990386157922897168825065500852421133137408028405661748743855434500375040858019803582691052179179300135639884932242426494618636261578286924165698755450749695848043032292909920496651754420640035795546898487245494860255827107884520887646426647192124766927419995438764598275250199895795963839836777217857149910583409781681987680403548669032682688394869574279366817662373044833615100205050367594310620381358723887465819360249402980506972694540048774306187529458976586238026087
def MI (k : Nat) : Int32 := Int32.ofNat (BIGT / 256 ^ k % 256)
theorem mi_5 : ∀ k, k < 304 → schv 5 k = MI k := by decide +kernel
theorem mi_0 : ∀ k, k < 77 → schv 0 k &&& 255 = MI (0 + k) := by decide +kernel
theorem mi_1 : ∀ k, k < 65 → schv 1 k &&& 255 = MI (77 + k) := by decide +kernel
theorem mi_2 : ∀ k, k < 61 → schv 2 k &&& 255 = MI (142 + k) := by decide +kernel
theorem mi_3 : ∀ k, k < 70 → schv 3 k &&& 255 = MI (203 + k) := by decide +kernel
theorem mi_4 : ∀ k, k < 31 → schv 4 k &&& 255 = MI (273 + k) := by decide +kernel
theorem mi_b : ∀ k, k < 304 → 0 ≤ (MI k).toInt ∧ (MI k).toInt ≤ 255 := by decide +kernel
theorem schAt {w j len : Nat} {x : Int32} (hl : lenJS.getD w 0 = len) (hx : x.toInt = (j : Int)) (hj : j < len) : sch w x = some (schv w j) := by
  have h1 : x.toNatClampNeg = j := by
    show x.toInt.toNat = j
    rw [hx]
    omega
  unfold sch
  rw [h1, hl, if_neg (fun z => z.elim (fun z => by
    rw [ti_lt hx (b := 0) (by decide)] at z
    omega) (fun z => by omega))]
theorem addText_L {w len : Nat} (hl : lenJS.getD w 0 = len) (h6 : len ≤ 600) : ∀ (n j c : Nat) (x cx : Int32) (b : Nat → Int32), x.toInt = (j : Int) → cx.toInt = (c : Int) → j ≤ len → len < j + n → c + (len - j) ≤ 600 → ∃ b', f_X0_addText_L2 600 w n cx b x = some (Int32.ofNat (c + (len - j)), b') ∧ (∀ i, i < c → b' i = b i) ∧ ∀ i, i < len - j → b' (c + i) = schv w (j + i) &&& 255 := by
  have hs : (slen w).toInt = (len : Int) := by
    unfold slen
    rw [hl]
    exact ti_nat (by omega)
  intro n
  induction n with
  | zero => intro j c x cx b hx hc hj hn; omega
  | succ n ih =>
    intro j c x cx b hx hc hj hn h600
    rw [f_X0_addText_L2]
    by_cases hq : slen w ≤ x
    · have hjl : j = len := by
        rw [ti_le hs hx] at hq
        omega
      rw [if_pos hq, ofNat_of hc]
      exact ⟨b, by rw [show c + (len - j) = c by omega], fun i _ => rfl, fun i hi => by omega⟩
    · have hjl : j < len := by
        rw [ti_le hs hx] at hq
        omega
      rw [if_neg hq, schAt hl hx hjl, ob_some]
      unfold f_X0_add
      rw [if_neg (by rw [ti_lt hc (b := 0) (by decide)]; omega), if_neg (by rw [ti_le (ti_nat (by decide)) hc]; omega), wr_to hc (by omega), ob_some, ob_some]
      obtain ⟨b', e1, e2, e3⟩ := ih (j + 1) (c + 1) (x + 1) (cx + 1) (upd b c (schv w j &&& 255)) (ti_inc hx (by omega)) (ti_inc hc (by omega)) hjl (by omega) (by omega)
      refine ⟨b', ?_, fun i hi => ?_, fun i hi => ?_⟩
      · rw [e1, show c + 1 + (len - (j + 1)) = c + (len - j) by omega]
      · rw [e2 i (by omega), upd_ne (by omega)]
      · by_cases hi0 : i = 0
        · rw [hi0, e2 (c + 0) (by omega), upd_eq (by omega), Nat.add_zero]
        · rw [show c + i = c + 1 + (i - 1) by omega, e3 (i - 1) (by omega), show j + 1 + (i - 1) = j + i by omega]
theorem addText_m {w len c : Nat} {b : Nat → Int32} (hl : lenJS.getD w 0 = len) (h6 : c + len ≤ 600) (hM : ∀ k, k < c → b k = MI k) (hT : ∀ k, k < len → schv w k &&& 255 = MI (c + k)) : ∃ b', f_X0_addText 600 (Int32.ofNat c) b w = some (Int32.ofNat (c + len), b') ∧ ∀ k, k < c + len → b' k = MI k := by
  obtain ⟨b', e1, e2, e3⟩ := addText_L hl (by omega) 5000 0 c 0 (Int32.ofNat c) b (by decide) (ti_nat (by omega)) (by omega) (by omega) (by omega)
  refine ⟨b', ?_, fun k hk => ?_⟩
  · unfold f_X0_addText
    rw [e1, ob_some, Nat.sub_zero]
  · by_cases hc : k < c
    · rw [e2 k hc, hM k hc]
    · have h := e3 (k - c) (by omega)
      rw [show c + (k - c) = k by omega, Nat.zero_add, hT (k - c) (by omega), show c + (k - c) = k by omega] at h
      exact h
theorem lay_L {w len : Nat} (hl : lenJS.getD w 0 = len) (h6 : len ≤ 600) : ∀ (n j : Nat) (x : Int32) (b : Nat → Int32), x.toInt = (j : Int) → j ≤ len → len < j + n → (∀ i, i < j → b i = schv w i) → ∃ b', f_X12_layInput_L2 w n b x = some b' ∧ ∀ i, i < len → b' i = schv w i := by
  have hs : (slen w).toInt = (len : Int) := by
    unfold slen
    rw [hl]
    exact ti_nat (by omega)
  intro n
  induction n with
  | zero => intro j x b hx hj hn; omega
  | succ n ih =>
    intro j x b hx hj hn hb
    rw [f_X12_layInput_L2]
    by_cases hq : slen w ≤ x
    · have hjl : j = len := by
        rw [ti_le hs hx] at hq
        omega
      rw [if_pos hq]
      exact ⟨b, rfl, hjl ▸ hb⟩
    · have hjl : j < len := by
        rw [ti_le hs hx] at hq
        omega
      rw [if_neg hq, schAt hl hx hjl, ob_some, wr_to hx (by omega), ob_some]
      refine ih (j + 1) (x + 1) _ (ti_inc hx (by omega)) hjl (by omega) (fun i hi => ?_)
      by_cases hij : i = j
      · rw [upd_eq hij, hij]
      · rw [upd_ne hij]
        exact hb i (by omega)
theorem texts_c : ∃ (o80 o81 o82 o83 o84 : Int32 × (Nat → Int32)), f_X0_addText 600 0 (fun _ => 0) 0 = some o80 ∧ f_X0_addText 600 o80.1 o80.2 1 = some o81 ∧ f_X0_addText 600 o81.1 o81.2 2 = some o82 ∧ f_X0_addText 600 o82.1 o82.2 3 = some o83 ∧ f_X0_addText 600 o83.1 o83.2 4 = some o84 ∧ o84.1 = 304 ∧ ∀ k, k < 304 → o84.2 k = MI k := by
  obtain ⟨b0, e0, f0⟩ := addText_m (w := 0) (len := 77) (c := 0) (b := fun _ => 0) (by decide) (by decide) (fun k hk => by omega) mi_0
  obtain ⟨b1, e1, f1⟩ := addText_m (w := 1) (len := 65) (c := 77) (b := b0) (by decide) (by decide) f0 mi_1
  obtain ⟨b2, e2, f2⟩ := addText_m (w := 2) (len := 61) (c := 142) (b := b1) (by decide) (by decide) f1 mi_2
  obtain ⟨b3, e3, f3⟩ := addText_m (w := 3) (len := 70) (c := 203) (b := b2) (by decide) (by decide) f2 mi_3
  obtain ⟨b4, e4, f4⟩ := addText_m (w := 4) (len := 31) (c := 273) (b := b3) (by decide) (by decide) f3 mi_4
  exact ⟨_, _, _, _, _, e0, e1, e2, e3, e4, rfl, f4⟩
theorem text_m : ∃ mi, f_X12_layInput 0 (fun _ => 0) 5 = some (304, mi) ∧ ∀ k, k < 304 → mi k = MI k := by
  obtain ⟨b, e1, e2⟩ := lay_L (w := 5) (len := 304) (by decide) (by decide) 5000 0 0 (fun _ => 0) (by decide) (by decide) (by decide) (fun i hi => by omega)
  refine ⟨b, ?_, fun k hk => by rw [e2 k hk, mi_5 k hk]⟩
  unfold f_X12_layInput
  rw [e1, ob_some]
  rfl
