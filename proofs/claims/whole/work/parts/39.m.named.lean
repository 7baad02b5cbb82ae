/-! PURE: names looked up in the tables of both sides. -/
theorem rowWith_tot {tn W r c : Nat} {w rows y v : Int32} {f : Nat → Int32} (hw : w.toInt = (W : Int)) (hr : rows.toInt = (r : Int)) (hy : y.toInt = (c : Int)) (hp : ∀ i, i < r → i * W + c < tn) (ht : tn < 2147483648) (hr2 : r < 1000) : ∀ (n k : Nat) (x : Int32), x.toInt = (k : Int) → k ≤ r → r < k + n → ∃ o, f_X6_rowWith_L2 tn w rows f y v n x = some o := by
  intro n
  induction n with
  | zero => intro k x hx hk hn; omega
  | succ n ih =>
    intro k x hx hk hn
    rw [f_X6_rowWith_L2]
    by_cases hq : rows ≤ x
    · rw [if_pos hq]
      exact ⟨-1, rfl⟩
    · rw [if_neg hq]
      have hkr : k < r := by
        rw [ti_le hr hx] at hq
        omega
      rw [get_at hw hr hx hy hkr (hp k hkr) ht]
      simp only [ob_some]
      by_cases hv : f (k * W + c) = v
      · rw [if_pos hv]
        exact ⟨x, rfl⟩
      · rw [if_neg hv]
        exact ih (k + 1) (x + 1) (ti_inc hx (by omega)) hkr (by omega)
theorem NMV_row {a b c m : Int32} (h : NAME a b) (hv : NMV c m) : a = c ↔ b = m := by
  rcases hv with ⟨rfl, rfl⟩ | hv
  · have := NAME_pos h
    constructor
    · rintro rfl
      exact absurd this.1 (by decide)
    · rintro rfl
      exact absurd this.2 (by decide)
  · exact NAME_inj h hv

theorem realmNamed_L {rows c m : Int32} {C g : Nat → Int32} {r : Nat} (h : RLM rows C g r) (hN : NMS 5 4 10 C g r) (hv : NMV c m) : ∀ (n k : Nat) (x : Int32), x.toInt = (k : Int) → k ≤ r → r < k + n → ∃ o, f_X6_rowWith_L2 25 5 rows C 0 c n x = some o ∧ f_X12_realmNamed_L2 g m n x = some o ∧ (o = -1 ∨ ∃ i : Nat, i < r ∧ o.toInt = (i : Int) ∧ g (10 + 4 * i + 0) = m) := by
  have hr := h.1
  have hm := h.2.1
  have hg : g 3 = rows := h.2.2.1
  intro n
  induction n with
  | zero => intro k x hx hk hn; omega
  | succ n ih =>
    intro k x hx hk hn
    rw [f_X6_rowWith_L2, f_X12_realmNamed_L2]
    simp only [zM3, hg, ob_some]
    by_cases hq : rows ≤ x
    · rw [if_pos hq, if_pos hq]
      exact ⟨-1, rfl, rfl, Or.inl rfl⟩
    · have hkr : k < r := by
        rw [ti_le hr hx] at hq
        omega
      have hk6 : k < 5 := by omega
      rw [if_neg hq, if_neg hq]
      simp only [rR0 hr hm hx hkr, f_X12_ofRealm, rM0 hx hk6, ob_some]
      have he := NMV_row (hN k hkr) hv
      by_cases hc : C (k * 5 + 0) = c
      · rw [if_pos hc, if_pos (he.mp hc)]
        exact ⟨x, rfl, rfl, Or.inr ⟨k, hkr, hx, he.mp hc⟩⟩
      · rw [if_neg hc, if_neg (fun y => hc (he.mpr y))]
        exact ih (k + 1) (x + 1) (ti_inc hx (by omega)) hkr (by omega)
theorem realmNamed_same {rows c m : Int32} {C g : Nat → Int32} {r : Nat} (h : RLM rows C g r) (hN : NMS 5 4 10 C g r) (hv : NMV c m) : ∃ o, f_X6_rowWith 25 5 rows C 0 c = some o ∧ f_X12_realmNamed g m = some o ∧ (o = -1 ∨ ∃ i : Nat, i < r ∧ o.toInt = (i : Int) ∧ g (10 + 4 * i + 0) = m) := by
  have hm := h.2.1
  exact realmNamed_L h hN hv 5000 0 0 (by decide) (by omega) (by omega)
theorem realmNamed_c {rows c : Int32} {C g : Nat → Int32} {r : Nat} (h : RLM rows C g r) : ∃ o, f_X6_rowWith 25 5 rows C 0 c = some o := by
  have hm := h.2.1
  exact rowWith_tot (W := 5) (c := 0) (by decide) h.1 (by decide) (fun i hi => by omega) (by decide) (by omega) 5000 0 0 (by decide) (by omega) (by omega)
theorem realmNamed_mL {m : Int32} {g : Nat → Int32} {r : Nat} (hr : (g 3).toInt = (r : Int)) (hm : r ≤ 5) : ∀ (n k : Nat) (x : Int32), x.toInt = (k : Int) → k ≤ r → r < k + n → ∃ o, f_X12_realmNamed_L2 g m n x = some o := by
  intro n
  induction n with
  | zero => intro k x hx hk hn; omega
  | succ n ih =>
    intro k x hx hk hn
    rw [f_X12_realmNamed_L2]
    simp only [zM3, ob_some]
    by_cases hq : g 3 ≤ x
    · rw [if_pos hq]
      exact ⟨-1, rfl⟩
    · have hkr : k < r := by
        rw [ti_le hr hx] at hq
        omega
      have hk6 : k < 5 := by omega
      rw [if_neg hq]
      simp only [f_X12_ofRealm, rM0 hx hk6, ob_some]
      by_cases hc : g (10 + 4 * k + 0) = m
      · rw [if_pos hc]
        exact ⟨x, rfl⟩
      · rw [if_neg hc]
        exact ih (k + 1) (x + 1) (ti_inc hx (by omega)) hkr (by omega)
theorem realmNamed_m {rows m : Int32} {C g : Nat → Int32} {r : Nat} (h : RLM rows C g r) : ∃ o, f_X12_realmNamed g m = some o := by
  have hm := h.2.1
  exact realmNamed_mL (by rw [h.2.2.1]; exact h.1) hm 5000 0 0 (by decide) (by omega) (by omega)

theorem userNamed_L {rows c m : Int32} {C g : Nat → Int32} {r : Nat} (h : USR rows C g r) (hN : NMS 5 5 55 C g r) (hv : NMV c m) : ∀ (n k : Nat) (x : Int32), x.toInt = (k : Int) → k ≤ r → r < k + n → ∃ o, f_X6_rowWith_L2 30 5 rows C 0 c n x = some o ∧ f_X12_userNamed_L2 g m n x = some o ∧ (o = -1 ∨ ∃ i : Nat, i < r ∧ o.toInt = (i : Int) ∧ g (55 + 5 * i + 0) = m) := by
  have hr := h.1
  have hm := h.2.1
  have hg : g 4 = rows := h.2.2.1
  intro n
  induction n with
  | zero => intro k x hx hk hn; omega
  | succ n ih =>
    intro k x hx hk hn
    rw [f_X6_rowWith_L2, f_X12_userNamed_L2]
    simp only [zM4, hg, ob_some]
    by_cases hq : rows ≤ x
    · rw [if_pos hq, if_pos hq]
      exact ⟨-1, rfl, rfl, Or.inl rfl⟩
    · have hkr : k < r := by
        rw [ti_le hr hx] at hq
        omega
      have hk6 : k < 6 := by omega
      rw [if_neg hq, if_neg hq]
      simp only [uR0 hr hm hx hkr, f_X12_ofUser, uM0 hx hk6, ob_some]
      have he := NMV_row (hN k hkr) hv
      by_cases hc : C (k * 5 + 0) = c
      · rw [if_pos hc, if_pos (he.mp hc)]
        exact ⟨x, rfl, rfl, Or.inr ⟨k, hkr, hx, he.mp hc⟩⟩
      · rw [if_neg hc, if_neg (fun y => hc (he.mpr y))]
        exact ih (k + 1) (x + 1) (ti_inc hx (by omega)) hkr (by omega)
theorem userNamed_same {rows c m : Int32} {C g : Nat → Int32} {r : Nat} (h : USR rows C g r) (hN : NMS 5 5 55 C g r) (hv : NMV c m) : ∃ o, f_X6_rowWith 30 5 rows C 0 c = some o ∧ f_X12_userNamed g m = some o ∧ (o = -1 ∨ ∃ i : Nat, i < r ∧ o.toInt = (i : Int) ∧ g (55 + 5 * i + 0) = m) := by
  have hm := h.2.1
  exact userNamed_L h hN hv 5000 0 0 (by decide) (by omega) (by omega)
theorem userNamed_c {rows c : Int32} {C g : Nat → Int32} {r : Nat} (h : USR rows C g r) : ∃ o, f_X6_rowWith 30 5 rows C 0 c = some o := by
  have hm := h.2.1
  exact rowWith_tot (W := 5) (c := 0) (by decide) h.1 (by decide) (fun i hi => by omega) (by decide) (by omega) 5000 0 0 (by decide) (by omega) (by omega)
theorem userNamed_mL {m : Int32} {g : Nat → Int32} {r : Nat} (hr : (g 4).toInt = (r : Int)) (hm : r ≤ 6) : ∀ (n k : Nat) (x : Int32), x.toInt = (k : Int) → k ≤ r → r < k + n → ∃ o, f_X12_userNamed_L2 g m n x = some o := by
  intro n
  induction n with
  | zero => intro k x hx hk hn; omega
  | succ n ih =>
    intro k x hx hk hn
    rw [f_X12_userNamed_L2]
    simp only [zM4, ob_some]
    by_cases hq : g 4 ≤ x
    · rw [if_pos hq]
      exact ⟨-1, rfl⟩
    · have hkr : k < r := by
        rw [ti_le hr hx] at hq
        omega
      have hk6 : k < 6 := by omega
      rw [if_neg hq]
      simp only [f_X12_ofUser, uM0 hx hk6, ob_some]
      by_cases hc : g (55 + 5 * k + 0) = m
      · rw [if_pos hc]
        exact ⟨x, rfl⟩
      · rw [if_neg hc]
        exact ih (k + 1) (x + 1) (ti_inc hx (by omega)) hkr (by omega)
theorem userNamed_m {rows m : Int32} {C g : Nat → Int32} {r : Nat} (h : USR rows C g r) : ∃ o, f_X12_userNamed g m = some o := by
  have hm := h.2.1
  exact userNamed_mL (by rw [h.2.2.1]; exact h.1) hm 5000 0 0 (by decide) (by omega) (by omega)

theorem serviceNamed_L {rows c m : Int32} {C g : Nat → Int32} {r : Nat} (h : SVC rows C g r) (hN : NMS 3 3 85 C g r) (hv : NMV c m) : ∀ (n k : Nat) (x : Int32), x.toInt = (k : Int) → k ≤ r → r < k + n → ∃ o, f_X6_rowWith_L2 18 3 rows C 0 c n x = some o ∧ f_X12_serviceNamed_L2 g m n x = some o ∧ (o = -1 ∨ ∃ i : Nat, i < r ∧ o.toInt = (i : Int) ∧ g (85 + 3 * i + 0) = m) := by
  have hr := h.1
  have hm := h.2.1
  have hg : g 5 = rows := h.2.2.1
  intro n
  induction n with
  | zero => intro k x hx hk hn; omega
  | succ n ih =>
    intro k x hx hk hn
    rw [f_X6_rowWith_L2, f_X12_serviceNamed_L2]
    simp only [zM5, hg, ob_some]
    by_cases hq : rows ≤ x
    · rw [if_pos hq, if_pos hq]
      exact ⟨-1, rfl, rfl, Or.inl rfl⟩
    · have hkr : k < r := by
        rw [ti_le hr hx] at hq
        omega
      have hk6 : k < 6 := by omega
      rw [if_neg hq, if_neg hq]
      simp only [vR0 hr hm hx hkr, f_X12_ofService, vM0 hx hk6, ob_some]
      have he := NMV_row (hN k hkr) hv
      by_cases hc : C (k * 3 + 0) = c
      · rw [if_pos hc, if_pos (he.mp hc)]
        exact ⟨x, rfl, rfl, Or.inr ⟨k, hkr, hx, he.mp hc⟩⟩
      · rw [if_neg hc, if_neg (fun y => hc (he.mpr y))]
        exact ih (k + 1) (x + 1) (ti_inc hx (by omega)) hkr (by omega)
theorem serviceNamed_same {rows c m : Int32} {C g : Nat → Int32} {r : Nat} (h : SVC rows C g r) (hN : NMS 3 3 85 C g r) (hv : NMV c m) : ∃ o, f_X6_rowWith 18 3 rows C 0 c = some o ∧ f_X12_serviceNamed g m = some o ∧ (o = -1 ∨ ∃ i : Nat, i < r ∧ o.toInt = (i : Int) ∧ g (85 + 3 * i + 0) = m) := by
  have hm := h.2.1
  exact serviceNamed_L h hN hv 5000 0 0 (by decide) (by omega) (by omega)
theorem serviceNamed_c {rows c : Int32} {C g : Nat → Int32} {r : Nat} (h : SVC rows C g r) : ∃ o, f_X6_rowWith 18 3 rows C 0 c = some o := by
  have hm := h.2.1
  exact rowWith_tot (W := 3) (c := 0) (by decide) h.1 (by decide) (fun i hi => by omega) (by decide) (by omega) 5000 0 0 (by decide) (by omega) (by omega)
theorem serviceNamed_mL {m : Int32} {g : Nat → Int32} {r : Nat} (hr : (g 5).toInt = (r : Int)) (hm : r ≤ 6) : ∀ (n k : Nat) (x : Int32), x.toInt = (k : Int) → k ≤ r → r < k + n → ∃ o, f_X12_serviceNamed_L2 g m n x = some o := by
  intro n
  induction n with
  | zero => intro k x hx hk hn; omega
  | succ n ih =>
    intro k x hx hk hn
    rw [f_X12_serviceNamed_L2]
    simp only [zM5, ob_some]
    by_cases hq : g 5 ≤ x
    · rw [if_pos hq]
      exact ⟨-1, rfl⟩
    · have hkr : k < r := by
        rw [ti_le hr hx] at hq
        omega
      have hk6 : k < 6 := by omega
      rw [if_neg hq]
      simp only [f_X12_ofService, vM0 hx hk6, ob_some]
      by_cases hc : g (85 + 3 * k + 0) = m
      · rw [if_pos hc]
        exact ⟨x, rfl⟩
      · rw [if_neg hc]
        exact ih (k + 1) (x + 1) (ti_inc hx (by omega)) hkr (by omega)
theorem serviceNamed_m {rows m : Int32} {C g : Nat → Int32} {r : Nat} (h : SVC rows C g r) : ∃ o, f_X12_serviceNamed g m = some o := by
  have hm := h.2.1
  exact serviceNamed_mL (by rw [h.2.2.1]; exact h.1) hm 5000 0 0 (by decide) (by omega) (by omega)

theorem named_none {B G W : Nat} {C g : Nat → Int32} {r : Nat} {o : Int32} (hN : NMS W G B C g r) (h : o = -1 ∨ ∃ i : Nat, i < r ∧ o.toInt = (i : Int) ∧ g (B + G * i + 0) = -1) : o = -1 := by
  rcases h with h | ⟨i, hi, -, he⟩
  · exact h
  · have := (NAME_pos (hN i hi)).2
    rw [he] at this
    exact absurd this (by decide)
theorem code_same {Rr Ur Vr c m : Int32} {R U V g : Nat → Int32} {r u s : Nat} (hR : RLM Rr R g r) (hR2 : NMS 5 4 10 R g r) (hU : USR Ur U g u) (hU2 : NMS 5 5 55 U g u) (hS : SVC Vr V g s) (hS2 : NMS 3 3 85 V g s) (hv : NMV c m) : ∃ o, f_X5_codeOfName Rr R Ur U Vr V c = some o ∧ f_X12_named g m = some o ∧ (m = -1 → o = -1) := by
  obtain ⟨o1, a1, a2, a3⟩ := realmNamed_same hR hR2 hv
  obtain ⟨o2, b1, b2, b3⟩ := userNamed_same hU hU2 hv
  obtain ⟨o3, c1, c2, c3⟩ := serviceNamed_same hS hS2 hv
  have hz : m = -1 → o1 = -1 ∧ o2 = -1 ∧ o3 = -1 := fun e => by
    rw [e] at a3 b3 c3
    exact ⟨named_none hR2 a3, named_none hU2 b3, named_none hS2 c3⟩
  simp only [f_X5_codeOfName, f_X12_named, a1, a2, b1, b2, c1, c2, ob_some]
  by_cases e1 : o1 = -1
  · rw [if_pos e1]
    by_cases e2 : o2 = -1
    · rw [if_pos e2]
      by_cases e3 : o3 = -1
      · rw [if_pos e3]
        exact ⟨-1, rfl, rfl, fun _ => rfl⟩
      · rw [if_neg e3]
        exact ⟨200 + o3, rfl, rfl, fun e => absurd (hz e).2.2 e3⟩
    · rw [if_neg e2]
      exact ⟨100 + o2, rfl, rfl, fun e => absurd (hz e).2.1 e2⟩
  · rw [if_neg e1]
    exact ⟨o1, rfl, rfl, fun e => absurd (hz e).1 e1⟩
theorem code_c {Rr Ur Vr c : Int32} {R U V g : Nat → Int32} {r u s : Nat} (hR : RLM Rr R g r) (hU : USR Ur U g u) (hS : SVC Vr V g s) : ∃ o, f_X5_codeOfName Rr R Ur U Vr V c = some o := by
  obtain ⟨o1, a1⟩ := realmNamed_c (c := c) hR
  obtain ⟨o2, b1⟩ := userNamed_c (c := c) hU
  obtain ⟨o3, c1⟩ := serviceNamed_c (c := c) hS
  simp only [f_X5_codeOfName, a1, b1, c1, ob_some]
  by_cases e1 : o1 = -1
  · rw [if_pos e1]
    by_cases e2 : o2 = -1
    · rw [if_pos e2]
      by_cases e3 : o3 = -1
      · rw [if_pos e3]
        exact ⟨_, rfl⟩
      · rw [if_neg e3]
        exact ⟨_, rfl⟩
    · rw [if_neg e2]
      exact ⟨_, rfl⟩
  · rw [if_neg e1]
    exact ⟨_, rfl⟩

