/-! PURE: minutes until a cheese: the reference tries one minute after the other. -/
def ENT (g : Nat → Int32) (e : Nat) (a b c d : Int32) : Prop := ∃ i, i < e ∧ g (343 + 4 * i + 0) = a ∧ g (343 + 4 * i + 1) = b ∧ g (343 + 4 * i + 2) = c ∧ g (343 + 4 * i + 3) = d
theorem UD_ENT {g : Nat → Int32} {e : Nat} {a b c : Int32} : UD g e 0 a b c ↔ ∃ d, ENT g e a b c d := by
  constructor
  · rintro ⟨i, -, h1, h2, h3, h4⟩
    exact ⟨_, i, h1, h2, h3, h4, rfl⟩
  · rintro ⟨d, i, h1, h2, h3, h4, -⟩
    exact ⟨i, Nat.zero_le i, h1, h2, h3, h4⟩
theorem KN_ENT {g : Nat → Int32} {e : Nat} {a b c s : Int32} : KN g e 0 a b c s ↔ ∃ d, ENT g e a b c d ∧ ¬ d < s := by
  constructor
  · rintro ⟨i, -, h1, h2, h3, h4, h5⟩
    exact ⟨_, ⟨i, h1, h2, h3, h4, rfl⟩, h5⟩
  · rintro ⟨d, ⟨i, h1, h2, h3, h4, h5⟩, h6⟩
    exact ⟨i, Nat.zero_le i, h1, h2, h3, h4, by rw [h5]; exact h6⟩
theorem ENT_forget {g g' : Nat → Int32} {e : Nat} {p : Nat → Bool} (h : ∀ i c, i < e → p i = true → c < 4 → g' (343 + 4 * cnt p i + c) = g (343 + 4 * i + c)) {a b c d : Int32} : ENT g' (cnt p e) a b c d ↔ ∃ i, i < e ∧ p i = true ∧ g (343 + 4 * i + 0) = a ∧ g (343 + 4 * i + 1) = b ∧ g (343 + 4 * i + 2) = c ∧ g (343 + 4 * i + 3) = d := by
  constructor
  · rintro ⟨q, q1, q2, q3, q4, q5⟩
    obtain ⟨i, i1, i2, i3⟩ := cnt_surj e q1
    subst i3
    rw [h i 0 i1 i2 (by decide)] at q2
    rw [h i 1 i1 i2 (by decide)] at q3
    rw [h i 2 i1 i2 (by decide)] at q4
    rw [h i 3 i1 i2 (by decide)] at q5
    exact ⟨i, i1, i2, q2, q3, q4, q5⟩
  · rintro ⟨i, i1, i2, q2, q3, q4, q5⟩
    refine ⟨cnt p i, cnt_lt i1 i2, ?_, ?_, ?_, ?_⟩
    · rw [h i 0 i1 i2 (by decide)]; exact q2
    · rw [h i 1 i1 i2 (by decide)]; exact q3
    · rw [h i 2 i1 i2 (by decide)]; exact q4
    · rw [h i 3 i1 i2 (by decide)]; exact q5
theorem muc_L {tm tol Rr Ur Vr Tr Er row v1 th : Int32} {R U V T E g ms : Nat → Int32} {tb mb r u s k e i : Nat} (hR : RLM Rr R g r) (hU : USR Ur U g u) (hS : SVC Vr V g s) (hT : TKT Tr T g k) (hE : USE Er E g e) (hTI : TIN tb mb g r u s k) (hEI : EIN g e) (h0 : g 0 = tm) (h1 : g 1 = tol) (z1 : 0 ≤ (g 0).toInt) (z2 : (g 0).toInt ≤ 1200000) (z3 : 0 ≤ (g 1).toInt) (z4 : (g 1).toInt ≤ 9) (hrow : row.toInt = (i : Int)) (hi : i < k) (hfind : f_X6_rowWith 240 10 Tr T 0 v1 = some row) : ∀ (f nn e' : Nat) (x : Int32) (g' : Nat → Int32), x.toInt = (nn : Int) → nn ≤ 21 → 21 < nn + f → (∀ j, j ≠ 0 → j ≠ 8 → j < 343 → g' j = g j) → g' 0 = tm + x → (g' 8).toInt = (e' : Int) → e' ≤ 30 → (∀ a b c d, ENT g' e' a b c d ↔ ENT g e a b c d ∧ ¬ d < tm + x - tol) → ∃ o tr, f_X11_minutesUntilCheese_L8 tm tol Rr R Ur U Vr V Tr T Er E row f x = some (0, o) ∧ f_X12_minutesUntilCheese_L25 th ms v1 f g' x = some (o, th, tr) := by
  intro f
  induction f with
  | zero => intro nn e' x g' hx hn hf; omega
  | succ f ih =>
    intro nn e' x g' hx hn hf hs hg0 hg8 he' hEN
    rw [f_X11_minutesUntilCheese_L8, f_X12_minutesUntilCheese_L25]
    by_cases hq : 20 < x
    · rw [if_pos hq, if_pos hq]
      exact ⟨-1, g', rfl, rfl⟩
    · have hn20 : nn ≤ 20 := by
        rw [ti_lt (a := 20) (by decide) hx] at hq
        omega
      rw [if_neg hq, if_neg hq]
      have hT' : TKT Tr T g' k := TKT_fr hT (hs 6 (by decide) (by decide) (by decide)) (fun j h1 h2 => hs j (by omega) (by omega) h2)
      obtain ⟨o', f1, f2, -⟩ := find_all hT' v1
      rw [hfind] at f1
      cases f1
      obtain ⟨a, a1, a2⟩ := cheese_why (mn := x) hR hU hS hT hE hTI h1 hrow hi hs hg0 hg8 he' (fun a b c => by
        rw [UD_ENT, KN_ENT]
        exact ⟨fun ⟨d, hd⟩ => ⟨d, (hEN a b c d).mp hd⟩, fun ⟨d, hd⟩ => ⟨d, (hEN a b c d).mpr hd⟩⟩)
      simp only [a1, f2, a2, ob_some]
      by_cases h00 : a = 0
      · rw [if_pos h00, if_pos h00]
        exact ⟨x, g', rfl, rfl⟩
      · rw [if_neg h00, if_neg h00]
        simp only [zM0, zW0, ob_some]
        have t1 : (tm + x).toInt = (g 0).toInt + (nn : Int) := by rw [← h0]; exact ti_add rfl hx (by omega) (by omega)
        have t2 : (g' 0 + 1).toInt = (g 0).toInt + (nn : Int) + 1 := ti_add (by rw [hg0]; exact t1) ti_one (by omega) (by omega)
        have hx2 := ti_inc hx (by omega)
        have t3 : (tm + (x + 1)).toInt = (g 0).toInt + (nn : Int) + 1 := by rw [← h0, ti_add rfl hx2 (by omega) (by omega)]; omega
        have t4 : (tm + x - tol).toInt = (g 0).toInt + (nn : Int) - (g 1).toInt := ti_sub t1 (by rw [h1]) (by omega) (by omega)
        have t5 : (tm + (x + 1) - tol).toInt = (g 0).toInt + (nn : Int) + 1 - (g 1).toInt := ti_sub t3 (by rw [h1]) (by omega) (by omega)
        have g31 : upd g' 0 (g' 0 + 1) 1 = tol := by rw [upd_ne (by decide), hs 1 (by decide) (by decide) (by decide), h1]
        have g30 : upd g' 0 (g' 0 + 1) 0 = g' 0 + 1 := upd_eq rfl
        have g3f : ∀ j, j ≠ 0 → upd g' 0 (g' 0 + 1) j = g' j := fun j hj => upd_ne hj
        generalize upd g' 0 (g' 0 + 1) = g3 at g31 g30 g3f
        obtain ⟨g4, k1, k2, k3, k4⟩ := forget_m (g := g3) (p := fun q => decide (¬ g3 1 < g3 0 - g3 (343 + 4 * q + 3))) he' (by rw [g3f 8 (by decide)]; exact hg8) (fun q hq => ⟨fun z => of_decide_eq_true z, fun z => decide_eq_true z⟩)
        rw [k1]
        have hcl := cnt_le (p := fun q => decide (¬ g3 1 < g3 0 - g3 (343 + 4 * q + 3))) e'
        refine ih (nn + 1) _ (x + 1) g4 hx2 (by omega) (by omega) (fun j h1 h2 h3 => by rw [k3 j h2 (Or.inl h3), g3f j h1]; exact hs j h1 h2 h3) ?_ k2 (by omega) (fun a b c d => ?_)
        · rw [k3 0 (by decide) (Or.inl (by decide)), g30]
          exact ti_eq (by rw [t2, t3])
        · rw [ENT_forget k4]
          -- one entry
          have key : ∀ d, (∃ a b c, ENT g e a b c d) → ((¬ d < tm + x - tol ∧ ¬ g3 1 < g3 0 - d) ↔ ¬ d < tm + (x + 1) - tol) := fun d hd => by
            obtain ⟨a, b, c, q, q1, -, -, -, q2⟩ := hd
            have hb := hEI q q1
            rw [q2] at hb
            have t6 : (g3 0 - d).toInt = (g 0).toInt + (nn : Int) + 1 - d.toInt := ti_sub (by rw [g30]; exact t2) rfl (by omega) (by omega)
            rw [ti_lt rfl t4, ti_lt rfl t5, g31, ti_lt (x := tol) (a := (g 1).toInt) (by rw [h1]) t6]
            omega
          constructor
          · rintro ⟨q, q1, q2, q3, q4, q5, q6⟩
            have hin : ENT g' e' a b c d := ⟨q, q1, by rw [← g3f _ (by omega)]; exact q3, by rw [← g3f _ (by omega)]; exact q4, by rw [← g3f _ (by omega)]; exact q5, by rw [← g3f _ (by omega)]; exact q6⟩
            obtain ⟨w1, w2⟩ := (hEN a b c d).mp hin
            have w3 : ¬ g3 1 < g3 0 - g3 (343 + 4 * q + 3) := of_decide_eq_true q2
            rw [q6] at w3
            exact ⟨w1, (key d ⟨a, b, c, w1⟩).mp ⟨w2, w3⟩⟩
          · rintro ⟨w1, w2⟩
            obtain ⟨w3, w4⟩ := (key d ⟨a, b, c, w1⟩).mpr w2
            obtain ⟨q, q1, q3, q4, q5, q6⟩ := (hEN a b c d).mpr ⟨w1, w3⟩
            refine ⟨q, q1, decide_eq_true ?_, by rw [g3f _ (by omega)]; exact q3, by rw [g3f _ (by omega)]; exact q4, by rw [g3f _ (by omega)]; exact q5, by rw [g3f _ (by omega)]; exact q6⟩
            rw [g3f (343 + 4 * q + 3) (by omega), q6]
            exact w4
theorem hh41 (t : Nat) : H41 (REL (t + 1)) (REL t) := by
  intro nextPast pastCount i_count i_cells o_count o_cells p_start p_end p_kind p_value p_error p_errorAt p_d_time p_d_tolerance p_d_seed p_d_madeTickets p_d_cheesesOfText p_d_R_rows p_d_R_cells p_d_U_rows p_d_U_cells p_d_S_rows p_d_S_cells p_d_T_rows p_d_T_cells p_d_E_rows p_d_E_cells s_time s_tolerance s_seed s_madeTickets s_cheesesOfText s_R_rows s_R_cells s_U_rows s_U_cells s_S_rows s_S_cells s_T_rows s_T_cells s_E_rows s_E_cells sl pa m_undoable m_undoStart m_thrown m_inputLength m_position m_start m_token m_value m_letters m_code m_place m_outputLength m_s m_parsed m_tried m_remembered m_slots m_kept m_away m_input m_halfway m_output h
  have hX : RELX (t + 1) i_count i_cells m_inputLength m_input p_error m_code p_errorAt m_place o_count o_cells m_outputLength m_output s_time s_tolerance s_seed s_madeTickets s_cheesesOfText s_R_rows s_R_cells s_U_rows s_U_cells s_S_rows s_S_cells s_T_rows s_T_cells s_E_rows s_E_cells m_s sl m_slots m_kept nextPast pastCount pa m_undoable m_undoStart m_remembered := h
  obtain ⟨ht, hin, her, hou, hst, hsl, hun⟩ := hX
  have hst1 := hst.mono (tbt_le t) (mbt_le t)
  have hsl1 := hsl.mono (tbt_le t) (mbt_le t)
  have hun1 := hun.mono (tbt_le t) (mbt_le t)
  have htb := tbt_max (t + 1)
  have hmb := mbt_max (t + 1)
  have H := RELX.mk (show t ≤ 512 by omega) hin her hou hst1 hsl1 hun1
  intro v1
  obtain ⟨r, u, s, k, e, ⟨y0, y1, y2, y7, y9⟩, ⟨hR, hR2, hR3⟩, ⟨hU, hU2⟩, ⟨hS, hS2⟩, hT, hE, ⟨z1, z2, z3, z4, z5, z6⟩, hRI, hUI, hSI, hTI, hEI, hUZ⟩ := id hst
  obtain ⟨g3, g4, g5, g6, g8⟩ := ST_gs (tb := 0) (mb := 0) (tm := 0) (tol := 0) (seed := 0) (made := 0) (cot := 0) hR hU hS hT hE
  obtain ⟨row, f1, f2, f3⟩ := find_all hT v1
  by_cases hq : row = -1
  case pos =>
    rw [hq] at f1 f2
    refine ⟨(4, 0), (0, 1, m_tried), ?_, Or.inr rfl, ?_, rfl, (fun z => nomatch z), H⟩
    · simp only [f_X11_minutesUntilCheese, rowOf_none f1, ob_some, k40, if_false]
    · simp only [f_X12_minutesUntilCheese, noTicket_none f2, ob_some, i10, if_false]
  obtain ⟨i, li, ti, -⟩ := f3.resolve_left hq
  have ct := rowOf_some f1 hq
  have mt : ∀ th, f_X12_noTicket th m_s v1 = some (0, 0) := fun th => noTicket_some f2 hq
  have li6 : (i : Int) < (m_s 6).toInt := by rw [g6]; omega
  have hcp : ∀ j, j < 463 → cpy m_s m_tried 0 0 j = m_s j := fun j hj => by rw [cpy_in (i := j) (by omega) hj, Nat.zero_add]
  have hcr : f_X12_copyRow 463 463 m_s m_tried 0 0 = some (cpy m_s m_tried 0 0) := copyRow_m (fn := 463) (tn := 463) (a := 0) (b := 0) (v1 := 0) (v3 := 0) (by decide) (by decide) (by decide) (by decide) (by decide) (by decide)
  have he30 := hE.2.1
  have e0 : s_time + 0 - s_tolerance = m_s 0 - m_s 1 := by rw [y0, y1, Int32.add_zero]
  have t0 : (m_s 0 - m_s 1).toInt = (m_s 0).toInt - (m_s 1).toInt := ti_sub rfl rfl (by omega) (by omega)
  obtain ⟨oo, tr, o1, o2⟩ := muc_L (th := 0) (ms := m_s) (v1 := v1) hR hU hS hT hE hTI hEI y0 y1 z1 (by omega) z3 z4 ti li f1 5000 0 e 0 (cpy m_s m_tried 0 0) (by decide) (by omega) (by omega) (fun j _ _ hj => hcp j (by omega)) (by rw [hcp 0 (by decide), y0, Int32.add_zero]) (by rw [hcp 8 (by decide)]; exact g8) he30 (fun a b c d => by
    rw [e0]
    constructor
    · rintro ⟨q, q1, q2, q3, q4, q5⟩
      rw [hcp _ (by omega)] at q2 q3 q4 q5
      refine ⟨⟨q, q1, q2, q3, q4, q5⟩, ?_⟩
      have hb := (hEI q q1).1
      rw [q5] at hb
      rw [ti_lt rfl t0]
      omega
    · rintro ⟨⟨q, q1, q2, q3, q4, q5⟩, -⟩
      exact ⟨q, q1, by rw [hcp _ (by omega)]; exact q2, by rw [hcp _ (by omega)]; exact q3, by rw [hcp _ (by omega)]; exact q4, by rw [hcp _ (by omega)]; exact q5⟩)
  refine ⟨(0, oo), (oo, 0, tr), ?_, Or.inl rfl, ?_, rfl, (fun _ => rfl), H⟩
  · simp only [f_X11_minutesUntilCheese, ct, o1, ob_some, if_true]
  · simp only [f_X12_minutesUntilCheese, mt, hcr, o2, ob_some, if_true]
