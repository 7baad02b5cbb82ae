/-! PURE: what is asked of sums, of the best ticket and of what is no whole number. -/
theorem sum_sv {rows c : Int32} {C g : Nat → Int32} {r : Nat} (h : SVC rows C g r) : ∀ (n k : Nat) (x acc : Int32), x.toInt = (k : Int) → k ≤ r → r < k + n → ∃ tot, f_X6_sumOf_L4 18 3 rows C 2 n acc x = some tot ∧ f_X12_cheeseDifference_L15 g n (c - acc) x = some (c - tot) := by
  have hm := h.2.1
  intro n
  induction n with
  | zero => intro k x acc hx hk hn; omega
  | succ n ih =>
    intro k x acc hx hk hn
    rw [f_X6_sumOf_L4, f_X12_cheeseDifference_L15]
    simp only [zM5, h.2.2.1, ob_some]
    by_cases hq : rows ≤ x
    · rw [if_pos hq, if_pos hq]
      exact ⟨acc, rfl, rfl⟩
    · have hkr : k < r := by
        rw [ti_le h.1 hx] at hq
        omega
      have hk6 : k < 6 := by omega
      rw [if_neg hq, if_neg hq]
      simp only [vG2 h hx hkr, f_X12_ofService, vM2 hx hk6, ob_some, Int32.sub_sub]
      exact ih (k + 1) (x + 1) (acc + g (85 + 3 * k + 2)) (ti_inc hx (by omega)) hkr (by omega)
theorem sum_us {rows c : Int32} {C g : Nat → Int32} {r : Nat} (h : USR rows C g r) : ∀ (n k : Nat) (x acc : Int32), x.toInt = (k : Int) → k ≤ r → r < k + n → ∃ tot, f_X6_sumOf_L4 30 5 rows C 4 n acc x = some tot ∧ f_X12_cheeseDifference_L47 g n (c - acc) x = some (c - tot) := by
  have hm := h.2.1
  intro n
  induction n with
  | zero => intro k x acc hx hk hn; omega
  | succ n ih =>
    intro k x acc hx hk hn
    rw [f_X6_sumOf_L4, f_X12_cheeseDifference_L47]
    simp only [zM4, h.2.2.1, ob_some]
    by_cases hq : rows ≤ x
    · rw [if_pos hq, if_pos hq]
      exact ⟨acc, rfl, rfl⟩
    · have hkr : k < r := by
        rw [ti_le h.1 hx] at hq
        omega
      have hk6 : k < 6 := by omega
      rw [if_neg hq, if_neg hq]
      simp only [uG4 h hx hkr, f_X12_ofUser, uM4 hx hk6, ob_some, Int32.sub_sub]
      exact ih (k + 1) (x + 1) (acc + g (55 + 5 * k + 4)) (ti_inc hx (by omega)) hkr (by omega)
theorem life_L {rows : Int32} {T g : Nat → Int32} {r : Nat} (h : TKT rows T g r) : ∀ (n k : Nat) (x acc : Int32), x.toInt = (k : Int) → k ≤ r → r < k + n → ∃ tot, f_X7_countLifeErrors_L4 rows T n acc x = some tot ∧ f_X12_lifeErrors_L9 g n acc x = some tot := by
  have hm := h.2.1
  intro n
  induction n with
  | zero => intro k x acc hx hk hn; omega
  | succ n ih =>
    intro k x acc hx hk hn
    rw [f_X7_countLifeErrors_L4, f_X12_lifeErrors_L9]
    simp only [zM6, f_X6_size, h.2.2.1, ob_some]
    by_cases hq : rows ≤ x
    · rw [if_pos hq, if_pos hq]
      exact ⟨acc, rfl, rfl⟩
    · have hkr : k < r := by
        rw [ti_le h.1 hx] at hq
        omega
      have hk24 : k < 24 := by omega
      rw [if_neg hq, if_neg hq]
      simp only [tG5 h hx hkr, tG6 h hx hkr, tG7 h hx hkr, f_X12_ofTicket, tM5 hx hk24, tM6 hx hk24, tM7 hx hk24, ob_some, if_some]
      exact ih (k + 1) (x + 1) _ (ti_inc hx (by omega)) hkr (by omega)
theorem avg_L {rows : Int32} {T g : Nat → Int32} {r : Nat} (h : TKT rows T g r) : ∀ (n k : Nat) (x a b : Int32), x.toInt = (k : Int) → k ≤ r → r < k + n → ∃ t6 t5, f_X6_sumOf_L4 240 10 rows T 6 n a x = some t6 ∧ f_X6_sumOf_L4 240 10 rows T 5 n b x = some t5 ∧ f_X12_averageLife_L9 g n (a - b) x = some (t6 - t5) := by
  have hm := h.2.1
  intro n
  induction n with
  | zero => intro k x a b hx hk hn; omega
  | succ n ih =>
    intro k x a b hx hk hn
    rw [f_X6_sumOf_L4, f_X6_sumOf_L4, f_X12_averageLife_L9]
    simp only [zM6, h.2.2.1, ob_some]
    by_cases hq : rows ≤ x
    · rw [if_pos hq, if_pos hq, if_pos hq]
      exact ⟨a, b, rfl, rfl, rfl⟩
    · have hkr : k < r := by
        rw [ti_le h.1 hx] at hq
        omega
      have hk24 : k < 24 := by omega
      rw [if_neg hq, if_neg hq, if_neg hq]
      simp only [tG5 h hx hkr, tG6 h hx hkr, f_X12_ofTicket, tM5 hx hk24, tM6 hx hk24, ob_some]
      have e : a - b + (g (103 + 10 * k + 6) - g (103 + 10 * k + 5)) = a + g (103 + 10 * k + 6) - (b + g (103 + 10 * k + 5)) := by grind
      rw [e]
      exact ih (k + 1) (x + 1) (a + g (103 + 10 * k + 6)) (b + g (103 + 10 * k + 5)) (ti_inc hx (by omega)) hkr (by omega)
theorem best_L {tm rows v1 v2 : Int32} {T g : Nat → Int32} {tb mb r u s k : Nat} (h : TKT rows T g k) (hTI : TIN tb mb g r u s k) (h0 : g 0 = tm) (hv2 : 0 ≤ v2.toInt) : ∀ (n j : Nat) (x b : Int32), x.toInt = (j : Int) → j ≤ k → k < j + n → (b = -1 ∨ ∃ i, i < k ∧ b.toInt = ((i : Nat) : Int)) → ∃ o, f_X7_longestAlive_L6 rows T v1 v2 tm n b x = some o ∧ f_X12_bestTicket_L23 g v1 v2 n b x = some o ∧ (o = -1 ∨ ∃ i, i < k ∧ o.toInt = ((i : Nat) : Int)) := by
  have hm := h.2.1
  intro n
  induction n with
  | zero => intro j x b hx hj hn; omega
  | succ n ih =>
    intro j x b hx hj hn hb
    rw [f_X7_longestAlive_L6, f_X12_bestTicket_L23]
    simp only [zM6, f_X6_size, h.2.2.1, ob_some]
    by_cases hq : rows ≤ x
    · rw [if_pos hq, if_pos hq]
      exact ⟨b, rfl, rfl, hb⟩
    · have hkr : j < k := by
        rw [ti_le h.1 hx] at hq
        omega
      have hk24 : j < 24 := by omega
      have hx2 := ti_inc hx (by omega)
      have hrec := ih (j + 1) (x + 1) b hx2 hkr (by omega) hb
      have hrecx := ih (j + 1) (x + 1) x hx2 hkr (by omega) (Or.inr ⟨j, hkr, hx⟩)
      have hl : f_X12_lives g x = some (alv (g (103 + 10 * j + 6)) tm) := by rw [← h0]; exact lives_m hx hk24
      rw [if_neg hq, if_neg hq]
      have hkind : g (103 + 10 * j + 4) = v2 → g (103 + 10 * j + 1) = 1 := fun e => by
        obtain ⟨-, -, k1, -⟩ := hTI j hkr
        rcases k1 with ⟨-, k2⟩ | ⟨k2, -⟩
        · rw [← e, k2] at hv2
          exact absurd hv2 (by decide)
        · exact k2
      -- the best so far, read on both sides
      have hbest : ∃ c : Int32, (if b = -1 then some 1 else ((f_X6_get 240 10 rows T x 6).bind fun o6 => (f_X6_get 240 10 rows T b 6).bind fun o7 => if o6 ≤ o7 then some 0 else some 1)) = some c ∧ (¬ b = -1 → ∃ y, rd g 463 (103 + 10 * b + 6) = some y ∧ (c = 0 ↔ g (103 + 10 * j + 6) ≤ y)) ∧ (b = -1 → c = 1) := by
        rcases hb with rfl | ⟨i, hi, hbi⟩
        · exact ⟨1, if_pos rfl, fun z => absurd rfl z, fun _ => rfl⟩
        · have hbn : ¬ b = -1 := ne_none hbi
          refine ⟨if g (103 + 10 * j + 6) ≤ g (103 + 10 * i + 6) then 0 else 1, ?_, fun _ => ⟨_, tM6 hbi (by omega), ?_⟩, fun z => absurd z hbn⟩
          · rw [if_neg hbn]
            simp only [tG6 h hx hkr, tG6 h hbi hi, ob_some, if_some]
          · by_cases hc : g (103 + 10 * j + 6) ≤ g (103 + 10 * i + 6)
            · rw [if_pos hc]; exact ⟨fun _ => hc, fun _ => rfl⟩
            · rw [if_neg hc]; exact ⟨fun z => absurd z n10, fun z => absurd z hc⟩
      obtain ⟨c, c1, c2, c3⟩ := hbest
      rw [tG6 h hx hkr] at c1
      simp only [tG2 h hx hkr, tG4 h hx hkr, tG6 h hx hkr, alive_c h hx hkr, hl, f_X12_ofTicket, tM1 hx hk24, tM2 hx hk24, tM4 hx hk24, tM6 hx hk24, ob_some, if_some] at c1 ⊢
      rw [c1]
      simp only [ob_some]
      by_cases f1 : g (103 + 10 * j + 2) = v1
      · by_cases f2 : g (103 + 10 * j + 4) = v2
        · have fk := hkind f2
          by_cases f3 : alv (g (103 + 10 * j + 6)) tm = 0
          · -- does not live
            simp only [if_pos f1, if_pos f2, if_pos fk, if_pos f3, if_true, i10, if_false]
            by_cases hc0 : c = 0
            · rw [if_pos hc0]; exact hrec
            · rw [if_neg hc0]; exact hrec
          · simp only [if_pos f1, if_pos f2, if_pos fk, if_neg f3, i10, if_false]
            by_cases hbn : b = -1
            · rw [c3 hbn, if_neg n10, if_pos hbn]
              exact hrecx
            · obtain ⟨y, y1, y2⟩ := c2 hbn
              rw [if_neg hbn, y1]
              simp only [ob_some]
              by_cases hc0 : c = 0
              · rw [if_pos hc0, if_pos (y2.mp hc0)]; exact hrec
              · rw [if_neg hc0, if_neg (fun z => hc0 (y2.mpr z))]; exact hrecx
        · simp only [if_pos f1, if_neg f2, if_true]
          by_cases fk : g (103 + 10 * j + 1) = 1
          · simp only [if_pos fk, if_true]; exact hrec
          · simp only [if_neg fk, if_true]; exact hrec
      · simp only [if_neg f1, if_true]
        by_cases fk : g (103 + 10 * j + 1) = 1
        · simp only [if_pos fk, if_true]; exact hrec
        · simp only [if_neg fk, if_true]; exact hrec
theorem hh44 (t : Nat) : H44 (REL (t + 1)) (REL t) := by
  intro nextPast pastCount i_count i_cells o_count o_cells p_start p_end p_kind p_value p_error p_errorAt p_d_time p_d_tolerance p_d_seed p_d_madeTickets p_d_cheesesOfText p_d_R_rows p_d_R_cells p_d_U_rows p_d_U_cells p_d_S_rows p_d_S_cells p_d_T_rows p_d_T_cells p_d_E_rows p_d_E_cells s_time s_tolerance s_seed s_madeTickets s_cheesesOfText s_R_rows s_R_cells s_U_rows s_U_cells s_S_rows s_S_cells s_T_rows s_T_cells s_E_rows s_E_cells sl pa m_undoable m_undoStart m_thrown m_inputLength m_position m_start m_token m_value m_letters m_code m_place m_outputLength m_s m_parsed m_tried m_remembered m_slots m_kept m_away m_input m_halfway m_output h
  have hX : RELX (t + 1) i_count i_cells m_inputLength m_input p_error m_code p_errorAt m_place o_count o_cells m_outputLength m_output s_time s_tolerance s_seed s_madeTickets s_cheesesOfText s_R_rows s_R_cells s_U_rows s_U_cells s_S_rows s_S_cells s_T_rows s_T_cells s_E_rows s_E_cells m_s sl m_slots m_kept nextPast pastCount pa m_undoable m_undoStart m_remembered := h
  obtain ⟨ht, hin, her, hou, hst, hsl, hun⟩ := hX
  have hst1 := hst.mono (tbt_le t) (mbt_le t)
  have hsl1 := hsl.mono (tbt_le t) (mbt_le t)
  have hun1 := hun.mono (tbt_le t) (mbt_le t)
  have htb := tbt_max (t + 1)
  have hmb := mbt_max (t + 1)
  have H := RELX.mk (show t ≤ 512 by omega) hin her hou hst1 hsl1 hun1
  obtain ⟨r, u, s, k, e, ⟨y0, y1, y2, y7, y9⟩, ⟨hR, hR2, hR3⟩, ⟨hU, hU2⟩, ⟨hS, hS2⟩, hT, hE, ⟨z1, z2, z3, z4, z5, z6⟩, hRI, hUI, hSI, hTI, hEI, hUZ⟩ := id hst
  obtain ⟨g3, g4, g5, g6, g8⟩ := ST_gs (tb := 0) (mb := 0) (tm := 0) (tol := 0) (seed := 0) (made := 0) (cot := 0) hR hU hS hT hE
  have hs6 := hS.2.1
  have hu6 := hU.2.1
  obtain ⟨t1, a1, a2⟩ := sum_sv (c := m_s 9) hS 5000 0 0 0 (by decide) (by omega) (by omega)
  obtain ⟨t2, b1, b2⟩ := sum_us (c := m_s 9 - t1) hU 5000 0 0 0 (by decide) (by omega) (by omega)
  rw [Int32.sub_zero] at a2 b2
  refine ⟨s_cheesesOfText - t1 - t2, (m_s 9 - t1 - t2, 0), ?_, ?_, by show s_cheesesOfText - t1 - t2 = m_s 9 - t1 - t2; rw [y9], H⟩
  · simp only [f_X11_cheeseDifference, f_X6_sumOf, a1, b1, ob_some]
  · simp only [f_X12_cheeseDifference, zM9, a2, b2, ob_some]
theorem hh45 (t : Nat) : H45 (REL (t + 1)) (REL t) := by
  intro nextPast pastCount i_count i_cells o_count o_cells p_start p_end p_kind p_value p_error p_errorAt p_d_time p_d_tolerance p_d_seed p_d_madeTickets p_d_cheesesOfText p_d_R_rows p_d_R_cells p_d_U_rows p_d_U_cells p_d_S_rows p_d_S_cells p_d_T_rows p_d_T_cells p_d_E_rows p_d_E_cells s_time s_tolerance s_seed s_madeTickets s_cheesesOfText s_R_rows s_R_cells s_U_rows s_U_cells s_S_rows s_S_cells s_T_rows s_T_cells s_E_rows s_E_cells sl pa m_undoable m_undoStart m_thrown m_inputLength m_position m_start m_token m_value m_letters m_code m_place m_outputLength m_s m_parsed m_tried m_remembered m_slots m_kept m_away m_input m_halfway m_output h
  have hX : RELX (t + 1) i_count i_cells m_inputLength m_input p_error m_code p_errorAt m_place o_count o_cells m_outputLength m_output s_time s_tolerance s_seed s_madeTickets s_cheesesOfText s_R_rows s_R_cells s_U_rows s_U_cells s_S_rows s_S_cells s_T_rows s_T_cells s_E_rows s_E_cells m_s sl m_slots m_kept nextPast pastCount pa m_undoable m_undoStart m_remembered := h
  obtain ⟨ht, hin, her, hou, hst, hsl, hun⟩ := hX
  have hst1 := hst.mono (tbt_le t) (mbt_le t)
  have hsl1 := hsl.mono (tbt_le t) (mbt_le t)
  have hun1 := hun.mono (tbt_le t) (mbt_le t)
  have htb := tbt_max (t + 1)
  have hmb := mbt_max (t + 1)
  have H := RELX.mk (show t ≤ 512 by omega) hin her hou hst1 hsl1 hun1
  obtain ⟨r, u, s, k, e, ⟨y0, y1, y2, y7, y9⟩, ⟨hR, hR2, hR3⟩, ⟨hU, hU2⟩, ⟨hS, hS2⟩, hT, hE, ⟨z1, z2, z3, z4, z5, z6⟩, hRI, hUI, hSI, hTI, hEI, hUZ⟩ := id hst
  obtain ⟨g3, g4, g5, g6, g8⟩ := ST_gs (tb := 0) (mb := 0) (tm := 0) (tol := 0) (seed := 0) (made := 0) (cot := 0) hR hU hS hT hE
  have hk24 := hT.2.1
  obtain ⟨t1, a1, a2⟩ := life_L hT 5000 0 0 0 (by decide) (by omega) (by omega)
  exact ⟨t1, (t1, 0), by simp only [f_X11_lifeErrors, f_X7_countLifeErrors, a1, ob_some], by simp only [f_X12_lifeErrors, a2, ob_some], rfl, H⟩
theorem hh42 (t : Nat) : H42 (REL (t + 1)) (REL t) := by
  intro nextPast pastCount i_count i_cells o_count o_cells p_start p_end p_kind p_value p_error p_errorAt p_d_time p_d_tolerance p_d_seed p_d_madeTickets p_d_cheesesOfText p_d_R_rows p_d_R_cells p_d_U_rows p_d_U_cells p_d_S_rows p_d_S_cells p_d_T_rows p_d_T_cells p_d_E_rows p_d_E_cells s_time s_tolerance s_seed s_madeTickets s_cheesesOfText s_R_rows s_R_cells s_U_rows s_U_cells s_S_rows s_S_cells s_T_rows s_T_cells s_E_rows s_E_cells sl pa m_undoable m_undoStart m_thrown m_inputLength m_position m_start m_token m_value m_letters m_code m_place m_outputLength m_s m_parsed m_tried m_remembered m_slots m_kept m_away m_input m_halfway m_output h
  have hX : RELX (t + 1) i_count i_cells m_inputLength m_input p_error m_code p_errorAt m_place o_count o_cells m_outputLength m_output s_time s_tolerance s_seed s_madeTickets s_cheesesOfText s_R_rows s_R_cells s_U_rows s_U_cells s_S_rows s_S_cells s_T_rows s_T_cells s_E_rows s_E_cells m_s sl m_slots m_kept nextPast pastCount pa m_undoable m_undoStart m_remembered := h
  obtain ⟨ht, hin, her, hou, hst, hsl, hun⟩ := hX
  have hst1 := hst.mono (tbt_le t) (mbt_le t)
  have hsl1 := hsl.mono (tbt_le t) (mbt_le t)
  have hun1 := hun.mono (tbt_le t) (mbt_le t)
  have htb := tbt_max (t + 1)
  have hmb := mbt_max (t + 1)
  have H := RELX.mk (show t ≤ 512 by omega) hin her hou hst1 hsl1 hun1
  intro v1 v2
  obtain ⟨r, u, s, k, e, ⟨y0, y1, y2, y7, y9⟩, ⟨hR, hR2, hR3⟩, ⟨hU, hU2⟩, ⟨hS, hS2⟩, hT, hE, ⟨z1, z2, z3, z4, z5, z6⟩, hRI, hUI, hSI, hTI, hEI, hUZ⟩ := id hst
  obtain ⟨g3, g4, g5, g6, g8⟩ := ST_gs (tb := 0) (mb := 0) (tm := 0) (tol := 0) (seed := 0) (made := 0) (cot := 0) hR hU hS hT hE
  have ea : m_s 4 = s_U_rows := hU.2.2.1
  by_cases qa : v1 < 0 ∨ s_U_rows ≤ v1
  case pos =>
    refine ⟨(1, 0), (0, 1), ?_, Or.inr rfl, ?_, rfl, (fun z => nomatch z), H⟩
    · simp only [f_X11_bestTicket, checkUser_out qa, ob_some, k10, if_false]
    · simp only [f_X12_bestTicket, noUser_out g4 (by rw [ea]; exact qa), ob_some, i10, if_false]
  have na : ¬ v1 < 0 := fun z => qa (Or.inl z)
  have ppa : ¬ s_U_rows ≤ v1 := fun z => qa (Or.inr z)
  obtain ⟨ia, la, ta⟩ := row_of hU.1 na ppa
  have ca : f_X11_checkUser s_U_rows v1 = some 0 := checkUser_in na ppa
  have ma : ∀ th, f_X12_noUser th m_s v1 = some (0, 0) := fun th => noUser_in g4 na (by rw [ea]; exact ppa)
  have eb : m_s 5 = s_S_rows := hS.2.2.1
  by_cases qb : v2 < 0 ∨ s_S_rows ≤ v2
  case pos =>
    refine ⟨(1, 0), (0, 1), ?_, Or.inr rfl, ?_, rfl, (fun z => nomatch z), H⟩
    · simp only [f_X11_bestTicket, ca, checkService_out qb, ob_some, k10, if_false, if_true]
    · simp only [f_X12_bestTicket, ma, noService_out g5 (by rw [eb]; exact qb), ob_some, i10, if_false, if_true]
  have nb : ¬ v2 < 0 := fun z => qb (Or.inl z)
  have ppb : ¬ s_S_rows ≤ v2 := fun z => qb (Or.inr z)
  obtain ⟨ib, lb, tb⟩ := row_of hS.1 nb ppb
  have cb : f_X11_checkService s_S_rows v2 = some 0 := checkService_in nb ppb
  have mb : ∀ th, f_X12_noService th m_s v2 = some (0, 0) := fun th => noService_in g5 nb (by rw [eb]; exact ppb)
  have hk24 := hT.2.1
  obtain ⟨oo, o1, o2, o3⟩ := best_L (v1 := v1) (v2 := v2) hT hTI y0 (by rw [tb]; omega) 5000 0 0 (-1) (by decide) (by omega) (by omega) (Or.inl rfl)
  by_cases ho : oo = -1
  case pos =>
    refine ⟨(0, -1), (-1, 0), ?_, Or.inl rfl, ?_, rfl, (fun _ => rfl), H⟩
    · simp only [f_X11_bestTicket, f_X7_longestAlive, ca, cb, o1, ob_some, if_pos ho, if_true]
    · simp only [f_X12_bestTicket, ma, mb, o2, ob_some, if_pos ho, if_true]
  obtain ⟨i, hi, hoi⟩ := o3.resolve_left ho
  refine ⟨(0, m_s (103 + 10 * i + 0)), (m_s (103 + 10 * i + 0), 0), ?_, Or.inl rfl, ?_, rfl, (fun _ => rfl), H⟩
  · simp only [f_X11_bestTicket, f_X7_longestAlive, ca, cb, o1, ob_some, if_neg ho, tG0 hT hoi hi, if_true]
  · simp only [f_X12_bestTicket, f_X12_ofTicket, ma, mb, o2, ob_some, if_neg ho, tM0 hoi (show i < 24 by omega), if_true]
