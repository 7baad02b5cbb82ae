/-! PURE: what is asked of answers that are no whole numbers. -/
theorem share_dec : ∀ b, b < 25 → b ≠ 0 → ∀ a, a < 25 → (FP.fdiv (FP.i2f (Int32.ofNat a)) (FP.i2f (Int32.ofNat b)) &&& 0x7fffffff ≤ 0x7f800000) ∧ (FP.f2d (FP.fdiv (FP.i2f (Int32.ofNat a)) (FP.i2f (Int32.ofNat b))) &&& 0x7fffffffffffffff ≤ 0x7ff0000000000000) ∧ Op.cmpValue (FP.dcmp (FP.f2d (FP.fdiv (FP.i2f (Int32.ofNat a)) (FP.i2f (Int32.ofNat b)))) (FP.f2d (FP.fdiv (FP.i2f (Int32.ofNat a)) (FP.i2f (Int32.ofNat b))))) .l = 0 := by decide +kernel
theorem zero_dec : (FP.f2d FP.fconst0 &&& 0x7fffffffffffffff ≤ 0x7ff0000000000000) ∧ Op.cmpValue (FP.dcmp (FP.f2d FP.fconst0) (FP.f2d FP.fconst0)) .l = 0 ∧ Op.cmpValue (FP.dcmp FP.dconst0 FP.dconst0) .l = 0 := by decide +kernel
/-- the bits of a number that is none of the nans -/
def GB (n : Nat) : Prop := n < 2 ^ 64 ∧ n % 2 ^ 63 ≤ 2047 * 2 ^ 52
def GD (d : FP.Core.Datum) : Prop := match d with
  | .nan => False
  | .inf _ => True
  | .fin _ c q => c < 2 ^ 53 ∧ q ≤ FP.Core.b64.qmax
theorem qmax64 : FP.Core.b64.qmax = 971 := by decide
theorem qmin64 : FP.Core.b64.qmin = -1074 := by decide
theorem GB_encode {d : FP.Core.Datum} (h : GD d) : GB (FP.Core.encode FP.Core.b64 d) := by
  have t : FP.Core.b64.tails = 2 ^ 52 := by decide
  have e : FP.Core.b64.exps = 2048 := by decide
  match d, h with
  | .inf s, _ =>
    show GB (FP.Core.assemble FP.Core.b64 s (FP.Core.b64.exps - 1) 0)
    unfold FP.Core.assemble GB
    rw [t, e]
    cases s <;> decide
  | .fin s c q, h =>
    obtain ⟨h1, h2⟩ := h
    rw [qmax64] at h2
    show GB (if c < FP.Core.b64.tails then FP.Core.assemble FP.Core.b64 s 0 c else FP.Core.assemble FP.Core.b64 s ((q - FP.Core.b64.qmin).toNat + 1) (c - FP.Core.b64.tails))
    rw [t, qmin64]
    have hs : s.toNat = 0 ∨ s.toNat = 1 := by cases s <;> decide
    by_cases hc : c < 2 ^ 52
    · rw [if_pos hc]
      unfold FP.Core.assemble GB
      rw [t, e]
      rcases hs with hs | hs
      · rw [hs]; omega
      · rw [hs]; omega
    · rw [if_neg hc]
      have hq : (q - -1074).toNat + 1 ≤ 2046 := by omega
      generalize (q - -1074).toNat + 1 = z at hq
      unfold FP.Core.assemble GB
      rw [t, e]
      rcases hs with hs | hs
      · rw [hs]; omega
      · rw [hs]; omega
theorem decode_ne {n : Nat} (h : GB n) : FP.Core.decode FP.Core.b64 n ≠ .nan := by
  have t : FP.Core.b64.tails = 2 ^ 52 := by decide
  have e : FP.Core.b64.exps = 2048 := by decide
  unfold FP.Core.decode FP.Core.fieldE FP.Core.fieldT
  rw [t, e]
  obtain ⟨h1, h2⟩ := h
  by_cases c1 : n / 2 ^ 52 % 2048 = 2048 - 1
  · rw [if_pos c1, if_pos (by omega)]
    exact fun z => nomatch z
  · rw [if_neg c1]
    by_cases c2 : n / 2 ^ 52 % 2048 = 0
    · rw [if_pos c2]
      exact fun z => nomatch z
    · rw [if_neg c2]
      exact fun z => nomatch z
theorem GD_ratio (s : Bool) (a b : Nat) (e : Int) : GD (FP.Core.roundRatio FP.Core.b64 s a b e) := by
  have t : FP.Core.b64.tails = 2 ^ 52 := by decide
  have p : FP.Core.b64.p = 53 := by decide
  unfold FP.Core.roundRatio
  by_cases h : a = 0
  · rw [if_pos h]
    show 0 < 2 ^ 53 ∧ FP.Core.b64.qmin ≤ FP.Core.b64.qmax
    decide
  · rw [if_neg h]
    unfold FP.Core.roundAt FP.Core.settle FP.Core.bound
    rw [p, t]
    generalize FP.Core.nearest _ _ = c
    generalize FP.Core.quantum _ _ _ _ = q
    by_cases h1 : c < 2 ^ 53
    · rw [if_pos h1]
      by_cases h2 : q ≤ FP.Core.b64.qmax
      · rw [if_pos h2]; exact ⟨h1, h2⟩
      · rw [if_neg h2]; exact trivial
    · rw [if_neg h1]
      by_cases h2 : q + 1 ≤ FP.Core.b64.qmax
      · rw [if_pos h2]; exact ⟨by decide, h2⟩
      · rw [if_neg h2]; exact trivial
theorem toNat64 {n : Nat} (h : n < 2 ^ 64) : (UInt64.ofNat n).toNat = n := UInt64.toNat_ofNat_of_lt' h
theorem i2d_GB (x : Int32) : GB (FP.i2d x).toNat := by
  have h : GB (FP.Core.encode FP.Core.b64 (FP.Core.round FP.Core.b64 (FP.Core.ofInt x.toInt))) := GB_encode (GD_ratio _ _ _ _)
  show GB (UInt64.ofNat (FP.Core.encode FP.Core.b64 (FP.Core.round FP.Core.b64 (FP.Core.ofInt x.toInt)))).toNat
  rw [toNat64 h.1]
  exact h
def finNZ (d : FP.Core.Datum) : Bool := match d with
  | .fin _ c _ => decide (c ≠ 0)
  | _ => false
theorem small_dec : ∀ b, b < 25 → b ≠ 0 → finNZ (FP.Core.decode FP.Core.b64 (FP.i2d (Int32.ofNat b)).toNat) = true := by decide +kernel
theorem GD_quot {d e : FP.Core.Datum} (hd : d ≠ .nan) (he : finNZ e = true) : GD (FP.Core.quotient FP.Core.b64 d e) := by
  match e, he with
  | .fin t c r, he =>
    have hc : c ≠ 0 := of_decide_eq_true he
    match d, hd with
    | .nan, hd => exact absurd rfl hd
    | .inf s, _ => exact trivial
    | .fin s a q, _ =>
      show GD (if c = 0 then (if a = 0 then .nan else .inf (s != t)) else FP.Core.roundRatio FP.Core.b64 (s != t) a c (q - r))
      rw [if_neg hc]
      exact GD_ratio _ _ _ _
theorem order_refl {d : FP.Core.Datum} (h : d ≠ .nan) : FP.Core.order d d = some .eq := by
  match d, h with
  | .nan, h => exact absurd rfl h
  | .inf s, _ => cases s <;> decide
  | .fin s c q, _ =>
    show some (compare (FP.Core.signed s (FP.Core.inUnits c q (min q q))) (FP.Core.signed s (FP.Core.inUnits c q (min q q)))) = some .eq
    generalize FP.Core.signed s (FP.Core.inUnits c q (min q q)) = v
    show some (compareOfLessAndEq v v) = some .eq
    unfold compareOfLessAndEq
    rw [if_neg (Int.lt_irrefl v), if_pos rfl]
theorem ddiv_ok {x : Int32} {b : Nat} (hb : b < 25) (h0 : b ≠ 0) : ∃ z, ddq (FP.i2d x) (FP.i2d (Int32.ofNat b)) = some z ∧ Op.cmpValue (FP.dcmp z z) .l = 0 := by
  have hG : GB (FP.Core.encode FP.Core.b64 (FP.Core.quotient FP.Core.b64 (FP.Core.decode FP.Core.b64 (FP.i2d x).toNat) (FP.Core.decode FP.Core.b64 (FP.i2d (Int32.ofNat b)).toNat))) := GB_encode (GD_quot (decode_ne (i2d_GB x)) (small_dec b hb h0))
  have hz : (FP.ddiv (FP.i2d x) (FP.i2d (Int32.ofNat b))).toNat = FP.Core.encode FP.Core.b64 (FP.Core.quotient FP.Core.b64 (FP.Core.decode FP.Core.b64 (FP.i2d x).toNat) (FP.Core.decode FP.Core.b64 (FP.i2d (Int32.ofNat b)).toNat)) := toNat64 hG.1
  have hG2 : GB (FP.ddiv (FP.i2d x) (FP.i2d (Int32.ofNat b))).toNat := by rw [hz]; exact hG
  refine ⟨FP.ddiv (FP.i2d x) (FP.i2d (Int32.ofNat b)), ?_, ?_⟩
  · unfold ddq
    rw [if_pos]
    rw [UInt64.le_iff_toNat_le, UInt64.toNat_and]
    have e1 : (0x7fffffffffffffff : UInt64).toNat = 2 ^ 63 - 1 := by decide
    have e2 : (0x7ff0000000000000 : UInt64).toNat = 2047 * 2 ^ 52 := by decide
    rw [e1, e2, Nat.and_two_pow_sub_one_eq_mod]
    exact hG2.2
  · show Op.cmpValue (FP.Core.order (FP.Core.decode FP.Core.b64 (FP.ddiv (FP.i2d x) (FP.i2d (Int32.ofNat b))).toNat) (FP.Core.decode FP.Core.b64 (FP.ddiv (FP.i2d x) (FP.i2d (Int32.ofNat b))).toNat)) .l = 0
    rw [order_refl (decode_ne hG2)]
    rfl
theorem hh47 (t : Nat) : H47 (REL (t + 1)) (REL t) := by
  intro nextPast pastCount i_count i_cells o_count o_cells p_start p_end p_kind p_value p_error p_errorAt p_d_time p_d_tolerance p_d_seed p_d_madeTickets p_d_cheesesOfText p_d_R_rows p_d_R_cells p_d_U_rows p_d_U_cells p_d_S_rows p_d_S_cells p_d_T_rows p_d_T_cells p_d_E_rows p_d_E_cells s_time s_tolerance s_seed s_madeTickets s_cheesesOfText s_R_rows s_R_cells s_U_rows s_U_cells s_S_rows s_S_cells s_T_rows s_T_cells s_E_rows s_E_cells sl pa m_undoable m_undoStart m_thrown m_inputLength m_position m_start m_token m_value m_letters m_code m_place m_outputLength m_s m_parsed m_tried m_remembered m_slots m_kept m_away m_input m_halfway m_output h
  have hX : RELX (t + 1) i_count i_cells m_inputLength m_input p_error m_code p_errorAt m_place o_count o_cells m_outputLength m_output s_time s_tolerance s_seed s_madeTickets s_cheesesOfText s_R_rows s_R_cells s_U_rows s_U_cells s_S_rows s_S_cells s_T_rows s_T_cells s_E_rows s_E_cells m_s sl m_slots m_kept nextPast pastCount pa m_undoable m_undoStart m_remembered := h
  obtain ⟨ht, hin, her, hou, hst, hsl, hun⟩ := hX
  have hst1 := hst.mono (tbt_le t) (mbt_le t)
  have hsl1 := hsl.mono (tbt_le t) (mbt_le t)
  have hun1 := hun.mono (tbt_le t) (mbt_le t)
  have htb := tbt_max (t + 1)
  have hmb := mbt_max (t + 1)
  have H := RELX.mk (show t ≤ 512 by omega) hin her hou hst1 hsl1 hun1
  obtain ⟨r, u, s, k, e, ⟨y0, y1, y2, y7, y9⟩, ⟨hR, hR2, hR3⟩, ⟨hU, hU2⟩, ⟨hS, hS2⟩, hT, hE, ⟨z1, z2, z3, z4, z5, z6⟩, hRI, hUI, hSI, hTI, hEI, hUZ⟩ := id hst
  obtain ⟨g3, g4, g5, g6, g8⟩ := ST_gs (tb := 0) (mb := 0) (tm := 0) (tol := 0) (seed := 0) (made := 0) (cot := 0) hR hU hS hT hE
  have hk24 := hT.2.1
  by_cases h0 : s_T_rows = 0
  · refine ⟨FP.fconst0, (FP.fconst0, 0), ?_, ?_, rfl, zero_dec.1, zero_dec.2.1, H⟩
    · simp only [f_X11_validShare, f_X6_size, ob_some, if_pos h0]
    · simp only [f_X12_validShare, zM6, hT.2.2.1, ob_some, if_pos h0]
  obtain ⟨b, b1, b2, b3⟩ := alive_same (tm := s_time) (g' := m_s) hT y0 rfl (fun j _ _ => rfl)
  have hk0 : k ≠ 0 := fun z => h0 (ti_eq (by rw [hT.1, z]; rfl))
  have hc := cnt_le (p := pal m_s s_time) k
  obtain ⟨d1, d2, d3⟩ := share_dec k (by omega) hk0 (cnt (pal m_s s_time) k) (by omega)
  rw [← ofNat_of b3, ← ofNat_of hT.1] at d1 d2 d3
  have hq : fdq (FP.i2f b) (FP.i2f s_T_rows) = some (FP.fdiv (FP.i2f b) (FP.i2f s_T_rows)) := if_pos d1
  refine ⟨FP.fdiv (FP.i2f b) (FP.i2f s_T_rows), (FP.fdiv (FP.i2f b) (FP.i2f s_T_rows), 0), ?_, ?_, rfl, d2, d3, H⟩
  · simp only [f_X11_validShare, f_X11_validTickets, f_X6_size, ob_some, if_neg h0, b1, hq]
  · simp only [f_X12_validShare, zM6, hT.2.2.1, ob_some, if_neg h0, b2, hq]
theorem hh48 (t : Nat) : H48 (REL (t + 1)) (REL t) := by
  intro nextPast pastCount i_count i_cells o_count o_cells p_start p_end p_kind p_value p_error p_errorAt p_d_time p_d_tolerance p_d_seed p_d_madeTickets p_d_cheesesOfText p_d_R_rows p_d_R_cells p_d_U_rows p_d_U_cells p_d_S_rows p_d_S_cells p_d_T_rows p_d_T_cells p_d_E_rows p_d_E_cells s_time s_tolerance s_seed s_madeTickets s_cheesesOfText s_R_rows s_R_cells s_U_rows s_U_cells s_S_rows s_S_cells s_T_rows s_T_cells s_E_rows s_E_cells sl pa m_undoable m_undoStart m_thrown m_inputLength m_position m_start m_token m_value m_letters m_code m_place m_outputLength m_s m_parsed m_tried m_remembered m_slots m_kept m_away m_input m_halfway m_output h
  have hX : RELX (t + 1) i_count i_cells m_inputLength m_input p_error m_code p_errorAt m_place o_count o_cells m_outputLength m_output s_time s_tolerance s_seed s_madeTickets s_cheesesOfText s_R_rows s_R_cells s_U_rows s_U_cells s_S_rows s_S_cells s_T_rows s_T_cells s_E_rows s_E_cells m_s sl m_slots m_kept nextPast pastCount pa m_undoable m_undoStart m_remembered := h
  obtain ⟨ht, hin, her, hou, hst, hsl, hun⟩ := hX
  have hst1 := hst.mono (tbt_le t) (mbt_le t)
  have hsl1 := hsl.mono (tbt_le t) (mbt_le t)
  have hun1 := hun.mono (tbt_le t) (mbt_le t)
  have htb := tbt_max (t + 1)
  have hmb := mbt_max (t + 1)
  have H := RELX.mk (show t ≤ 512 by omega) hin her hou hst1 hsl1 hun1
  obtain ⟨r, u, s, k, e, ⟨y0, y1, y2, y7, y9⟩, ⟨hR, hR2, hR3⟩, ⟨hU, hU2⟩, ⟨hS, hS2⟩, hT, hE, ⟨z1, z2, z3, z4, z5, z6⟩, hRI, hUI, hSI, hTI, hEI, hUZ⟩ := id hst
  obtain ⟨g3, g4, g5, g6, g8⟩ := ST_gs (tb := 0) (mb := 0) (tm := 0) (tol := 0) (seed := 0) (made := 0) (cot := 0) hR hU hS hT hE
  have hk24 := hT.2.1
  obtain ⟨t6, t5, a1, a2, a3⟩ := avg_L hT 5000 0 0 0 0 (by decide) (by omega) (by omega)
  rw [Int32.sub_self] at a3
  by_cases h0 : s_T_rows = 0
  · refine ⟨FP.dconst0, (FP.dconst0, 0), ?_, ?_, rfl, zero_dec.2.2, H⟩
    · simp only [f_X11_averageLife, f_X6_size, f_X6_sumOf, a1, a2, ob_some, if_pos h0]
    · simp only [f_X12_averageLife, a3, zM6, hT.2.2.1, ob_some, if_pos h0]
  have hk0 : k ≠ 0 := fun z => h0 (ti_eq (by rw [hT.1, z]; rfl))
  obtain ⟨z, q1, q2⟩ := ddiv_ok (x := t6 - t5) (b := k) (by omega) hk0
  rw [← ofNat_of hT.1] at q1
  refine ⟨z, (z, 0), ?_, ?_, rfl, q2, H⟩
  · simp only [f_X11_averageLife, f_X6_size, f_X6_sumOf, a1, a2, ob_some, if_neg h0, q1]
  · simp only [f_X12_averageLife, a3, zM6, hT.2.2.1, ob_some, if_neg h0, q1]
