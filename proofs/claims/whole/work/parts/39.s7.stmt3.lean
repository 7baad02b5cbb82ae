/-! PURE: statements of the text: drop, sweep, pass, trust. -/
theorem kd_w {n a b : Nat} {mi : Nat → Int32} {st kd va tk mv lt : Int32} (h : TOK n mi a b st kd va tk mv lt) : kd = 1 ↔ tk = 3 := kd1 h
theorem drop_st {n a b : Nat} {tm tol seed made cot Rr : Int32} {R : Nat → Int32} {Ur : Int32} {U : Nat → Int32} {Vr : Int32} {V : Nat → Int32} {Tr : Int32} {T : Nat → Int32} {Er : Int32} {E : Nat → Int32} {g : Nat → Int32} {ic ml st en kd va tk mv lt : Int32} {ib mi : Nat → Int32} (h : INPn n ic ib ml mi) (hP : PST n mi a b st en kd va tk mv lt) (hk : ¬ kd = 0) (ea : Int32) (hST : ST (999 * a) a tm tol seed made cot Rr R Ur U Vr V Tr T Er E g) : ∃ (a' b' : Nat) (st' en' kd' va' tk' mv' lt' er' ea' : Int32) (Tr' : Int32) (T' : Nat → Int32) (g' : Nat → Int32), f_X1_readDrop st en kd va 0 ea ic ib Tr T = some (st', en', kd', va', er', ea', Tr', T') ∧ f_X12_readDrop ml en st tk mv lt 0 ea g mi = some (en', st', tk', mv', lt', er', ea', g') ∧ PST n mi a' b' st' en' kd' va' tk' mv' lt' ∧ (er' = 0 → a < a' ∧ ST (999 * a') a' tm tol seed made cot Rr R Ur U Vr V Tr' T' Er E g') := by
  obtain ⟨r, u, s, k, e, ⟨y0, y1, y2, y7, y9⟩, ⟨hR, hR2, hR3⟩, ⟨hU, hU2⟩, ⟨hS, hS2⟩, hT, hE, ⟨z1, z2, z3, z4, z5, z6⟩, hRI, hUI, hSI, hTI, hEI, hUZ⟩ := id hST
  obtain ⟨g3, g4, g5, g6, g8⟩ := ST_gs (tb := 0) (mb := 0) (tm := 0) (tol := 0) (seed := 0) (made := 0) (cot := 0) hR hU hS hT hE
  have hab := kd_long hP.2.2 hk
  have hn6 := h.2.1
  have hbn := hP.2.2.2.1
  obtain ⟨a1, b1, st1, en1, kd1, va1, tk1, mv1, lt1, c1, m1, p1, l1, w1⟩ := next_same h hP 0
  have hb1 := w1 rfl
  obtain ⟨a2, b2, st2, en2, kd2, va2, tk2, mv2, lt2, er2, ea2, oc2, om2, c2, m2, p2, l2, w2⟩ := ticketHere_same h p1 hT hTI (show a < 100000000 by omega) 0 ea
  obtain ⟨a3, b3, st3, en3, kd3, va3, tk3, mv3, lt3, er3, ea3, c3, m3, p3, l3, w3⟩ := finish_same h p2 er2 ea2
  by_cases hz : er3 = 0
  · obtain ⟨xx, -⟩ := w3 hz
    have x2' := xx
    obtain ⟨x2, -, f2, i2, s2, t2⟩ := w2 x2'
    obtain ⟨Tr', T', g', hd1, hd2, hd0, -, -, hST'⟩ := drop_do hST t2 (by rw [g6]; omega)
    refine ⟨a3, b3, st3, en3, kd3, va3, tk3, mv3, lt3, er3, ea3, _, _, g', ?_, ?_, p3, fun _ => ⟨by omega, ST.mono hST' (by omega) (by omega)⟩⟩
    · simp only [f_X1_readDrop, ob_some, c1, c2, c3, if_pos hz, i10, if_false, hd1]
    · simp only [f_X12_readDrop, ob_some, m1, m2, m3, if_pos hz, f2, hd2, if_pos (le0 hd0)]
  · refine ⟨a3, b3, st3, en3, kd3, va3, tk3, mv3, lt3, er3, ea3, Tr, T, g, ?_, ?_, p3, fun z => absurd z hz⟩
    · simp only [f_X1_readDrop, ob_some, c1, c2, c3, if_neg hz, if_true]
    · simp only [f_X12_readDrop, ob_some, m1, m2, m3, if_neg hz]
theorem sweep_st {n a b : Nat} {tm tol seed made cot Rr : Int32} {R : Nat → Int32} {Ur : Int32} {U : Nat → Int32} {Vr : Int32} {V : Nat → Int32} {Tr : Int32} {T : Nat → Int32} {Er : Int32} {E : Nat → Int32} {g : Nat → Int32} {ic ml st en kd va tk mv lt : Int32} {ib mi : Nat → Int32} (h : INPn n ic ib ml mi) (hP : PST n mi a b st en kd va tk mv lt) (hk : ¬ kd = 0) (ea : Int32) (hST : ST (999 * a) a tm tol seed made cot Rr R Ur U Vr V Tr T Er E g) : ∃ (a' b' : Nat) (st' en' kd' va' tk' mv' lt' er' ea' : Int32) (Tr' : Int32) (T' : Nat → Int32) (g' : Nat → Int32), f_X1_readSweep st en kd va 0 ea ic ib tm Tr T = some (st', en', kd', va', er', ea', Tr', T') ∧ f_X12_readSweep ml en st tk mv lt 0 ea g mi = some (en', st', tk', mv', lt', er', ea', g') ∧ PST n mi a' b' st' en' kd' va' tk' mv' lt' ∧ (er' = 0 → a < a' ∧ ST (999 * a') a' tm tol seed made cot Rr R Ur U Vr V Tr' T' Er E g') := by
  obtain ⟨r, u, s, k, e, ⟨y0, y1, y2, y7, y9⟩, ⟨hR, hR2, hR3⟩, ⟨hU, hU2⟩, ⟨hS, hS2⟩, hT, hE, ⟨z1, z2, z3, z4, z5, z6⟩, hRI, hUI, hSI, hTI, hEI, hUZ⟩ := id hST
  obtain ⟨g3, g4, g5, g6, g8⟩ := ST_gs (tb := 0) (mb := 0) (tm := 0) (tol := 0) (seed := 0) (made := 0) (cot := 0) hR hU hS hT hE
  have hab := kd_long hP.2.2 hk
  have hn6 := h.2.1
  have hbn := hP.2.2.2.1
  obtain ⟨a1, b1, st1, en1, kd1, va1, tk1, mv1, lt1, c1, m1, p1, l1, w1⟩ := next_same h hP 0
  have hb1 := w1 rfl
  obtain ⟨a2, b2, st2, en2, kd2, va2, tk2, mv2, lt2, er2, ea2, c2, m2, p2, l2, w2⟩ := finish_same h p1 0 ea
  by_cases hz : er2 = 0
  · obtain ⟨xx, -⟩ := w2 hz
    obtain ⟨nu, Tr', T', g', hd1, hd2, hd0, hST'⟩ := sweep_do hST
    refine ⟨a2, b2, st2, en2, kd2, va2, tk2, mv2, lt2, er2, ea2, _, _, g', ?_, ?_, p2, fun _ => ⟨by omega, ST.mono hST' (by omega) (by omega)⟩⟩
    · simp only [f_X1_readSweep, ob_some, c1, c2, if_pos hz, i10, if_false, hd1]
    · simp only [f_X12_readSweep, ob_some, m1, m2, if_pos hz, hd2, if_pos (le0 hd0)]
  · refine ⟨a2, b2, st2, en2, kd2, va2, tk2, mv2, lt2, er2, ea2, Tr, T, g, ?_, ?_, p2, fun z => absurd z hz⟩
    · simp only [f_X1_readSweep, ob_some, c1, c2, if_neg hz, if_true]
    · simp only [f_X12_readSweep, ob_some, m1, m2, if_neg hz]
theorem pass_st {n a b : Nat} {tm tol seed made cot Rr : Int32} {R : Nat → Int32} {Ur : Int32} {U : Nat → Int32} {Vr : Int32} {V : Nat → Int32} {Tr : Int32} {T : Nat → Int32} {Er : Int32} {E : Nat → Int32} {g : Nat → Int32} {ic ml st en kd va tk mv lt : Int32} {ib mi : Nat → Int32} (h : INPn n ic ib ml mi) (hP : PST n mi a b st en kd va tk mv lt) (hk : ¬ kd = 0) (ea : Int32) (hST : ST (999 * a) a tm tol seed made cot Rr R Ur U Vr V Tr T Er E g) : ∃ (a' b' : Nat) (st' en' kd' va' tk' mv' lt' er' ea' : Int32) (tm' Er' : Int32) (E' : Nat → Int32) (g' : Nat → Int32), f_X1_readPass st en kd va 0 ea ic ib tm tol Er E = some (st', en', kd', va', er', ea', tm', Er', E') ∧ f_X12_readPass ml en st tk mv lt 0 ea g mi = some (en', st', tk', mv', lt', er', ea', g') ∧ PST n mi a' b' st' en' kd' va' tk' mv' lt' ∧ (er' = 0 → a < a' ∧ ST (999 * a') a' tm' tol seed made cot Rr R Ur U Vr V Tr T Er' E' g') := by
  obtain ⟨r, u, s, k, e, ⟨y0, y1, y2, y7, y9⟩, ⟨hR, hR2, hR3⟩, ⟨hU, hU2⟩, ⟨hS, hS2⟩, hT, hE, ⟨z1, z2, z3, z4, z5, z6⟩, hRI, hUI, hSI, hTI, hEI, hUZ⟩ := id hST
  obtain ⟨g3, g4, g5, g6, g8⟩ := ST_gs (tb := 0) (mb := 0) (tm := 0) (tol := 0) (seed := 0) (made := 0) (cot := 0) hR hU hS hT hE
  have hab := kd_long hP.2.2 hk
  have hn6 := h.2.1
  have hbn := hP.2.2.2.1
  obtain ⟨a1, b1, st1, en1, kd1, va1, tk1, mv1, lt1, c1, m1, p1, l1, w1⟩ := next_same h hP 0
  have hb1 := w1 rfl
  obtain ⟨a2, b2, st2, en2, kd2, va2, tk2, mv2, lt2, er2, ea2, v2, c2, m2, p2, l2, w2⟩ := number_same h p1 (lo := 0) (hi := 999) (l := 0) (u := 999) (by decide) (by decide) (by decide) 0 ea
  obtain ⟨a3, b3, st3, en3, kd3, va3, tk3, mv3, lt3, er3, ea3, c3, m3, p3, l3, w3⟩ := finish_same h p2 er2 ea2
  by_cases hz : er3 = 0
  · obtain ⟨xx, -⟩ := w3 hz
    have x2' := xx
    obtain ⟨x2, -, f2, s2, t2⟩ := w2 x2'
    obtain ⟨o3, o5, Er', E', g', -, hd1, -, hd2, hd0, hST'⟩ := pass_do hST (by omega) s2 t2
    refine ⟨a3, b3, st3, en3, kd3, va3, tk3, mv3, lt3, er3, ea3, _, _, _, g', ?_, ?_, p3, fun _ => ⟨by omega, ST.mono hST' (by omega) (by omega)⟩⟩
    · simp only [f_X1_readPass, ob_some, c1, c2, c3, if_pos hz, i10, if_false, hd1]
    · simp only [f_X12_readPass, ob_some, m1, m2, m3, if_pos hz, f2, hd2, if_pos (le0 hd0)]
  · refine ⟨a3, b3, st3, en3, kd3, va3, tk3, mv3, lt3, er3, ea3, tm, Er, E, g, ?_, ?_, p3, fun z => absurd z hz⟩
    · simp only [f_X1_readPass, ob_some, c1, c2, c3, if_neg hz, if_true]
    · simp only [f_X12_readPass, ob_some, m1, m2, m3, if_neg hz]
theorem trust_st {n a b : Nat} {tm tol seed made cot Rr : Int32} {R : Nat → Int32} {Ur : Int32} {U : Nat → Int32} {Vr : Int32} {V : Nat → Int32} {Tr : Int32} {T : Nat → Int32} {Er : Int32} {E : Nat → Int32} {g : Nat → Int32} {ic ml st en kd va tk mv lt : Int32} {ib mi : Nat → Int32} (h : INPn n ic ib ml mi) (hP : PST n mi a b st en kd va tk mv lt) (hk : ¬ kd = 0) (ea : Int32) (hST : ST (999 * a) a tm tol seed made cot Rr R Ur U Vr V Tr T Er E g) : ∃ (a' b' : Nat) (st' en' kd' va' tk' mv' lt' er' ea' : Int32) (R' g' : Nat → Int32), f_X1_readTrust st en kd va 0 ea ic ib Rr R = some (st', en', kd', va', er', ea', R') ∧ f_X12_readTrust ml en st tk mv lt 0 ea g mi = some (en', st', tk', mv', lt', er', ea', g') ∧ PST n mi a' b' st' en' kd' va' tk' mv' lt' ∧ (er' = 0 → a < a' ∧ ST (999 * a') a' tm tol seed made cot Rr R' Ur U Vr V Tr T Er E g') := by
  obtain ⟨r, u, s, k, e, ⟨y0, y1, y2, y7, y9⟩, ⟨hR, hR2, hR3⟩, ⟨hU, hU2⟩, ⟨hS, hS2⟩, hT, hE, ⟨z1, z2, z3, z4, z5, z6⟩, hRI, hUI, hSI, hTI, hEI, hUZ⟩ := id hST
  obtain ⟨g3, g4, g5, g6, g8⟩ := ST_gs (tb := 0) (mb := 0) (tm := 0) (tol := 0) (seed := 0) (made := 0) (cot := 0) hR hU hS hT hE
  have hab := kd_long hP.2.2 hk
  have hr5 := hR.2.1
  obtain ⟨a1, b1, st1, en1, kd1, va1, tk1, mv1, lt1, c1, m1, p1, l1, w1⟩ := next_same h hP 0
  have hb1 := w1 rfl
  obtain ⟨a2, b2, st2, en2, kd2, va2, tk2, mv2, lt2, er2, ea2, oc2, om2, c2, m2, p2, l2, w2⟩ := realmHere_same h p1 hR hR2 0 ea
  have hT2 := p2.2.2
  have hj : (if kd2 = 1 then (1 : Int32) else 0) = (if tk2 = 3 then 1 else 0) := by
    by_cases hk : kd2 = 1
    · rw [if_pos hk, if_pos ((kd_w hT2).mp hk)]
    · rw [if_neg hk, if_neg (fun z => hk ((kd_w hT2).mpr z))]
  obtain ⟨o3, ho3⟩ := realmNamed_c (c := va2) hR
  have hq1 : (RQ st2 er2 ea2 (if kd2 = 1 then 1 else 0) 1).1 = 0 → er2 = 0 ∧ kd2 = 1 := fun z => by
    obtain ⟨z1, z2⟩ := RQ_ok (by decide) z
    exact ⟨z1, Classical.byContradiction fun hn => z2 (if_neg hn)⟩
  have hnm : ∃ nm on, (if (RQ st2 er2 ea2 (if kd2 = 1 then 1 else 0) 1).1 = 0 then (f_X12_nameFrom mi st2 lt2).bind fun o3 => some (o3, RQ st2 er2 ea2 (if kd2 = 1 then 1 else 0) 1) else some (0, RQ st2 er2 ea2 (if kd2 = 1 then 1 else 0) 1)) = some (nm, RQ st2 er2 ea2 (if kd2 = 1 then 1 else 0) 1) ∧ f_X12_realmNamed g nm = some on ∧ ((RQ st2 er2 ea2 (if kd2 = 1 then 1 else 0) 1).1 = 0 → on = o3 ∧ (o3 = -1 ∨ ∃ i : Nat, i < r ∧ o3.toInt = (i : Int))) := by
    by_cases hz : (RQ st2 er2 ea2 (if kd2 = 1 then 1 else 0) 1).1 = 0
    · obtain ⟨z1, z2⟩ := hq1 hz
      subst z2
      obtain ⟨-, -, -, m, hm1, hm2⟩ := kd1_at hT2
      obtain ⟨o, e1, e2, e3⟩ := realmNamed_same hR hR2 hm2
      rw [ho3] at e1
      cases e1
      refine ⟨m, o3, by rw [if_pos hz, hm1]; rfl, e2, fun _ => ⟨rfl, e3.imp id (fun ⟨i, x1, x2, _⟩ => ⟨i, x1, x2⟩)⟩⟩
    · obtain ⟨on, hon⟩ := realmNamed_m (m := 0) hR
      exact ⟨0, on, if_neg hz, hon, fun z => absurd z hz⟩
  obtain ⟨nm, on, n1, n2, n3⟩ := hnm
  generalize hqq : RQ st2 er2 ea2 (if kd2 = 1 then 1 else 0) 1 = q1 at *
  have hs2 : RQ st2 q1.1 q1.2 (if o3 = oc2 then 0 else 1) 3 = RQ st2 q1.1 q1.2 (if q1.1 = 0 then (if on = om2 then 0 else 1) else 1) 3 := RQ_eq (fun z => by
    rw [if_pos z, (n3 z).1, (w2 (hq1 z).1).2.2.1])
  have ok2 : (RQ st2 q1.1 q1.2 (if o3 = oc2 then 0 else 1) 3).1 = 0 → q1.1 = 0 := fun z => (RQ_ok (by decide) z).1
  generalize hq2 : RQ st2 q1.1 q1.2 (if o3 = oc2 then 0 else 1) 3 = q2 at hs2 ok2
  have hs3 : RQ st2 q2.1 q2.2 (if o3 = -1 then 0 else 1) 4 = RQ st2 q2.1 q2.2 (if q2.1 = 0 then (if on = -1 then 0 else 1) else 1) 4 := RQ_eq (fun z => by
    rw [if_pos z, (n3 (ok2 z)).1])
  have ok3 : (RQ st2 q2.1 q2.2 (if o3 = -1 then 0 else 1) 4).1 = 0 → er2 = 0 ∧ on = o3 ∧ ∃ i : Nat, i < r ∧ o3.toInt = (i : Int) := fun z => by
    obtain ⟨z1, z2⟩ := RQ_ok (by decide) z
    have z3 := ok2 z1
    obtain ⟨z4, z5⟩ := n3 z3
    exact ⟨(hq1 z3).1, z4, z5.resolve_left (fun e => z2 (if_pos e))⟩
  generalize hq3 : RQ st2 q2.1 q2.2 (if o3 = -1 then 0 else 1) 4 = q3 at hs3 ok3
  obtain ⟨a3, b3, st3, en3, kd3, va3, tk3, mv3, lt3, c3, m3, p3, l3, w3⟩ := next_same h p2 q3.1
  obtain ⟨tt, ht⟩ := hasTrust_tot Rr R oc2 o3
  have hr : ∃ rr, (if q3.1 = 0 then ((f_X12_trusted g om2 (if q3.1 = 0 then on else 0)).bind fun o9 => if o9 = 0 then some (0 : Int32) else some 1) else some 0) = some rr ∧ (q3.1 = 0 → ((if tt = 0 then (1 : Int32) else 0) = 0 ↔ ¬ rr = 0)) := by
    by_cases hz : q3.1 = 0
    · obtain ⟨y1, y2, j, y3, y4⟩ := ok3 hz
      obtain ⟨-, -, f2, i, s2, t2⟩ := w2 y1
      have k1 := hasTrust_c hR hR3 t2 s2 y4 (show j < 5 by omega)
      rw [ht] at k1
      have k2 := trusted_m (g := g) t2 (show i < 5 by omega) y4 (show j < 5 by omega)
      refine ⟨if tt = 0 then 0 else 1, ?_, fun _ => ?_⟩
      · rw [if_pos hz, if_pos hz, f2, y2, k2, ← k1, ob_some, if_some]
      · by_cases h0 : tt = 0
        · rw [if_pos h0, if_pos h0]; exact ⟨fun y => absurd y n10, fun y => absurd rfl y⟩
        · rw [if_neg h0, if_neg h0]; exact ⟨fun _ => n10, fun _ => rfl⟩
    · exact ⟨0, if_neg hz, fun z => absurd z hz⟩
  obtain ⟨rr, hr1, hr2⟩ := hr
  obtain ⟨a4, b4, st4, en4, kd4, va4, tk4, mv4, lt4, er4, ea4, c4, m4, mn4, p4, l4, w4⟩ := mayDo_same h p3 q3.1 q3.2 (if tt = 0 then 1 else 0) rr hr2
  have e1 : f_X12_nameHere st2 tk2 lt2 er2 ea2 mi = some (nm, q1) := by
    unfold f_X12_nameHere
    rw [if_some, ← hj, ob_some, check_m, hqq, ob_some]
    exact n1
  have e2 := exists_m hs3.symm m3
  by_cases hz : er4 = 0
  · obtain ⟨xx, -, xr, -⟩ := w4 hz
    obtain ⟨y1, y2, j, y3, y4⟩ := ok3 xx
    obtain ⟨-, -, f2, i, s2, t2⟩ := w2 y1
    obtain ⟨R', g', hd1, hd2, hST'⟩ := trust_do hST t2 (by rw [g3]; omega) y4 (by rw [g3]; omega)
    refine ⟨a4, b4, st4, en4, kd4, va4, tk4, mv4, lt4, er4, ea4, R', g', ?_, ?_, p4, fun _ => ⟨by omega, ST.mono hST' (by omega) (by omega)⟩⟩
    · simp only [f_X1_readTrust, ob_some, c1, c2, ho3, if_some, require_c, hqq, hq2, hq3, c3, ht, c4, if_pos hz, i10, if_false, hd1]
    · simp only [f_X12_readTrust, ob_some, m1, m2, e1, n2]
      rw [show (if q1.1 = 0 then (if on = om2 then some (0 : Int32) else some 1) else some 1) = some (if q1.1 = 0 then (if on = om2 then 0 else 1) else 1) by rw [if_some, if_some]]
      simp only [ob_some, check_m, ← hs2, e2]
      rw [hr1]
      simp only [ob_some, m4, mn4, if_pos hz, i10, if_false, if_pos xx, f2, y2, hd2]
  · refine ⟨a4, b4, st4, en4, kd4, va4, tk4, mv4, lt4, er4, ea4, R, g, ?_, ?_, p4, fun z => absurd z hz⟩
    · simp only [f_X1_readTrust, ob_some, c1, c2, ho3, if_some, require_c, hqq, hq2, hq3, c3, ht, c4, if_neg hz, if_true]
    · simp only [f_X12_readTrust, ob_some, m1, m2, e1, n2]
      rw [show (if q1.1 = 0 then (if on = om2 then some (0 : Int32) else some 1) else some 1) = some (if q1.1 = 0 then (if on = om2 then 0 else 1) else 1) by rw [if_some, if_some]]
      simp only [ob_some, check_m, ← hs2, e2]
      rw [hr1]
      simp only [ob_some, m4, mn4, if_neg hz, if_true]
