/-! PURE: statements of the text: realms, users, services. -/
theorem isFull_v (tn : Nat) (lim rows : Int32) : f_X6_isFull tn lim rows = some (if rows < lim then 0 else 1) := by
  unfold f_X6_isFull
  rw [if_some]
theorem full_j {p : Prop} [Decidable p] : (if (if p then (0 : Int32) else 1) = 0 then (1 : Int32) else 0) = if p then 1 else 0 := by
  by_cases h : p
  · rw [if_pos h, if_pos h, if_pos rfl]
  · rw [if_neg h, if_neg h, if_neg n10]
theorem full_m {x l : Int32} : (if l ≤ x then (0 : Int32) else 1) = if x < l then 1 else 0 := by
  by_cases h : x < l
  · rw [if_pos h, if_neg (fun z => by rw [Int32.lt_iff_toInt_lt] at h; rw [Int32.le_iff_toInt_le] at z; omega)]
  · rw [if_neg h, if_pos (by rw [Int32.lt_iff_toInt_lt] at h; rw [Int32.le_iff_toInt_le]; omega)]
theorem realm_st {n a b : Nat} {tm tol seed made cot Rr : Int32} {R : Nat → Int32} {Ur : Int32} {U : Nat → Int32} {Vr : Int32} {V : Nat → Int32} {Tr : Int32} {T : Nat → Int32} {Er : Int32} {E : Nat → Int32} {g : Nat → Int32} {ic ml st en kd va tk mv lt : Int32} {ib mi : Nat → Int32} (h : INPn n ic ib ml mi) (hP : PST n mi a b st en kd va tk mv lt) (hk : ¬ kd = 0) (ea : Int32) (hST : ST (999 * a) a tm tol seed made cot Rr R Ur U Vr V Tr T Er E g) : ∃ (a' b' : Nat) (st' en' kd' va' tk' mv' lt' er' ea' : Int32) (Rr' : Int32) (R' g' : Nat → Int32), f_X1_readRealm st en kd va 0 ea ic ib Rr R Ur U Vr V = some (st', en', kd', va', er', ea', Rr', R') ∧ f_X12_readRealm ml en st tk mv lt 0 ea g mi = some (en', st', tk', mv', lt', er', ea', g') ∧ PST n mi a' b' st' en' kd' va' tk' mv' lt' ∧ (er' = 0 → a < a' ∧ ST (999 * a') a' tm tol seed made cot Rr' R' Ur U Vr V Tr T Er E g') := by
  obtain ⟨r, u, s, k, e, ⟨y0, y1, y2, y7, y9⟩, ⟨hR, hR2, hR3⟩, ⟨hU, hU2⟩, ⟨hS, hS2⟩, hT, hE, ⟨z1, z2, z3, z4, z5, z6⟩, hRI, hUI, hSI, hTI, hEI, hUZ⟩ := id hST
  obtain ⟨g3, g4, g5, g6, g8⟩ := ST_gs (tb := 0) (mb := 0) (tm := 0) (tol := 0) (seed := 0) (made := 0) (cot := 0) hR hU hS hT hE
  have hab := kd_long hP.2.2 hk
  have eg : g 3 = Rr := hR.2.2.1
  have hok : (RQ st 0 ea (if Rr < 5 then 1 else 0) 5).1 = 0 → Rr < 5 := fun z => by
    obtain ⟨-, z2⟩ := RQ_ok (by decide) z
    exact Classical.byContradiction fun hn => z2 (if_neg hn)
  generalize hq : RQ st 0 ea (if Rr < 5 then 1 else 0) 5 = q at hok
  obtain ⟨a1, b1, st1, en1, kd1, va1, tk1, mv1, lt1, c1, m1, p1, l1, w1⟩ := next_same h hP q.1
  obtain ⟨a2, b2, st2, en2, kd2, va2, tk2, mv2, lt2, er2, ea2, om2, c2, m2, p2, l2, w2⟩ := newName_same h p1 hR hR2 hU hU2 hS hS2 q.1 q.2
  obtain ⟨a3, b3, st3, en3, kd3, va3, tk3, mv3, lt3, er3, ea3, v3, c3, m3, p3, l3, w3⟩ := number_same h p2 (lo := 1) (hi := 999) (l := 1) (u := 999) (by decide) (by decide) (by decide) er2 ea2
  obtain ⟨a4, b4, st4, en4, kd4, va4, tk4, mv4, lt4, er4, ea4, v4, c4, m4, p4, l4, w4⟩ := number_same h p3 (lo := 0) (hi := 9999) (l := 0) (u := 9999) (by decide) (by decide) (by decide) er3 ea3
  obtain ⟨d5, sx5, ex5, kx5, vx5, rx5, ax5, cw5, a5, b5, vv5, vm5, st5, en5, kd5, va5, tk5, mv5, lt5, er5, ea5, c5, m5, p5, l5, w5⟩ := off_same h p4 er4 ea4
  obtain ⟨a6, b6, st6, en6, kd6, va6, tk6, mv6, lt6, er6, ea6, c6, m6, p6, l6, w6⟩ := finish_same h p5 er5 ea5
  by_cases hz : er6 = 0
  · obtain ⟨x6, -⟩ := w6 hz
    obtain ⟨x5, -, f5⟩ := w5 x6
    obtain ⟨x4, -, f4, s4, t4⟩ := w4 x5
    obtain ⟨x3, -, f3, s3, t3⟩ := w3 x4
    obtain ⟨x2, -, f2⟩ := w2 x3
    have hroom := hok x2
    have hb1 := w1 x2
    subst f3 f4 f5
    obtain ⟨Rr', R', g', hd1, hd2, hST'⟩ := realm_do (off := vm5) (ST.mono hST (show 999 * a ≤ 999 * a6 by omega) (show a ≤ a6 by omega)) (by rw [g3]; have := hR.1; rw [ti_lt hR.1 (b := 5) (by decide)] at hroom; omega) f2 ⟨s3, t3⟩ ⟨s4, t4⟩
    refine ⟨a6, b6, st6, en6, kd6, va6, tk6, mv6, lt6, er6, ea6, _, _, g', ?_, ?_, p6, fun _ => ⟨by omega, hST'⟩⟩
    · simp only [f_X1_readRealm, isFull_v, full_j, if_some, require_c, ob_some, hq, c1, c2, c3, c4, cw5, c5, c6, if_pos hz, i10, if_false, hd1]
    · simp only [f_X12_readRealm, zM3, eg, full_m, if_some, check_m, ob_some, hq, m1, m2, m3, m4, m5, m6, if_pos hz, f_X12_ofRealm]
      have e := congrArg (fun o : Option (Nat → Int32) => o.bind fun g17 => some (en6, st6, tk6, mv6, lt6, er6, ea6, g17)) hd2
      simp only [Option.bind_assoc, ob_some, eg] at e
      exact e
  · refine ⟨a6, b6, st6, en6, kd6, va6, tk6, mv6, lt6, er6, ea6, Rr, R, g, ?_, ?_, p6, fun z => absurd z hz⟩
    · simp only [f_X1_readRealm, isFull_v, full_j, if_some, require_c, ob_some, hq, c1, c2, c3, c4, cw5, c5, c6, if_neg hz, if_true]
    · simp only [f_X12_readRealm, zM3, eg, full_m, if_some, check_m, ob_some, hq, m1, m2, m3, m4, m5, m6, if_neg hz]
theorem user_st {n a b : Nat} {tm tol seed made cot Rr : Int32} {R : Nat → Int32} {Ur : Int32} {U : Nat → Int32} {Vr : Int32} {V : Nat → Int32} {Tr : Int32} {T : Nat → Int32} {Er : Int32} {E : Nat → Int32} {g : Nat → Int32} {ic ml st en kd va tk mv lt : Int32} {ib mi : Nat → Int32} (h : INPn n ic ib ml mi) (hP : PST n mi a b st en kd va tk mv lt) (hk : ¬ kd = 0) (ea : Int32) (hST : ST (999 * a) a tm tol seed made cot Rr R Ur U Vr V Tr T Er E g) : ∃ (a' b' : Nat) (st' en' kd' va' tk' mv' lt' er' ea' : Int32) (Ur' : Int32) (U' g' : Nat → Int32), f_X1_readUser st en kd va 0 ea ic ib Rr R Ur U Vr V = some (st', en', kd', va', er', ea', Ur', U') ∧ f_X12_readUser ml en st tk mv lt 0 ea g mi = some (en', st', tk', mv', lt', er', ea', g') ∧ PST n mi a' b' st' en' kd' va' tk' mv' lt' ∧ (er' = 0 → a < a' ∧ ST (999 * a') a' tm tol seed made cot Rr R Ur' U' Vr V Tr T Er E g') := by
  obtain ⟨r, u, s, k, e, ⟨y0, y1, y2, y7, y9⟩, ⟨hR, hR2, hR3⟩, ⟨hU, hU2⟩, ⟨hS, hS2⟩, hT, hE, ⟨z1, z2, z3, z4, z5, z6⟩, hRI, hUI, hSI, hTI, hEI, hUZ⟩ := id hST
  obtain ⟨g3, g4, g5, g6, g8⟩ := ST_gs (tb := 0) (mb := 0) (tm := 0) (tol := 0) (seed := 0) (made := 0) (cot := 0) hR hU hS hT hE
  have hab := kd_long hP.2.2 hk
  have eg : g 4 = Ur := hU.2.2.1
  have hok : (RQ st 0 ea (if Ur < 6 then 1 else 0) 5).1 = 0 → Ur < 6 := fun z => by
    obtain ⟨-, z2⟩ := RQ_ok (by decide) z
    exact Classical.byContradiction fun hn => z2 (if_neg hn)
  generalize hq : RQ st 0 ea (if Ur < 6 then 1 else 0) 5 = q at hok
  obtain ⟨a1, b1, st1, en1, kd1, va1, tk1, mv1, lt1, c1, m1, p1, l1, w1⟩ := next_same h hP q.1
  obtain ⟨a2, b2, st2, en2, kd2, va2, tk2, mv2, lt2, er2, ea2, om2, c2, m2, p2, l2, w2⟩ := newName_same h p1 hR hR2 hU hU2 hS hS2 q.1 q.2
  obtain ⟨a3, b3, st3, en3, kd3, va3, tk3, mv3, lt3, er3, ea3, oc3, om3, c3, m3, p3, l3, w3⟩ := realmHere_same h p2 hR hR2 er2 ea2
  obtain ⟨a4, b4, st4, en4, kd4, va4, tk4, mv4, lt4, er4, ea4, v4, c4, m4, p4, l4, w4⟩ := number_same h p3 (lo := 0) (hi := 9999) (l := 0) (u := 9999) (by decide) (by decide) (by decide) er3 ea3
  obtain ⟨d5, sx5, ex5, kx5, vx5, rx5, ax5, cw5, a5, b5, vv5, vm5, st5, en5, kd5, va5, tk5, mv5, lt5, er5, ea5, c5, m5, p5, l5, w5⟩ := off_same h p4 er4 ea4
  obtain ⟨a6, b6, st6, en6, kd6, va6, tk6, mv6, lt6, er6, ea6, c6, m6, p6, l6, w6⟩ := finish_same h p5 er5 ea5
  by_cases hz : er6 = 0
  · obtain ⟨x6, -⟩ := w6 hz
    obtain ⟨x5, -, f5⟩ := w5 x6
    obtain ⟨x4, -, f4, s4, t4⟩ := w4 x5
    obtain ⟨x3, -, f3, i3, s3, t3⟩ := w3 x4
    obtain ⟨x2, -, f2⟩ := w2 x3
    have hroom := hok x2
    have hb1 := w1 x2
    subst f3 f4 f5
    obtain ⟨Ur', U', g', hd1, hd2, hST'⟩ := user_do (off := vm5) (pw := v4) (ST.mono hST (show 999 * a ≤ 999 * a6 by omega) (show a ≤ a6 by omega)) (by rw [g4]; rw [ti_lt hU.1 (b := 6) (by decide)] at hroom; omega) f2 (by rw [t3]; omega) (by rw [t3, g3]; omega)
    refine ⟨a6, b6, st6, en6, kd6, va6, tk6, mv6, lt6, er6, ea6, _, _, g', ?_, ?_, p6, fun _ => ⟨by omega, hST'⟩⟩
    · simp only [f_X1_readUser, isFull_v, full_j, if_some, require_c, ob_some, hq, c1, c2, c3, c4, cw5, c5, c6, if_pos hz, i10, if_false, hd1]
    · simp only [f_X12_readUser, zM4, eg, full_m, if_some, check_m, ob_some, hq, m1, m2, m3, m4, m5, m6, if_pos hz, f_X12_ofUser]
      have e := congrArg (fun o : Option (Nat → Int32) => o.bind fun g17 => some (en6, st6, tk6, mv6, lt6, er6, ea6, g17)) hd2
      simp only [Option.bind_assoc, ob_some, eg] at e
      exact e
  · refine ⟨a6, b6, st6, en6, kd6, va6, tk6, mv6, lt6, er6, ea6, Ur, U, g, ?_, ?_, p6, fun z => absurd z hz⟩
    · simp only [f_X1_readUser, isFull_v, full_j, if_some, require_c, ob_some, hq, c1, c2, c3, c4, cw5, c5, c6, if_neg hz, if_true]
    · simp only [f_X12_readUser, zM4, eg, full_m, if_some, check_m, ob_some, hq, m1, m2, m3, m4, m5, m6, if_neg hz]
theorem service_st {n a b : Nat} {tm tol seed made cot Rr : Int32} {R : Nat → Int32} {Ur : Int32} {U : Nat → Int32} {Vr : Int32} {V : Nat → Int32} {Tr : Int32} {T : Nat → Int32} {Er : Int32} {E : Nat → Int32} {g : Nat → Int32} {ic ml st en kd va tk mv lt : Int32} {ib mi : Nat → Int32} (h : INPn n ic ib ml mi) (hP : PST n mi a b st en kd va tk mv lt) (hk : ¬ kd = 0) (ea : Int32) (hST : ST (999 * a) a tm tol seed made cot Rr R Ur U Vr V Tr T Er E g) : ∃ (a' b' : Nat) (st' en' kd' va' tk' mv' lt' er' ea' : Int32) (cot' : Int32) (Vr' : Int32) (V' g' : Nat → Int32), f_X1_readService st en kd va 0 ea ic ib cot Rr R Ur U Vr V = some (st', en', kd', va', er', ea', cot', Vr', V') ∧ f_X12_readService ml en st tk mv lt 0 ea g mi = some (en', st', tk', mv', lt', er', ea', g') ∧ PST n mi a' b' st' en' kd' va' tk' mv' lt' ∧ (er' = 0 → a < a' ∧ ST (999 * a') a' tm tol seed made cot' Rr R Ur U Vr' V' Tr T Er E g') := by
  obtain ⟨r, u, s, k, e, ⟨y0, y1, y2, y7, y9⟩, ⟨hR, hR2, hR3⟩, ⟨hU, hU2⟩, ⟨hS, hS2⟩, hT, hE, ⟨z1, z2, z3, z4, z5, z6⟩, hRI, hUI, hSI, hTI, hEI, hUZ⟩ := id hST
  obtain ⟨g3, g4, g5, g6, g8⟩ := ST_gs (tb := 0) (mb := 0) (tm := 0) (tol := 0) (seed := 0) (made := 0) (cot := 0) hR hU hS hT hE
  have hab := kd_long hP.2.2 hk
  have eg : g 5 = Vr := hS.2.2.1
  have hok : (RQ st 0 ea (if Vr < 6 then 1 else 0) 5).1 = 0 → Vr < 6 := fun z => by
    obtain ⟨-, z2⟩ := RQ_ok (by decide) z
    exact Classical.byContradiction fun hn => z2 (if_neg hn)
  generalize hq : RQ st 0 ea (if Vr < 6 then 1 else 0) 5 = q at hok
  obtain ⟨a1, b1, st1, en1, kd1, va1, tk1, mv1, lt1, c1, m1, p1, l1, w1⟩ := next_same h hP q.1
  obtain ⟨a2, b2, st2, en2, kd2, va2, tk2, mv2, lt2, er2, ea2, om2, c2, m2, p2, l2, w2⟩ := newName_same h p1 hR hR2 hU hU2 hS hS2 q.1 q.2
  obtain ⟨a3, b3, st3, en3, kd3, va3, tk3, mv3, lt3, er3, ea3, oc3, om3, c3, m3, p3, l3, w3⟩ := realmHere_same h p2 hR hR2 er2 ea2
  obtain ⟨a4, b4, st4, en4, kd4, va4, tk4, mv4, lt4, er4, ea4, v4, c4, m4, p4, l4, w4⟩ := number_same h p3 (lo := 0) (hi := 99) (l := 0) (u := 99) (by decide) (by decide) (by decide) er3 ea3
  obtain ⟨a5, b5, st5, en5, kd5, va5, tk5, mv5, lt5, er5, ea5, c5, m5, p5, l5, w5⟩ := finish_same h p4 er4 ea4
  by_cases hz : er5 = 0
  · obtain ⟨x5, -⟩ := w5 hz
    obtain ⟨x4, -, f4, s4, t4⟩ := w4 x5
    obtain ⟨x3, -, f3, i3, s3, t3⟩ := w3 x4
    obtain ⟨x2, -, f2⟩ := w2 x3
    have hroom := hok x2
    have hb1 := w1 x2
    subst f3 f4
    obtain ⟨Vr', V', g', hd1, hd2, hST'⟩ := service_do (ch := v4) (ST.mono hST (show 999 * a ≤ 999 * a5 by omega) (show a ≤ a5 by omega)) (by rw [g5]; rw [ti_lt hS.1 (b := 6) (by decide)] at hroom; omega) f2 (by rw [t3]; omega) (by rw [t3, g3]; omega)
    refine ⟨a5, b5, st5, en5, kd5, va5, tk5, mv5, lt5, er5, ea5, _, _, _, g', ?_, ?_, p5, fun _ => ⟨by omega, hST'⟩⟩
    · simp only [f_X1_readService, isFull_v, full_j, if_some, require_c, ob_some, hq, c1, c2, c3, c4, c5, if_pos hz, i10, if_false, hd1]
    · simp only [f_X12_readService, zM5, eg, full_m, if_some, check_m, ob_some, hq, m1, m2, m3, m4, m5, if_pos hz, f_X12_ofService]
      have e := congrArg (fun o : Option (Nat → Int32) => o.bind fun g17 => some (en5, st5, tk5, mv5, lt5, er5, ea5, g17)) hd2
      simp only [Option.bind_assoc, ob_some, eg] at e
      exact e
  · refine ⟨a5, b5, st5, en5, kd5, va5, tk5, mv5, lt5, er5, ea5, cot, Vr, V, g, ?_, ?_, p5, fun z => absurd z hz⟩
    · simp only [f_X1_readService, isFull_v, full_j, if_some, require_c, ob_some, hq, c1, c2, c3, c4, c5, if_neg hz, if_true]
    · simp only [f_X12_readService, zM5, eg, full_m, if_some, check_m, ob_some, hq, m1, m2, m3, m4, m5, if_neg hz]
