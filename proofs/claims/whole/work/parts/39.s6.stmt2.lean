/-! PURE: statements of the text: what users do. -/
theorem le0 {x : Int32} (h : 0 ≤ x.toInt) : (0 : Int32) ≤ x := by
  rw [ti_le ti_zero rfl]
  exact h
/-- the word renewable, read perhaps -/
theorem ren_same {n a b : Nat} {ic ml st en kd va tk mv lt er : Int32} {ib mi : Nat → Int32} (h : INPn n ic ib ml mi) (hP : PST n mi a b st en kd va tk mv lt) : ∃ (a' b' : Nat) (st' en' kd' va' tk' mv' lt' c rn : Int32), f_X1_isWord st en kd ic ib 9 = some c ∧ (if c = 0 then some (st, en, kd, va) else ((f_X1_take st en kd va er ic ib).bind fun o6 => some (o6.2.1, o6.2.2.1, o6.2.2.2.1, o6.2.2.2.2))) = some (st', en', kd', va') ∧ (if er = 0 then ((f_X12_is st tk lt mi 9).bind fun o5 => if o5 = 0 then some (0 : Int32) else some 1) else some 0) = some rn ∧ (if rn = 0 then some (en, st, tk, mv, lt) else ((f_X12_next ml en st tk mv lt er mi).bind fun o7 => some (o7.1, o7.2.1, o7.2.2.1, o7.2.2.2.1, o7.2.2.2.2))) = some (en', st', tk', mv', lt') ∧ PST n mi a' b' st' en' kd' va' tk' mv' lt' ∧ a ≤ a' ∧ (er = 0 → rn = c) ∧ (c = 0 ∨ c = 1) := by
  obtain ⟨c, f1, f2, f3, -⟩ := is_same (w := 9) h hP (by decide)
  by_cases he : er = 0
  · rcases f3 with rfl | rfl
    · refine ⟨a, b, st, en, kd, va, tk, mv, lt, 0, 0, f1, if_pos rfl, ?_, if_pos rfl, hP, Nat.le_refl a, fun _ => rfl, Or.inl rfl⟩
      rw [if_pos he, f2, ob_some, if_pos rfl]
    · obtain ⟨a1, b1, st1, en1, kd1, va1, tk1, mv1, lt1, h1, h2, h3, h4, h5⟩ := next_same h hP er
      refine ⟨a1, b1, st1, en1, kd1, va1, tk1, mv1, lt1, 1, 1, f1, ?_, ?_, ?_, h3, h4, fun _ => rfl, Or.inr rfl⟩
      · rw [if_neg n10, h1, ob_some]
      · rw [if_pos he, f2, ob_some, if_neg n10]
      · rw [if_neg n10, h2, ob_some]
  · refine ⟨a, b, st, en, kd, va, tk, mv, lt, c, 0, f1, ?_, if_neg he, if_pos rfl, hP, Nat.le_refl a, fun z => absurd z he, f3⟩
    by_cases hc : c = 0
    · rw [if_pos hc]
    · rw [if_neg hc]
      unfold f_X1_take
      rw [if_neg he, ob_some]
theorem login_st {n a b : Nat} {tm tol seed made cot Rr : Int32} {R : Nat → Int32} {Ur : Int32} {U : Nat → Int32} {Vr : Int32} {V : Nat → Int32} {Tr : Int32} {T : Nat → Int32} {Er : Int32} {E : Nat → Int32} {g : Nat → Int32} {ic ml st en kd va tk mv lt : Int32} {ib mi : Nat → Int32} (h : INPn n ic ib ml mi) (hP : PST n mi a b st en kd va tk mv lt) (hk : ¬ kd = 0) (ea : Int32) (hST : ST (999 * a) a tm tol seed made cot Rr R Ur U Vr V Tr T Er E g) : ∃ (a' b' : Nat) (st' en' kd' va' tk' mv' lt' er' ea' : Int32) (seed' made' Tr' : Int32) (T' : Nat → Int32) (g' : Nat → Int32), f_X1_readLogin st en kd va 0 ea ic ib tm tol seed made Rr R Ur U Tr T = some (st', en', kd', va', er', ea', seed', made', Tr', T') ∧ f_X12_readLogin ml en st tk mv lt 0 ea g mi = some (en', st', tk', mv', lt', er', ea', g') ∧ PST n mi a' b' st' en' kd' va' tk' mv' lt' ∧ (er' = 0 → a < a' ∧ ST (999 * a') a' tm tol seed' made' cot Rr R Ur U Vr V Tr' T' Er E g') := by
  obtain ⟨r, u, s, k, e, ⟨y0, y1, y2, y7, y9⟩, ⟨hR, hR2, hR3⟩, ⟨hU, hU2⟩, ⟨hS, hS2⟩, hT, hE, ⟨z1, z2, z3, z4, z5, z6⟩, hRI, hUI, hSI, hTI, hEI, hUZ⟩ := id hST
  obtain ⟨g3, g4, g5, g6, g8⟩ := ST_gs (tb := 0) (mb := 0) (tm := 0) (tol := 0) (seed := 0) (made := 0) (cot := 0) hR hU hS hT hE
  have hab := kd_long hP.2.2 hk
  have hn6 := h.2.1
  have hbn := hP.2.2.2.1
  obtain ⟨a1, b1, st1, en1, kd1, va1, tk1, mv1, lt1, c1, m1, p1, l1, w1⟩ := next_same h hP 0
  have hb1 := w1 rfl
  obtain ⟨a2, b2, st2, en2, kd2, va2, tk2, mv2, lt2, er2, ea2, oc2, om2, c2, m2, p2, l2, w2⟩ := userHere_same h p1 hU hU2 0 ea
  obtain ⟨a3, b3, st3, en3, kd3, va3, tk3, mv3, lt3, er3, ea3, v3, c3, m3, p3, l3, w3⟩ := number_same h p2 (lo := 0) (hi := 9999) (l := 0) (u := 9999) (by decide) (by decide) (by decide) er2 ea2
  obtain ⟨a4, b4, st4, en4, kd4, va4, tk4, mv4, lt4, cc, rn, cr, c4, mr, m4, p4, l4, wr4, wc4⟩ := ren_same (er := er3) h p3
  obtain ⟨q, hq⟩ := whyNoLogin_tot tol Rr R Ur U Tr oc2 va2
  have hr : ∃ rr, (if er3 = 0 then ((f_X12_whyNotLogin g om2 v3).bind fun o9 => if o9 = 0 then some (0 : Int32) else some 1) else some 0) = some rr ∧ (er3 = 0 → ((if q = 0 then (1 : Int32) else 0) = 0 ↔ ¬ rr = 0) ∧ (rr = 0 → f_X12_whyNotLogin g om2 v3 = some 0)) := by
    by_cases hz : er3 = 0
    · have x3' := hz
      obtain ⟨x3, -, f3, s3, t3⟩ := w3 x3'
      have x2' := x3
      obtain ⟨x2, -, f2, i2, s2, t2⟩ := w2 x2'
      obtain ⟨q2, k1, k2⟩ := login_why (pw := va2) hU hR hT hUI y1 t2 s2
      rw [hq] at k1
      cases k1
      refine ⟨if q = 0 then 0 else 1, ?_, fun _ => ⟨?_, fun zz => ?_⟩⟩
      · rw [if_pos hz, f2, f3, k2, ob_some, if_some]
      · by_cases hq0 : q = 0
        · rw [if_pos hq0, if_pos hq0]; exact ⟨fun y => absurd y n10, fun y => absurd rfl y⟩
        · rw [if_neg hq0, if_neg hq0]; exact ⟨fun _ => n10, fun _ => rfl⟩
      · rw [f2, f3, k2]
        by_cases hq0 : q = 0
        · rw [hq0]
        · rw [if_neg hq0] at zz
          exact absurd zz n10
    · exact ⟨0, if_neg hz, fun z => absurd z hz⟩
  obtain ⟨rr, hr1, hr2⟩ := hr
  obtain ⟨a5, b5, st5, en5, kd5, va5, tk5, mv5, lt5, er5, ea5, c5, m5, mn5, p5, l5, w5⟩ := mayDo_same h p4 er3 ea3 (if q = 0 then 1 else 0) rr (fun z => (hr2 z).1)
  by_cases hz : er5 = 0
  · obtain ⟨xx, -, xr, -⟩ := w5 hz
    have x3' := xx
    obtain ⟨x3, -, f3, s3, t3⟩ := w3 x3'
    have x2' := x3
    obtain ⟨x2, -, f2, i2, s2, t2⟩ := w2 x2'
    have hok := (hr2 xx).2 xr
    rw [f2, f3] at hok hr1
    have hcr := wr4 xx
    subst hcr
    have hf := login_ok hU.2.1 hR.2.1 hUI t2 s2 hok
    obtain ⟨nu, seed', made', Tr', T', g', hd1, hd2, hd0, hST'⟩ := login_do hST (by omega) (by omega) (by rw [t2]; omega) (by rw [t2, g4]; omega) hf wc4
    refine ⟨a5, b5, st5, en5, kd5, va5, tk5, mv5, lt5, er5, ea5, _, _, _, _, g', ?_, ?_, p5, fun _ => ⟨by omega, ST.mono hST' (by omega) (by omega)⟩⟩
    · simp only [f_X1_readLogin, ob_some, hq, if_some, c1, c2, c3, cr, c4, c5, if_pos hz, i10, if_false, hd1]
    · simp only [f_X12_readLogin, ob_some, m1, m2, m3, mr, m4, hr1, m5, mn5, if_pos hz, i10, if_false, f2, f3, hd2, if_pos (le0 hd0)]
  · refine ⟨a5, b5, st5, en5, kd5, va5, tk5, mv5, lt5, er5, ea5, seed, made, Tr, T, g, ?_, ?_, p5, fun z => absurd z hz⟩
    · simp only [f_X1_readLogin, ob_some, hq, if_some, c1, c2, c3, cr, c4, c5, if_neg hz, if_true]
    · simp only [f_X12_readLogin, ob_some, m1, m2, m3, mr, m4, hr1, m5, mn5, if_neg hz, if_true]
theorem refer_st {n a b : Nat} {tm tol seed made cot Rr : Int32} {R : Nat → Int32} {Ur : Int32} {U : Nat → Int32} {Vr : Int32} {V : Nat → Int32} {Tr : Int32} {T : Nat → Int32} {Er : Int32} {E : Nat → Int32} {g : Nat → Int32} {ic ml st en kd va tk mv lt : Int32} {ib mi : Nat → Int32} (h : INPn n ic ib ml mi) (hP : PST n mi a b st en kd va tk mv lt) (hk : ¬ kd = 0) (ea : Int32) (hST : ST (999 * a) a tm tol seed made cot Rr R Ur U Vr V Tr T Er E g) : ∃ (a' b' : Nat) (st' en' kd' va' tk' mv' lt' er' ea' : Int32) (seed' made' Tr' : Int32) (T' : Nat → Int32) (g' : Nat → Int32), f_X1_readRefer st en kd va 0 ea ic ib tm tol seed made Rr R Ur U Tr T = some (st', en', kd', va', er', ea', seed', made', Tr', T') ∧ f_X12_readRefer ml en st tk mv lt 0 ea g mi = some (en', st', tk', mv', lt', er', ea', g') ∧ PST n mi a' b' st' en' kd' va' tk' mv' lt' ∧ (er' = 0 → a < a' ∧ ST (999 * a') a' tm tol seed' made' cot Rr R Ur U Vr V Tr' T' Er E g') := by
  obtain ⟨r, u, s, k, e, ⟨y0, y1, y2, y7, y9⟩, ⟨hR, hR2, hR3⟩, ⟨hU, hU2⟩, ⟨hS, hS2⟩, hT, hE, ⟨z1, z2, z3, z4, z5, z6⟩, hRI, hUI, hSI, hTI, hEI, hUZ⟩ := id hST
  obtain ⟨g3, g4, g5, g6, g8⟩ := ST_gs (tb := 0) (mb := 0) (tm := 0) (tol := 0) (seed := 0) (made := 0) (cot := 0) hR hU hS hT hE
  have hab := kd_long hP.2.2 hk
  have hn6 := h.2.1
  have hbn := hP.2.2.2.1
  obtain ⟨a1, b1, st1, en1, kd1, va1, tk1, mv1, lt1, c1, m1, p1, l1, w1⟩ := next_same h hP 0
  have hb1 := w1 rfl
  obtain ⟨a2, b2, st2, en2, kd2, va2, tk2, mv2, lt2, er2, ea2, oc2, om2, c2, m2, p2, l2, w2⟩ := ticketHere_same h p1 hT hTI (show a < 100000000 by omega) 0 ea
  obtain ⟨a3, b3, st3, en3, kd3, va3, tk3, mv3, lt3, er3, ea3, oc3, om3, c3, m3, p3, l3, w3⟩ := realmHere_same h p2 hR hR2 er2 ea2
  obtain ⟨q, hq⟩ := whyNoReferral_tot tm tol Rr R Ur U Tr T oc2 oc3
  have hr : ∃ rr, (if er3 = 0 then ((f_X12_whyNotRefer g om2 om3).bind fun o9 => if o9 = 0 then some (0 : Int32) else some 1) else some 0) = some rr ∧ (er3 = 0 → ((if q = 0 then (1 : Int32) else 0) = 0 ↔ ¬ rr = 0) ∧ (rr = 0 → f_X12_whyNotRefer g om2 om3 = some 0)) := by
    by_cases hz : er3 = 0
    · have x3' := hz
      obtain ⟨x3, -, f3, i3, s3, t3⟩ := w3 x3'
      have x2' := x3
      obtain ⟨x2, -, f2, i2, s2, t2⟩ := w2 x2'
      obtain ⟨q2, k1, k2⟩ := refer_why hR hR3 hU hT hTI y0 y1 t2 s2 t3 s3
      rw [hq] at k1
      cases k1
      refine ⟨if q = 0 then 0 else 1, ?_, fun _ => ⟨?_, fun zz => ?_⟩⟩
      · rw [if_pos hz, f2, f3, k2, ob_some, if_some]
      · by_cases hq0 : q = 0
        · rw [if_pos hq0, if_pos hq0]; exact ⟨fun y => absurd y n10, fun y => absurd rfl y⟩
        · rw [if_neg hq0, if_neg hq0]; exact ⟨fun _ => n10, fun _ => rfl⟩
      · rw [f2, f3, k2]
        by_cases hq0 : q = 0
        · rw [hq0]
        · rw [if_neg hq0] at zz
          exact absurd zz n10
    · exact ⟨0, if_neg hz, fun z => absurd z hz⟩
  obtain ⟨rr, hr1, hr2⟩ := hr
  obtain ⟨a4, b4, st4, en4, kd4, va4, tk4, mv4, lt4, er4, ea4, c4, m4, mn4, p4, l4, w4⟩ := mayDo_same h p3 er3 ea3 (if q = 0 then 1 else 0) rr (fun z => (hr2 z).1)
  by_cases hz : er4 = 0
  · obtain ⟨xx, -, xr, -⟩ := w4 hz
    have x3' := xx
    obtain ⟨x3, -, f3, i3, s3, t3⟩ := w3 x3'
    have x2' := x3
    obtain ⟨x2, -, f2, i2, s2, t2⟩ := w2 x2'
    have hok := (hr2 xx).2 xr
    rw [f2, f3] at hok hr1
    have hf := refer_ok hR.2.1 hU.2.1 hT.2.1 hTI t2 s2 t3 s3 hok
    obtain ⟨nu, seed', made', Tr', T', g', hd1, hd2, hd0, hST'⟩ := refer_do hST (by omega) (by omega) t2 (by rw [g6]; omega) (by rw [t3]; omega) (by rw [t3, g3]; omega) hf
    refine ⟨a4, b4, st4, en4, kd4, va4, tk4, mv4, lt4, er4, ea4, _, _, _, _, g', ?_, ?_, p4, fun _ => ⟨by omega, ST.mono hST' (by omega) (by omega)⟩⟩
    · simp only [f_X1_readRefer, ob_some, hq, if_some, c1, c2, c3, c4, if_pos hz, i10, if_false, hd1]
    · simp only [f_X12_readRefer, ob_some, m1, m2, m3, hr1, m4, mn4, if_pos hz, i10, if_false, f2, f3, hd2, if_pos (le0 hd0)]
  · refine ⟨a4, b4, st4, en4, kd4, va4, tk4, mv4, lt4, er4, ea4, seed, made, Tr, T, g, ?_, ?_, p4, fun z => absurd z hz⟩
    · simp only [f_X1_readRefer, ob_some, hq, if_some, c1, c2, c3, c4, if_neg hz, if_true]
    · simp only [f_X12_readRefer, ob_some, m1, m2, m3, hr1, m4, mn4, if_neg hz, if_true]
theorem request_st {n a b : Nat} {tm tol seed made cot Rr : Int32} {R : Nat → Int32} {Ur : Int32} {U : Nat → Int32} {Vr : Int32} {V : Nat → Int32} {Tr : Int32} {T : Nat → Int32} {Er : Int32} {E : Nat → Int32} {g : Nat → Int32} {ic ml st en kd va tk mv lt : Int32} {ib mi : Nat → Int32} (h : INPn n ic ib ml mi) (hP : PST n mi a b st en kd va tk mv lt) (hk : ¬ kd = 0) (ea : Int32) (hST : ST (999 * a) a tm tol seed made cot Rr R Ur U Vr V Tr T Er E g) : ∃ (a' b' : Nat) (st' en' kd' va' tk' mv' lt' er' ea' : Int32) (seed' made' Tr' : Int32) (T' : Nat → Int32) (g' : Nat → Int32), f_X1_readRequest st en kd va 0 ea ic ib tm tol seed made Rr R Ur U Vr V Tr T = some (st', en', kd', va', er', ea', seed', made', Tr', T') ∧ f_X12_readRequest ml en st tk mv lt 0 ea g mi = some (en', st', tk', mv', lt', er', ea', g') ∧ PST n mi a' b' st' en' kd' va' tk' mv' lt' ∧ (er' = 0 → a < a' ∧ ST (999 * a') a' tm tol seed' made' cot Rr R Ur U Vr V Tr' T' Er E g') := by
  obtain ⟨r, u, s, k, e, ⟨y0, y1, y2, y7, y9⟩, ⟨hR, hR2, hR3⟩, ⟨hU, hU2⟩, ⟨hS, hS2⟩, hT, hE, ⟨z1, z2, z3, z4, z5, z6⟩, hRI, hUI, hSI, hTI, hEI, hUZ⟩ := id hST
  obtain ⟨g3, g4, g5, g6, g8⟩ := ST_gs (tb := 0) (mb := 0) (tm := 0) (tol := 0) (seed := 0) (made := 0) (cot := 0) hR hU hS hT hE
  have hab := kd_long hP.2.2 hk
  have hn6 := h.2.1
  have hbn := hP.2.2.2.1
  obtain ⟨a1, b1, st1, en1, kd1, va1, tk1, mv1, lt1, c1, m1, p1, l1, w1⟩ := next_same h hP 0
  have hb1 := w1 rfl
  obtain ⟨a2, b2, st2, en2, kd2, va2, tk2, mv2, lt2, er2, ea2, oc2, om2, c2, m2, p2, l2, w2⟩ := ticketHere_same h p1 hT hTI (show a < 100000000 by omega) 0 ea
  obtain ⟨a3, b3, st3, en3, kd3, va3, tk3, mv3, lt3, er3, ea3, oc3, om3, c3, m3, p3, l3, w3⟩ := serviceHere_same h p2 hS hS2 er2 ea2
  obtain ⟨q, hq⟩ := whyNoRequest_tot tm tol Rr R Ur U Vr V Tr T oc2 oc3
  have hr : ∃ rr, (if er3 = 0 then ((f_X12_whyNotRequest g om2 om3).bind fun o9 => if o9 = 0 then some (0 : Int32) else some 1) else some 0) = some rr ∧ (er3 = 0 → ((if q = 0 then (1 : Int32) else 0) = 0 ↔ ¬ rr = 0) ∧ (rr = 0 → f_X12_whyNotRequest g om2 om3 = some 0)) := by
    by_cases hz : er3 = 0
    · have x3' := hz
      obtain ⟨x3, -, f3, i3, s3, t3⟩ := w3 x3'
      have x2' := x3
      obtain ⟨x2, -, f2, i2, s2, t2⟩ := w2 x2'
      obtain ⟨q2, k1, k2⟩ := request_why hR hU hS hT hTI y0 y1 t2 s2 t3 s3
      rw [hq] at k1
      cases k1
      refine ⟨if q = 0 then 0 else 1, ?_, fun _ => ⟨?_, fun zz => ?_⟩⟩
      · rw [if_pos hz, f2, f3, k2, ob_some, if_some]
      · by_cases hq0 : q = 0
        · rw [if_pos hq0, if_pos hq0]; exact ⟨fun y => absurd y n10, fun y => absurd rfl y⟩
        · rw [if_neg hq0, if_neg hq0]; exact ⟨fun _ => n10, fun _ => rfl⟩
      · rw [f2, f3, k2]
        by_cases hq0 : q = 0
        · rw [hq0]
        · rw [if_neg hq0] at zz
          exact absurd zz n10
    · exact ⟨0, if_neg hz, fun z => absurd z hz⟩
  obtain ⟨rr, hr1, hr2⟩ := hr
  obtain ⟨a4, b4, st4, en4, kd4, va4, tk4, mv4, lt4, er4, ea4, c4, m4, mn4, p4, l4, w4⟩ := mayDo_same h p3 er3 ea3 (if q = 0 then 1 else 0) rr (fun z => (hr2 z).1)
  by_cases hz : er4 = 0
  · obtain ⟨xx, -, xr, -⟩ := w4 hz
    have x3' := xx
    obtain ⟨x3, -, f3, i3, s3, t3⟩ := w3 x3'
    have x2' := x3
    obtain ⟨x2, -, f2, i2, s2, t2⟩ := w2 x2'
    have hok := (hr2 xx).2 xr
    rw [f2, f3] at hok hr1
    obtain ⟨hf, hre⟩ := request_ok hR.2.1 hU.2.1 hS.2.1 hT.2.1 hTI t2 s2 t3 s3 hok
    obtain ⟨nu, seed', made', Tr', T', g', hd1, hd2, hd0, hST'⟩ := request_do hST (by omega) (by omega) t2 (by rw [g6]; omega) (by rw [t3]; omega) (by rw [t3, g5]; omega) hf
    rw [hre] at hd2
    have i36 : i3 < 6 := Nat.lt_of_lt_of_le s3 hS.2.1
    refine ⟨a4, b4, st4, en4, kd4, va4, tk4, mv4, lt4, er4, ea4, _, _, _, _, g', ?_, ?_, p4, fun _ => ⟨by omega, ST.mono hST' (by omega) (by omega)⟩⟩
    · simp only [f_X1_readRequest, ob_some, hq, if_some, c1, c2, c3, c4, if_pos hz, i10, if_false, hd1]
    · simp only [f_X12_readRequest, ob_some, m1, m2, m3, hr1, m4, mn4, if_pos hz, i10, if_false, f2, f3, f_X12_ofService, vM1 t3 i36, hd2, if_pos (le0 hd0)]
  · refine ⟨a4, b4, st4, en4, kd4, va4, tk4, mv4, lt4, er4, ea4, seed, made, Tr, T, g, ?_, ?_, p4, fun z => absurd z hz⟩
    · simp only [f_X1_readRequest, ob_some, hq, if_some, c1, c2, c3, c4, if_neg hz, if_true]
    · simp only [f_X12_readRequest, ob_some, m1, m2, m3, hr1, m4, mn4, if_neg hz, if_true]
theorem renew_st {n a b : Nat} {tm tol seed made cot Rr : Int32} {R : Nat → Int32} {Ur : Int32} {U : Nat → Int32} {Vr : Int32} {V : Nat → Int32} {Tr : Int32} {T : Nat → Int32} {Er : Int32} {E : Nat → Int32} {g : Nat → Int32} {ic ml st en kd va tk mv lt : Int32} {ib mi : Nat → Int32} (h : INPn n ic ib ml mi) (hP : PST n mi a b st en kd va tk mv lt) (hk : ¬ kd = 0) (ea : Int32) (hST : ST (999 * a) a tm tol seed made cot Rr R Ur U Vr V Tr T Er E g) : ∃ (a' b' : Nat) (st' en' kd' va' tk' mv' lt' er' ea' : Int32) (seed' : Int32) (T' : Nat → Int32) (g' : Nat → Int32), f_X1_readRenew st en kd va 0 ea ic ib tm seed Rr R Tr T = some (st', en', kd', va', er', ea', seed', T') ∧ f_X12_readRenew ml en st tk mv lt 0 ea g mi = some (en', st', tk', mv', lt', er', ea', g') ∧ PST n mi a' b' st' en' kd' va' tk' mv' lt' ∧ (er' = 0 → a < a' ∧ ST (999 * a') a' tm tol seed' made cot Rr R Ur U Vr V Tr T' Er E g') := by
  obtain ⟨r, u, s, k, e, ⟨y0, y1, y2, y7, y9⟩, ⟨hR, hR2, hR3⟩, ⟨hU, hU2⟩, ⟨hS, hS2⟩, hT, hE, ⟨z1, z2, z3, z4, z5, z6⟩, hRI, hUI, hSI, hTI, hEI, hUZ⟩ := id hST
  obtain ⟨g3, g4, g5, g6, g8⟩ := ST_gs (tb := 0) (mb := 0) (tm := 0) (tol := 0) (seed := 0) (made := 0) (cot := 0) hR hU hS hT hE
  have hab := kd_long hP.2.2 hk
  have hn6 := h.2.1
  have hbn := hP.2.2.2.1
  obtain ⟨a1, b1, st1, en1, kd1, va1, tk1, mv1, lt1, c1, m1, p1, l1, w1⟩ := next_same h hP 0
  have hb1 := w1 rfl
  obtain ⟨a2, b2, st2, en2, kd2, va2, tk2, mv2, lt2, er2, ea2, oc2, om2, c2, m2, p2, l2, w2⟩ := ticketHere_same h p1 hT hTI (show a < 100000000 by omega) 0 ea
  obtain ⟨q, hq⟩ := whyNoRenewal_tot tm Rr R Tr T oc2
  have hr : ∃ rr, (if er2 = 0 then ((f_X12_whyNotRenew g om2).bind fun o9 => if o9 = 0 then some (0 : Int32) else some 1) else some 0) = some rr ∧ (er2 = 0 → ((if q = 0 then (1 : Int32) else 0) = 0 ↔ ¬ rr = 0) ∧ (rr = 0 → f_X12_whyNotRenew g om2 = some 0)) := by
    by_cases hz : er2 = 0
    · have x2' := hz
      obtain ⟨x2, -, f2, i2, s2, t2⟩ := w2 x2'
      obtain ⟨q2, k1, k2⟩ := renew_why hR hT hTI y0 t2 s2
      rw [hq] at k1
      cases k1
      refine ⟨if q = 0 then 0 else 1, ?_, fun _ => ⟨?_, fun zz => ?_⟩⟩
      · rw [if_pos hz, f2, k2, ob_some, if_some]
      · by_cases hq0 : q = 0
        · rw [if_pos hq0, if_pos hq0]; exact ⟨fun y => absurd y n10, fun y => absurd rfl y⟩
        · rw [if_neg hq0, if_neg hq0]; exact ⟨fun _ => n10, fun _ => rfl⟩
      · rw [f2, k2]
        by_cases hq0 : q = 0
        · rw [hq0]
        · rw [if_neg hq0] at zz
          exact absurd zz n10
    · exact ⟨0, if_neg hz, fun z => absurd z hz⟩
  obtain ⟨rr, hr1, hr2⟩ := hr
  obtain ⟨a3, b3, st3, en3, kd3, va3, tk3, mv3, lt3, er3, ea3, c3, m3, mn3, p3, l3, w3⟩ := mayDo_same h p2 er2 ea2 (if q = 0 then 1 else 0) rr (fun z => (hr2 z).1)
  by_cases hz : er3 = 0
  · obtain ⟨xx, -, xr, -⟩ := w3 hz
    have x2' := xx
    obtain ⟨x2, -, f2, i2, s2, t2⟩ := w2 x2'
    have hok := (hr2 xx).2 xr
    rw [f2] at hok hr1
    obtain ⟨nu, seed', T', g', hd1, hd2, hd0, hST'⟩ := renew_do hST (by omega) t2 (by rw [g6]; omega)
    refine ⟨a3, b3, st3, en3, kd3, va3, tk3, mv3, lt3, er3, ea3, _, _, g', ?_, ?_, p3, fun _ => ⟨by omega, ST.mono hST' (by omega) (by omega)⟩⟩
    · simp only [f_X1_readRenew, ob_some, hq, if_some, c1, c2, c3, if_pos hz, i10, if_false, hd1]
    · simp only [f_X12_readRenew, ob_some, m1, m2, hr1, m3, mn3, if_pos hz, i10, if_false, f2, hd2, if_pos (le0 hd0)]
  · refine ⟨a3, b3, st3, en3, kd3, va3, tk3, mv3, lt3, er3, ea3, seed, T, g, ?_, ?_, p3, fun z => absurd z hz⟩
    · simp only [f_X1_readRenew, ob_some, hq, if_some, c1, c2, c3, if_neg hz, if_true]
    · simp only [f_X12_readRenew, ob_some, m1, m2, hr1, m3, mn3, if_neg hz, if_true]
theorem cheese_st {n a b : Nat} {tm tol seed made cot Rr : Int32} {R : Nat → Int32} {Ur : Int32} {U : Nat → Int32} {Vr : Int32} {V : Nat → Int32} {Tr : Int32} {T : Nat → Int32} {Er : Int32} {E : Nat → Int32} {g : Nat → Int32} {ic ml st en kd va tk mv lt : Int32} {ib mi : Nat → Int32} (h : INPn n ic ib ml mi) (hP : PST n mi a b st en kd va tk mv lt) (hk : ¬ kd = 0) (ea : Int32) (hST : ST (999 * a) a tm tol seed made cot Rr R Ur U Vr V Tr T Er E g) : ∃ (a' b' : Nat) (st' en' kd' va' tk' mv' lt' er' ea' : Int32) (U' V' : Nat → Int32) (Er' : Int32) (E' : Nat → Int32) (g' : Nat → Int32), f_X1_readCheese st en kd va 0 ea ic ib tm tol Rr R Ur U Vr V Tr T Er E = some (st', en', kd', va', er', ea', U', V', Er', E') ∧ f_X12_readCheese ml en st tk mv lt 0 ea g mi = some (en', st', tk', mv', lt', er', ea', g') ∧ PST n mi a' b' st' en' kd' va' tk' mv' lt' ∧ (er' = 0 → a < a' ∧ ST (999 * a') a' tm tol seed made cot Rr R Ur U' Vr V' Tr T Er' E' g') := by
  obtain ⟨r, u, s, k, e, ⟨y0, y1, y2, y7, y9⟩, ⟨hR, hR2, hR3⟩, ⟨hU, hU2⟩, ⟨hS, hS2⟩, hT, hE, ⟨z1, z2, z3, z4, z5, z6⟩, hRI, hUI, hSI, hTI, hEI, hUZ⟩ := id hST
  obtain ⟨g3, g4, g5, g6, g8⟩ := ST_gs (tb := 0) (mb := 0) (tm := 0) (tol := 0) (seed := 0) (made := 0) (cot := 0) hR hU hS hT hE
  have hab := kd_long hP.2.2 hk
  have hn6 := h.2.1
  have hbn := hP.2.2.2.1
  obtain ⟨a1, b1, st1, en1, kd1, va1, tk1, mv1, lt1, c1, m1, p1, l1, w1⟩ := next_same h hP 0
  have hb1 := w1 rfl
  obtain ⟨a2, b2, st2, en2, kd2, va2, tk2, mv2, lt2, er2, ea2, oc2, om2, c2, m2, p2, l2, w2⟩ := ticketHere_same h p1 hT hTI (show a < 100000000 by omega) 0 ea
  obtain ⟨q, hq⟩ := whyNoCheese_tot tm tol Rr R Ur U Vr V Tr T hE oc2 0
  have hr : ∃ rr, (if er2 = 0 then ((f_X12_whyNotCheese g om2).bind fun o9 => if o9 = 0 then some (0 : Int32) else some 1) else some 0) = some rr ∧ (er2 = 0 → ((if q = 0 then (1 : Int32) else 0) = 0 ↔ ¬ rr = 0) ∧ (rr = 0 → f_X12_whyNotCheese g om2 = some 0)) := by
    by_cases hz : er2 = 0
    · have x2' := hz
      obtain ⟨x2, -, f2, i2, s2, t2⟩ := w2 x2'
      obtain ⟨q2, k1, k2⟩ := cheese_now hST (by omega) t2 (by rw [g6]; omega)
      rw [hq] at k1
      cases k1
      refine ⟨if q = 0 then 0 else 1, ?_, fun _ => ⟨?_, fun zz => ?_⟩⟩
      · rw [if_pos hz, f2, k2, ob_some, if_some]
      · by_cases hq0 : q = 0
        · rw [if_pos hq0, if_pos hq0]; exact ⟨fun y => absurd y n10, fun y => absurd rfl y⟩
        · rw [if_neg hq0, if_neg hq0]; exact ⟨fun _ => n10, fun _ => rfl⟩
      · rw [f2, k2]
        by_cases hq0 : q = 0
        · rw [hq0]
        · rw [if_neg hq0] at zz
          exact absurd zz n10
    · exact ⟨0, if_neg hz, fun z => absurd z hz⟩
  obtain ⟨rr, hr1, hr2⟩ := hr
  obtain ⟨a3, b3, st3, en3, kd3, va3, tk3, mv3, lt3, er3, ea3, c3, m3, mn3, p3, l3, w3⟩ := mayDo_same h p2 er2 ea2 (if q = 0 then 1 else 0) rr (fun z => (hr2 z).1)
  by_cases hz : er3 = 0
  · obtain ⟨xx, -, xr, -⟩ := w3 hz
    have x2' := xx
    obtain ⟨x2, -, f2, i2, s2, t2⟩ := w2 x2'
    have hok := (hr2 xx).2 xr
    rw [f2] at hok hr1
    have hk1 := cheese_ok t2 (Nat.lt_of_lt_of_le s2 hT.2.1) hok
    obtain ⟨nu, U', V', Er', E', g', hd1, hd2, hd0, hST'⟩ := cheese_do hST (by omega) (by omega) t2 (by rw [g6]; omega) hk1
    refine ⟨a3, b3, st3, en3, kd3, va3, tk3, mv3, lt3, er3, ea3, _, _, _, _, g', ?_, ?_, p3, fun _ => ⟨by omega, ST.mono hST' (by omega) (by omega)⟩⟩
    · simp only [f_X1_readCheese, ob_some, hq, if_some, c1, c2, c3, if_pos hz, i10, if_false, hd1]
    · simp only [f_X12_readCheese, ob_some, m1, m2, hr1, m3, mn3, if_pos hz, i10, if_false, f2, hd2, if_pos (le0 hd0)]
  · refine ⟨a3, b3, st3, en3, kd3, va3, tk3, mv3, lt3, er3, ea3, U, V, Er, E, g, ?_, ?_, p3, fun z => absurd z hz⟩
    · simp only [f_X1_readCheese, ob_some, hq, if_some, c1, c2, c3, if_neg hz, if_true]
    · simp only [f_X12_readCheese, ob_some, m1, m2, hr1, m3, mn3, if_neg hz, if_true]
