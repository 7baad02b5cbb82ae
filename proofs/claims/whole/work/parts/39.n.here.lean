/-! PURE: names, tickets and offsets read on both sides. -/
theorem exists_m {ml en st tk mv lt q1 q2 on : Int32} {mi : Nat → Int32} {p : Int32 × Int32} {x : Int32 × Int32 × Int32 × Int32 × Int32} (hp : RQ st q1 q2 (if q1 = 0 then (if on = -1 then 0 else 1) else 1) 4 = p) (hx : f_X12_next ml en st tk mv lt p.1 mi = some x) : f_X12_exists ml en st tk mv lt q1 q2 mi on = some (if p.1 = 0 then on else 0, x.1, x.2.1, x.2.2.1, x.2.2.2.1, x.2.2.2.2, p.1, p.2) := by
  unfold f_X12_exists
  rw [show (if q1 = 0 then (if on = -1 then some (0 : Int32) else some 1) else some 1) = some (if q1 = 0 then (if on = -1 then 0 else 1) else 1) by rw [if_some, if_some]]
  show (f_X12_check st q1 q2 (if q1 = 0 then (if on = -1 then 0 else 1) else 1) 4).bind _ = _
  rw [check_m, hp]
  show (f_X12_next ml en st tk mv lt p.1 mi).bind _ = _
  rw [hx]
  show (if p.1 = 0 then some (on, x.1, x.2.1, x.2.2.1, x.2.2.2.1, x.2.2.2.2, p.1, p.2) else some (0, x.1, x.2.1, x.2.2.1, x.2.2.2.1, x.2.2.2.2, p.1, p.2)) = _
  by_cases hz : p.1 = 0
  · rw [if_pos hz, if_pos hz]
  · rw [if_neg hz, if_neg hz]
theorem realmHere_same {n a b r : Nat} {ic ml st en kd va tk mv lt rows : Int32} {ib mi C g : Nat → Int32} (h : INPn n ic ib ml mi) (hP : PST n mi a b st en kd va tk mv lt) (hR : RLM rows C g r) (hN : NMS 5 4 10 C g r) (er ea : Int32) : ∃ (a' b' : Nat) (st' en' kd' va' tk' mv' lt' er' ea' oc om : Int32), f_X1_knownName_realms st en kd va er ea ic ib rows C 0 = some (oc, st', en', kd', va', er', ea') ∧ f_X12_realmHere ml en st tk mv lt er ea g mi = some (om, en', st', tk', mv', lt', er', ea') ∧ PST n mi a' b' st' en' kd' va' tk' mv' lt' ∧ a ≤ a' ∧ (er' = 0 → er = 0 ∧ b ≤ a' ∧ om = oc ∧ ∃ i, i < r ∧ oc.toInt = ((i : Nat) : Int)) := by
  have hT := hP.2.2
  have hj : (if kd = 1 then (1 : Int32) else 0) = (if tk = 3 then 1 else 0) := by
    by_cases hk : kd = 1
    · rw [if_pos hk, if_pos ((kd1 hT).mp hk)]
    · rw [if_neg hk, if_neg (fun z => hk ((kd1 hT).mpr z))]
  obtain ⟨oc, hoc⟩ := realmNamed_c (c := va) hR
  have hq1 : (RQ st er ea (if kd = 1 then 1 else 0) 1).1 = 0 → er = 0 ∧ kd = 1 := fun z => by
    obtain ⟨z1, z2⟩ := RQ_ok (by decide) z
    exact ⟨z1, Classical.byContradiction fun hn => z2 (if_neg hn)⟩
  -- the name on the reference's side
  have hnm : ∃ nm on, (if (RQ st er ea (if kd = 1 then 1 else 0) 1).1 = 0 then (f_X12_nameFrom mi st lt).bind fun o3 => some (o3, RQ st er ea (if kd = 1 then 1 else 0) 1) else some (0, RQ st er ea (if kd = 1 then 1 else 0) 1)) = some (nm, RQ st er ea (if kd = 1 then 1 else 0) 1) ∧ f_X12_realmNamed g nm = some on ∧ ((RQ st er ea (if kd = 1 then 1 else 0) 1).1 = 0 → on = oc ∧ (oc = -1 ∨ ∃ i : Nat, i < r ∧ oc.toInt = (i : Int))) := by
    by_cases hz : (RQ st er ea (if kd = 1 then 1 else 0) 1).1 = 0
    · obtain ⟨z1, z2⟩ := hq1 hz
      subst z2
      obtain ⟨-, -, -, m, hm1, hm2⟩ := kd1_at hT
      obtain ⟨o, e1, e2, e3⟩ := realmNamed_same hR hN hm2
      rw [hoc] at e1
      cases e1
      refine ⟨m, oc, by rw [if_pos hz, hm1]; rfl, e2, fun _ => ⟨rfl, e3.imp id (fun ⟨i, x1, x2, _⟩ => ⟨i, x1, x2⟩)⟩⟩
    · obtain ⟨on, hon⟩ := realmNamed_m (m := 0) hR
      exact ⟨0, on, if_neg hz, hon, fun z => absurd z hz⟩
  obtain ⟨nm, on, n1, n2, n3⟩ := hnm
  generalize hqq : RQ st er ea (if kd = 1 then 1 else 0) 1 = q at *
  have hsame : RQ st q.1 q.2 (if oc = -1 then 0 else 1) 4 = RQ st q.1 q.2 (if q.1 = 0 then (if on = -1 then 0 else 1) else 1) 4 := RQ_eq (fun z => by
    rw [if_pos z, (n3 z).1])
  have hok : (RQ st q.1 q.2 (if oc = -1 then 0 else 1) 4).1 = 0 → er = 0 ∧ on = oc ∧ ∃ i : Nat, i < r ∧ oc.toInt = (i : Int) := fun z => by
    obtain ⟨z1, z2⟩ := RQ_ok (by decide) z
    obtain ⟨z3, z4⟩ := n3 z1
    have z5 : ¬ oc = -1 := fun e => z2 (if_pos e)
    exact ⟨(hq1 z1).1, z3, z4.resolve_left z5⟩
  generalize hq2 : RQ st q.1 q.2 (if oc = -1 then 0 else 1) 4 = q2 at hsame hok
  obtain ⟨a', b', st', en', kd', va', tk', mv', lt', h1, h2, h3, h4, h5⟩ := next_same h hP q2.1
  refine ⟨a', b', st', en', kd', va', tk', mv', lt', q2.1, q2.2, oc, if q2.1 = 0 then on else 0, ?_, ?_, h3, h4, fun z => ⟨(hok z).1, h5 z, by rw [if_pos z]; exact (hok z).2.1, (hok z).2.2⟩⟩
  · simp only [f_X1_knownName_realms, hoc, if_some, require_c, ob_some, hqq, hq2, h1]
  · have e1 : f_X12_nameHere st tk lt er ea mi = some (nm, q) := by
      unfold f_X12_nameHere
      rw [if_some, ← hj]
      show (f_X12_check st er ea (if kd = 1 then 1 else 0) 1).bind _ = _
      rw [check_m, hqq]
      exact n1
    unfold f_X12_realmHere
    rw [e1]
    show (f_X12_realmNamed g nm).bind _ = _
    rw [n2]
    show (f_X12_exists ml en st tk mv lt q.1 q.2 mi on).bind _ = _
    rw [exists_m hsame.symm h2]
    rfl

theorem userHere_same {n a b r : Nat} {ic ml st en kd va tk mv lt rows : Int32} {ib mi C g : Nat → Int32} (h : INPn n ic ib ml mi) (hP : PST n mi a b st en kd va tk mv lt) (hR : USR rows C g r) (hN : NMS 5 5 55 C g r) (er ea : Int32) : ∃ (a' b' : Nat) (st' en' kd' va' tk' mv' lt' er' ea' oc om : Int32), f_X1_knownName_users st en kd va er ea ic ib rows C 0 = some (oc, st', en', kd', va', er', ea') ∧ f_X12_userHere ml en st tk mv lt er ea g mi = some (om, en', st', tk', mv', lt', er', ea') ∧ PST n mi a' b' st' en' kd' va' tk' mv' lt' ∧ a ≤ a' ∧ (er' = 0 → er = 0 ∧ b ≤ a' ∧ om = oc ∧ ∃ i, i < r ∧ oc.toInt = ((i : Nat) : Int)) := by
  have hT := hP.2.2
  have hj : (if kd = 1 then (1 : Int32) else 0) = (if tk = 3 then 1 else 0) := by
    by_cases hk : kd = 1
    · rw [if_pos hk, if_pos ((kd1 hT).mp hk)]
    · rw [if_neg hk, if_neg (fun z => hk ((kd1 hT).mpr z))]
  obtain ⟨oc, hoc⟩ := userNamed_c (c := va) hR
  have hq1 : (RQ st er ea (if kd = 1 then 1 else 0) 1).1 = 0 → er = 0 ∧ kd = 1 := fun z => by
    obtain ⟨z1, z2⟩ := RQ_ok (by decide) z
    exact ⟨z1, Classical.byContradiction fun hn => z2 (if_neg hn)⟩
  -- the name on the reference's side
  have hnm : ∃ nm on, (if (RQ st er ea (if kd = 1 then 1 else 0) 1).1 = 0 then (f_X12_nameFrom mi st lt).bind fun o3 => some (o3, RQ st er ea (if kd = 1 then 1 else 0) 1) else some (0, RQ st er ea (if kd = 1 then 1 else 0) 1)) = some (nm, RQ st er ea (if kd = 1 then 1 else 0) 1) ∧ f_X12_userNamed g nm = some on ∧ ((RQ st er ea (if kd = 1 then 1 else 0) 1).1 = 0 → on = oc ∧ (oc = -1 ∨ ∃ i : Nat, i < r ∧ oc.toInt = (i : Int))) := by
    by_cases hz : (RQ st er ea (if kd = 1 then 1 else 0) 1).1 = 0
    · obtain ⟨z1, z2⟩ := hq1 hz
      subst z2
      obtain ⟨-, -, -, m, hm1, hm2⟩ := kd1_at hT
      obtain ⟨o, e1, e2, e3⟩ := userNamed_same hR hN hm2
      rw [hoc] at e1
      cases e1
      refine ⟨m, oc, by rw [if_pos hz, hm1]; rfl, e2, fun _ => ⟨rfl, e3.imp id (fun ⟨i, x1, x2, _⟩ => ⟨i, x1, x2⟩)⟩⟩
    · obtain ⟨on, hon⟩ := userNamed_m (m := 0) hR
      exact ⟨0, on, if_neg hz, hon, fun z => absurd z hz⟩
  obtain ⟨nm, on, n1, n2, n3⟩ := hnm
  generalize hqq : RQ st er ea (if kd = 1 then 1 else 0) 1 = q at *
  have hsame : RQ st q.1 q.2 (if oc = -1 then 0 else 1) 4 = RQ st q.1 q.2 (if q.1 = 0 then (if on = -1 then 0 else 1) else 1) 4 := RQ_eq (fun z => by
    rw [if_pos z, (n3 z).1])
  have hok : (RQ st q.1 q.2 (if oc = -1 then 0 else 1) 4).1 = 0 → er = 0 ∧ on = oc ∧ ∃ i : Nat, i < r ∧ oc.toInt = (i : Int) := fun z => by
    obtain ⟨z1, z2⟩ := RQ_ok (by decide) z
    obtain ⟨z3, z4⟩ := n3 z1
    have z5 : ¬ oc = -1 := fun e => z2 (if_pos e)
    exact ⟨(hq1 z1).1, z3, z4.resolve_left z5⟩
  generalize hq2 : RQ st q.1 q.2 (if oc = -1 then 0 else 1) 4 = q2 at hsame hok
  obtain ⟨a', b', st', en', kd', va', tk', mv', lt', h1, h2, h3, h4, h5⟩ := next_same h hP q2.1
  refine ⟨a', b', st', en', kd', va', tk', mv', lt', q2.1, q2.2, oc, if q2.1 = 0 then on else 0, ?_, ?_, h3, h4, fun z => ⟨(hok z).1, h5 z, by rw [if_pos z]; exact (hok z).2.1, (hok z).2.2⟩⟩
  · simp only [f_X1_knownName_users, hoc, if_some, require_c, ob_some, hqq, hq2, h1]
  · have e1 : f_X12_nameHere st tk lt er ea mi = some (nm, q) := by
      unfold f_X12_nameHere
      rw [if_some, ← hj]
      show (f_X12_check st er ea (if kd = 1 then 1 else 0) 1).bind _ = _
      rw [check_m, hqq]
      exact n1
    unfold f_X12_userHere
    rw [e1]
    show (f_X12_userNamed g nm).bind _ = _
    rw [n2]
    show (f_X12_exists ml en st tk mv lt q.1 q.2 mi on).bind _ = _
    rw [exists_m hsame.symm h2]
    rfl

theorem serviceHere_same {n a b r : Nat} {ic ml st en kd va tk mv lt rows : Int32} {ib mi C g : Nat → Int32} (h : INPn n ic ib ml mi) (hP : PST n mi a b st en kd va tk mv lt) (hR : SVC rows C g r) (hN : NMS 3 3 85 C g r) (er ea : Int32) : ∃ (a' b' : Nat) (st' en' kd' va' tk' mv' lt' er' ea' oc om : Int32), f_X1_knownName_services st en kd va er ea ic ib rows C 0 = some (oc, st', en', kd', va', er', ea') ∧ f_X12_serviceHere ml en st tk mv lt er ea g mi = some (om, en', st', tk', mv', lt', er', ea') ∧ PST n mi a' b' st' en' kd' va' tk' mv' lt' ∧ a ≤ a' ∧ (er' = 0 → er = 0 ∧ b ≤ a' ∧ om = oc ∧ ∃ i, i < r ∧ oc.toInt = ((i : Nat) : Int)) := by
  have hT := hP.2.2
  have hj : (if kd = 1 then (1 : Int32) else 0) = (if tk = 3 then 1 else 0) := by
    by_cases hk : kd = 1
    · rw [if_pos hk, if_pos ((kd1 hT).mp hk)]
    · rw [if_neg hk, if_neg (fun z => hk ((kd1 hT).mpr z))]
  obtain ⟨oc, hoc⟩ := serviceNamed_c (c := va) hR
  have hq1 : (RQ st er ea (if kd = 1 then 1 else 0) 1).1 = 0 → er = 0 ∧ kd = 1 := fun z => by
    obtain ⟨z1, z2⟩ := RQ_ok (by decide) z
    exact ⟨z1, Classical.byContradiction fun hn => z2 (if_neg hn)⟩
  -- the name on the reference's side
  have hnm : ∃ nm on, (if (RQ st er ea (if kd = 1 then 1 else 0) 1).1 = 0 then (f_X12_nameFrom mi st lt).bind fun o3 => some (o3, RQ st er ea (if kd = 1 then 1 else 0) 1) else some (0, RQ st er ea (if kd = 1 then 1 else 0) 1)) = some (nm, RQ st er ea (if kd = 1 then 1 else 0) 1) ∧ f_X12_serviceNamed g nm = some on ∧ ((RQ st er ea (if kd = 1 then 1 else 0) 1).1 = 0 → on = oc ∧ (oc = -1 ∨ ∃ i : Nat, i < r ∧ oc.toInt = (i : Int))) := by
    by_cases hz : (RQ st er ea (if kd = 1 then 1 else 0) 1).1 = 0
    · obtain ⟨z1, z2⟩ := hq1 hz
      subst z2
      obtain ⟨-, -, -, m, hm1, hm2⟩ := kd1_at hT
      obtain ⟨o, e1, e2, e3⟩ := serviceNamed_same hR hN hm2
      rw [hoc] at e1
      cases e1
      refine ⟨m, oc, by rw [if_pos hz, hm1]; rfl, e2, fun _ => ⟨rfl, e3.imp id (fun ⟨i, x1, x2, _⟩ => ⟨i, x1, x2⟩)⟩⟩
    · obtain ⟨on, hon⟩ := serviceNamed_m (m := 0) hR
      exact ⟨0, on, if_neg hz, hon, fun z => absurd z hz⟩
  obtain ⟨nm, on, n1, n2, n3⟩ := hnm
  generalize hqq : RQ st er ea (if kd = 1 then 1 else 0) 1 = q at *
  have hsame : RQ st q.1 q.2 (if oc = -1 then 0 else 1) 4 = RQ st q.1 q.2 (if q.1 = 0 then (if on = -1 then 0 else 1) else 1) 4 := RQ_eq (fun z => by
    rw [if_pos z, (n3 z).1])
  have hok : (RQ st q.1 q.2 (if oc = -1 then 0 else 1) 4).1 = 0 → er = 0 ∧ on = oc ∧ ∃ i : Nat, i < r ∧ oc.toInt = (i : Int) := fun z => by
    obtain ⟨z1, z2⟩ := RQ_ok (by decide) z
    obtain ⟨z3, z4⟩ := n3 z1
    have z5 : ¬ oc = -1 := fun e => z2 (if_pos e)
    exact ⟨(hq1 z1).1, z3, z4.resolve_left z5⟩
  generalize hq2 : RQ st q.1 q.2 (if oc = -1 then 0 else 1) 4 = q2 at hsame hok
  obtain ⟨a', b', st', en', kd', va', tk', mv', lt', h1, h2, h3, h4, h5⟩ := next_same h hP q2.1
  refine ⟨a', b', st', en', kd', va', tk', mv', lt', q2.1, q2.2, oc, if q2.1 = 0 then on else 0, ?_, ?_, h3, h4, fun z => ⟨(hok z).1, h5 z, by rw [if_pos z]; exact (hok z).2.1, (hok z).2.2⟩⟩
  · simp only [f_X1_knownName_services, hoc, if_some, require_c, ob_some, hqq, hq2, h1]
  · have e1 : f_X12_nameHere st tk lt er ea mi = some (nm, q) := by
      unfold f_X12_nameHere
      rw [if_some, ← hj]
      show (f_X12_check st er ea (if kd = 1 then 1 else 0) 1).bind _ = _
      rw [check_m, hqq]
      exact n1
    unfold f_X12_serviceHere
    rw [e1]
    show (f_X12_serviceNamed g nm).bind _ = _
    rw [n2]
    show (f_X12_exists ml en st tk mv lt q.1 q.2 mi on).bind _ = _
    rw [exists_m hsame.symm h2]
    rfl

theorem ticketHere_same {n a b k tb mb r u s : Nat} {ic ml st en kd va tk mv lt rows : Int32} {ib mi T g : Nat → Int32} (h : INPn n ic ib ml mi) (hP : PST n mi a b st en kd va tk mv lt) (hT : TKT rows T g k) (hTI : TIN tb mb g r u s k) (hmb : mb < 100000000) (er ea : Int32) : ∃ (a' b' : Nat) (st' en' kd' va' tk' mv' lt' er' ea' oc om : Int32), f_X1_knownTicket st en kd va er ea ic ib rows T = some (oc, st', en', kd', va', er', ea') ∧ f_X12_ticketHere ml en st tk mv lt er ea g mi = some (om, en', st', tk', mv', lt', er', ea') ∧ PST n mi a' b' st' en' kd' va' tk' mv' lt' ∧ a ≤ a' ∧ (er' = 0 → er = 0 ∧ b ≤ a' ∧ om = oc ∧ ∃ i, i < k ∧ oc.toInt = ((i : Nat) : Int)) := by
  have hTo := hP.2.2
  have hj : (if kd = 2 then (1 : Int32) else 0) = (if tk = 2 then 1 else 0) := by
    by_cases hk : kd = 2
    · rw [if_pos hk, if_pos ((kd2 hTo).mp hk)]
    · rw [if_neg hk, if_neg (fun z => hk ((kd2 hTo).mpr z))]
  obtain ⟨oc, c1, c2, c3⟩ := find_all hT va
  have hq1 : (RQ st er ea (if kd = 2 then 1 else 0) 1).1 = 0 → er = 0 ∧ kd = 2 := fun z => by
    obtain ⟨z1, z2⟩ := RQ_ok (by decide) z
    exact ⟨z1, Classical.byContradiction fun hn => z2 (if_neg hn)⟩
  have hfind : kd = 2 → f_X12_find g mv = some oc := fun e => by
    subst e
    obtain ⟨-, d1, d2, ⟨d3, d4⟩ | ⟨d3, d4⟩⟩ := kd2_at hTo
    · rw [← d4]; exact c2
    · have hbig : ∀ (v o : Int32), 100000000 ≤ v.toInt → (o = -1 ∨ ∃ i : Nat, i < k ∧ o.toInt = (i : Int) ∧ g (103 + 10 * i) = v) → o = -1 := fun v o hv ho => by
        rcases ho with ho | ⟨i, hi, -, he⟩
        · exact ho
        · have h2 : (g (103 + 10 * i + 0)).toInt ≤ (mb : Int) := (hTI i hi).2.1
          have h3 : g (103 + 10 * i + 0) = v := he
          rw [h3] at h2
          omega
      obtain ⟨o, e1, e2, e3⟩ := find_all hT mv
      have e4 := hbig mv o d3 e3
      have e5 := hbig va oc (by rw [d4]; decide) c3
      rw [e2, e4, e5]
  generalize hqq : RQ st er ea (if kd = 2 then 1 else 0) 1 = q at *
  have hsame : RQ st q.1 q.2 (if oc = -1 then 0 else 1) 4 = RQ st q.1 q.2 (if q.1 = 0 then (if (if q.1 = 0 then oc else 0) = -1 then 0 else 1) else 1) 4 := RQ_eq (fun z => by
    rw [if_pos z, if_pos z])
  have hok : (RQ st q.1 q.2 (if oc = -1 then 0 else 1) 4).1 = 0 → er = 0 ∧ q.1 = 0 ∧ ∃ i : Nat, i < k ∧ oc.toInt = (i : Int) := fun z => by
    obtain ⟨z1, z2⟩ := RQ_ok (by decide) z
    have z5 : ¬ oc = -1 := fun e => z2 (if_pos e)
    obtain ⟨i, i1, i2, -⟩ := c3.resolve_left z5
    exact ⟨(hq1 z1).1, z1, i, i1, i2⟩
  generalize hq2 : RQ st q.1 q.2 (if oc = -1 then 0 else 1) 4 = q2 at hsame hok
  obtain ⟨a', b', st', en', kd', va', tk', mv', lt', h1, h2, h3, h4, h5⟩ := next_same h hP q2.1
  refine ⟨a', b', st', en', kd', va', tk', mv', lt', q2.1, q2.2, oc, if q2.1 = 0 then (if q.1 = 0 then oc else 0) else 0, ?_, ?_, h3, h4, fun z => ⟨(hok z).1, h5 z, by rw [if_pos z, if_pos (hok z).2.1], (hok z).2.2⟩⟩
  · simp only [f_X1_knownTicket, c1, if_some, require_c, ob_some, hqq, hq2, h1]
  · unfold f_X12_ticketHere
    rw [if_some, ← hj]
    show (f_X12_check st er ea (if kd = 2 then 1 else 0) 1).bind _ = _
    rw [check_m, hqq]
    show (if q.1 = 0 then (f_X12_find g mv).bind _ else (f_X12_exists ml en st tk mv lt q.1 q.2 mi 0).bind _) = _
    by_cases hz : q.1 = 0
    · rw [if_pos hz, hfind (hq1 hz).2]
      show (f_X12_exists ml en st tk mv lt q.1 q.2 mi oc).bind _ = _
      rw [if_pos hz] at hsame
      rw [if_pos hz, exists_m (by rw [if_pos hz]; rw [if_pos hz] at hsame; exact hsame.symm) h2]
      rfl
    · rw [if_neg hz] at hsame
      rw [if_neg hz, if_neg hz, exists_m (by rw [if_neg hz]; exact hsame.symm) h2]
      rfl

theorem newName_same {n a b r u s : Nat} {ic ml st en kd va tk mv lt Rr Ur Vr : Int32} {ib mi R U V g : Nat → Int32} (h : INPn n ic ib ml mi) (hP : PST n mi a b st en kd va tk mv lt) (hR : RLM Rr R g r) (hR2 : NMS 5 4 10 R g r) (hU : USR Ur U g u) (hU2 : NMS 5 5 55 U g u) (hS : SVC Vr V g s) (hS2 : NMS 3 3 85 V g s) (er ea : Int32) : ∃ (a' b' : Nat) (st' en' kd' va' tk' mv' lt' er' ea' om : Int32), f_X1_newName st en kd va er ea ic ib Rr R Ur U Vr V = some (va, st', en', kd', va', er', ea') ∧ f_X12_newName ml en st tk mv lt er ea g mi = some (om, en', st', tk', mv', lt', er', ea') ∧ PST n mi a' b' st' en' kd' va' tk' mv' lt' ∧ a ≤ a' ∧ (er' = 0 → er = 0 ∧ b ≤ a' ∧ NAME va om) := by
  have hT := hP.2.2
  have hj : (if kd = 1 then (1 : Int32) else 0) = (if tk = 3 then 1 else 0) := by
    by_cases hk : kd = 1
    · rw [if_pos hk, if_pos ((kd1 hT).mp hk)]
    · rw [if_neg hk, if_neg (fun z => hk ((kd1 hT).mpr z))]
  obtain ⟨oc, hoc⟩ := code_c (c := va) hR hU hS
  have hq1 : (RQ st er ea (if kd = 1 then 1 else 0) 1).1 = 0 → er = 0 ∧ kd = 1 := fun z => by
    obtain ⟨z1, z2⟩ := RQ_ok (by decide) z
    exact ⟨z1, Classical.byContradiction fun hn => z2 (if_neg hn)⟩
  have hnm : ∃ nm, (if (RQ st er ea (if kd = 1 then 1 else 0) 1).1 = 0 then (f_X12_nameFrom mi st lt).bind fun o4 => some o4 else some 0) = some nm ∧ ((RQ st er ea (if kd = 1 then 1 else 0) 1).1 = 0 → NMV va nm ∧ f_X12_named g nm = some oc) := by
    by_cases hz : (RQ st er ea (if kd = 1 then 1 else 0) 1).1 = 0
    · obtain ⟨z1, z2⟩ := hq1 hz
      subst z2
      obtain ⟨-, -, -, m, hm1, hm2⟩ := kd1_at hT
      obtain ⟨o, e1, e2, e3⟩ := code_same hR hR2 hU hU2 hS hS2 hm2
      rw [hoc] at e1
      cases e1
      exact ⟨m, by rw [if_pos hz, hm1]; rfl, fun _ => ⟨hm2, e2⟩⟩
    · exact ⟨0, if_neg hz, fun z => absurd z hz⟩
  obtain ⟨nm, n1, n2⟩ := hnm
  generalize hqq : RQ st er ea (if kd = 1 then 1 else 0) 1 = q at *
  have hs2 : RQ st q.1 q.2 (if va = 0 then 0 else 1) 2 = RQ st q.1 q.2 (if nm = -1 then 0 else 1) 2 := RQ_eq (fun z => by
    rcases (n2 z).1 with ⟨e1, e2⟩ | hN
    · rw [if_pos e1, if_pos e2]
    · have := NAME_pos hN
      have e1 : ¬ va = 0 := fun e => by rw [e] at this; exact absurd this.1 (by decide)
      have e2 : ¬ nm = -1 := fun e => by rw [e] at this; exact absurd this.2 (by decide)
      rw [if_neg e1, if_neg e2])
  have hok2 : (RQ st q.1 q.2 (if va = 0 then 0 else 1) 2).1 = 0 → q.1 = 0 ∧ NAME va nm := fun z => by
    obtain ⟨z1, z2⟩ := RQ_ok (by decide) z
    refine ⟨z1, ?_⟩
    rcases (n2 z1).1 with ⟨e1, e2⟩ | hN
    · exact absurd (if_pos e1) z2
    · exact hN
  generalize hq2 : RQ st q.1 q.2 (if va = 0 then 0 else 1) 2 = q2 at hs2 hok2
  have hnamed : ∃ j7, (if q2.1 = 0 then (f_X12_named g nm).bind fun o8 => (if o8 = -1 then some (1 : Int32) else some 0) else some 1) = some j7 ∧ (q2.1 = 0 → j7 = (if oc = -1 then 1 else 0)) := by
    by_cases hz : q2.1 = 0
    · refine ⟨if oc = -1 then 1 else 0, ?_, fun _ => rfl⟩
      rw [if_pos hz, (n2 (hok2 hz).1).2]
      show (if oc = -1 then some (1 : Int32) else some 0) = _
      rw [if_some]
    · exact ⟨1, if_neg hz, fun z => absurd z hz⟩
  obtain ⟨j7, m1, m2⟩ := hnamed
  have hs3 : RQ st q2.1 q2.2 (if oc = -1 then 1 else 0) 3 = RQ st q2.1 q2.2 j7 3 := RQ_eq (fun z => by rw [m2 z])
  have hok3 : (RQ st q2.1 q2.2 (if oc = -1 then 1 else 0) 3).1 = 0 → er = 0 ∧ NAME va nm := fun z => by
    obtain ⟨z1, z2⟩ := RQ_ok (by decide) z
    obtain ⟨z3, z4⟩ := hok2 z1
    exact ⟨(hq1 z3).1, z4⟩
  generalize hq3 : RQ st q2.1 q2.2 (if oc = -1 then 1 else 0) 3 = q3 at hs3 hok3
  obtain ⟨a', b', st', en', kd', va', tk', mv', lt', h1, h2, h3, h4, h5⟩ := next_same h hP q3.1
  refine ⟨a', b', st', en', kd', va', tk', mv', lt', q3.1, q3.2, nm, ?_, ?_, h3, h4, fun z => ⟨(hok3 z).1, h5 z, (hok3 z).2⟩⟩
  · simp only [f_X1_newName, hoc, if_some, require_c, ob_some, hqq, hq2, hq3, h1]
  · unfold f_X12_newName
    rw [if_some, ← hj]
    show (f_X12_check st er ea (if kd = 1 then 1 else 0) 1).bind _ = _
    rw [check_m, hqq]
    show ((if q.1 = 0 then (f_X12_nameFrom mi st lt).bind fun o4 => some o4 else some 0).bind _) = _
    rw [n1]
    show ((if nm = -1 then some (0 : Int32) else some 1).bind _) = _
    rw [if_some]
    show (f_X12_check st q.1 q.2 (if nm = -1 then 0 else 1) 2).bind _ = _
    rw [check_m, ← hs2]
    show ((if q2.1 = 0 then (f_X12_named g nm).bind fun o8 => (if o8 = -1 then some (1 : Int32) else some 0) else some 1).bind _) = _
    rw [m1]
    show (f_X12_check st q2.1 q2.2 j7 3).bind _ = _
    rw [check_m, ← hs3]
    show (f_X12_next ml en st tk mv lt q3.1 mi).bind _ = _
    rw [h2]
    rfl

