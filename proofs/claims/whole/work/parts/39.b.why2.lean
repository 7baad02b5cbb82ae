/-! PURE: the refusals of tickets. -/
theorem newEnd_m {x : Int32} {g : Nat → Int32} {i j : Nat} (hx : x.toInt = (i : Int)) (hi : i < 24) (hy : (g (103 + 10 * i + 3)).toInt = (j : Int)) (hj : j < 5) : f_X12_newEnd g x = some (imin (g 0 + g (10 + 4 * j + 1)) (g (103 + 10 * i + 7))) := by
  simp only [f_X12_newEnd, f_X12_ofTicket, f_X12_ofRealm, f_X12_lesser, ob_some, zM0, tM3 hx hi, rM1 hy hj, tM7 hx hi]
  unfold imin
  grind
theorem renewedEnd_c {Rr Tr x tm : Int32} {R T g : Nat → Int32} {r k i j : Nat} (hR : RLM Rr R g r) (hT : TKT Tr T g k) (h0 : g 0 = tm) (hx : x.toInt = (i : Int)) (hi : i < k) (hy : (g (103 + 10 * i + 3)).toInt = (j : Int)) (hj : j < r) : f_X5_renewedEnd tm Rr R Tr T x = some (imin (g 0 + g (10 + 4 * j + 1)) (g (103 + 10 * i + 7))) := by
  simp only [f_X5_renewedEnd, ob_some, tG3 hT hx hi, rG1 hR hy hj, tG7 hT hx hi, h0]
theorem lives_m {x : Int32} {g : Nat → Int32} {i : Nat} (hx : x.toInt = (i : Int)) (hi : i < 24) : f_X12_lives g x = some (alv (g (103 + 10 * i + 6)) (g 0)) := lives_at hx hi
theorem isSkewed_c {tol Rr Ur Tr x : Int32} {R U T g : Nat → Int32} {r u k i o j : Nat} (hR : RLM Rr R g r) (hU : USR Ur U g u) (hT : TKT Tr T g k) (h1 : g 1 = tol) (hx : x.toInt = (i : Int)) (hi : i < k) (ho : (g (103 + 10 * i + 2)).toInt = (o : Int)) (hou : o < u) (hy : (g (103 + 10 * i + 3)).toInt = (j : Int)) (hj : j < r) : f_X5_isSkewed tol Rr R Ur U Tr T x = some (if iabs (g (55 + 5 * o + 3) - g (10 + 4 * j + 3)) ≤ g 1 then 0 else 1) := by
  simp only [f_X5_isSkewed, ob_some, tG2 hT hx hi, tG3 hT hx hi, skew_c hU hR ho hou hy hj, h1]
  grind
theorem new_why {g : Nat → Int32} {x : Int32} {i o j : Nat} (hx : x.toInt = (i : Int)) (hi : i < 24) (ho : (g (103 + 10 * i + 2)).toInt = (o : Int)) (hou : o < 6) (hy : (g (103 + 10 * i + 3)).toInt = (j : Int)) (hj : j < 5) : f_X12_whyNotNew g x = some (if iabs (g (55 + 5 * o + 3) - g (10 + 4 * j + 3)) ≤ g 1 then (if g 6 = 24 then 5 else 0) else 4) := by
  simp only [f_X12_whyNotNew, f_X12_ofTicket, ob_some, tM2 hx hi, tM3 hx hi, isSkewed_m ho hou hy hj, zM6]
  grind
theorem refer_why {tm tol Rr Ur Tr x y : Int32} {R U T g : Nat → Int32} {tb mb r u s k i j : Nat} (hR : RLM Rr R g r) (hRT : TRU R g r) (hU : USR Ur U g u) (hT : TKT Tr T g k) (hTI : TIN tb mb g r u s k) (h0 : g 0 = tm) (h1 : g 1 = tol) (hx : x.toInt = (i : Int)) (hi : i < k) (hy : y.toInt = (j : Int)) (hj : j < r) : ∃ a, f_X5_whyNoReferral tm tol Rr R Ur U Tr T x y = some a ∧ f_X12_whyNotRefer g x y = some a := by
  obtain ⟨-, -, b1, b2, b3, b4, b5, -⟩ := hTI i hi
  obtain ⟨o, ho, hoe⟩ := nat_of b2 b3
  obtain ⟨m, hm, hme⟩ := nat_of b4 b5
  have hr := hR.2.1
  have hu := hU.2.1
  have hk := hT.2.1
  have hi24 : i < 24 := by omega
  have ho6 : o < 6 := by omega
  have hm5 : m < 5 := by omega
  have hj5 : j < 5 := by omega
  refine both_of ?_ ?_
  · simp only [f_X5_whyNoReferral, f_X12_whyNotRefer, f_X12_whyNotGate, f_X12_ofTicket, ob_some, tG1 hT hx hi, tM1 hx hi24, tG3 hT hx hi, tM3 hx hi24, alive_c hT hx hi, lives_m hx hi24, hasTrust_c hR hRT hme hm hy hj5, trusted_m hme hm5 hy hj5, isSkewed_c hR hU hT h1 hx hi hoe ho hme hm, new_why hx hi24 hoe ho6 hme hm5, full_at hT, alv_zero, h0]
    grind
  · simp only [f_X12_whyNotRefer, f_X12_whyNotGate, f_X12_ofTicket, ob_some, tM1 hx hi24, tM3 hx hi24, lives_m hx hi24, trusted_m hme hm5 hy hj5, new_why hx hi24 hoe ho6 hme hm5, alv_zero]
    grind
theorem request_why {tm tol Rr Ur Vr Tr x y : Int32} {R U V T g : Nat → Int32} {tb mb r u s s' k i j : Nat} (hR : RLM Rr R g r) (hU : USR Ur U g u) (hV : SVC Vr V g s) (hT : TKT Tr T g k) (hTI : TIN tb mb g r u s' k) (h0 : g 0 = tm) (h1 : g 1 = tol) (hx : x.toInt = (i : Int)) (hi : i < k) (hy : y.toInt = (j : Int)) (hj : j < s) : ∃ a, f_X5_whyNoRequest tm tol Rr R Ur U Vr V Tr T x y = some a ∧ f_X12_whyNotRequest g x y = some a := by
  obtain ⟨-, -, b1, b2, b3, b4, b5, -⟩ := hTI i hi
  obtain ⟨o, ho, hoe⟩ := nat_of b2 b3
  obtain ⟨m, hm, hme⟩ := nat_of b4 b5
  have hr := hR.2.1
  have hu := hU.2.1
  have hs := hV.2.1
  have hk := hT.2.1
  have hi24 : i < 24 := by omega
  have ho6 : o < 6 := by omega
  have hm5 : m < 5 := by omega
  have hj6 : j < 6 := by omega
  refine both_of ?_ ?_
  · simp only [f_X5_whyNoRequest, f_X12_whyNotRequest, f_X12_whyNotGate, f_X12_ofTicket, f_X12_ofService, ob_some, tG1 hT hx hi, tM1 hx hi24, tG3 hT hx hi, tM3 hx hi24, alive_c hT hx hi, lives_m hx hi24, vG1 hV hy hj, vM1 hy hj6, isSkewed_c hR hU hT h1 hx hi hoe ho hme hm, new_why hx hi24 hoe ho6 hme hm5, full_at hT, alv_zero, h0]
    grind
  · simp only [f_X12_whyNotRequest, f_X12_whyNotGate, f_X12_ofTicket, f_X12_ofService, ob_some, tM1 hx hi24, tM3 hx hi24, lives_m hx hi24, vM1 hy hj6, new_why hx hi24 hoe ho6 hme hm5, alv_zero]
    grind
theorem renew_why {tm Rr Tr x : Int32} {R T g : Nat → Int32} {tb mb r u s k i : Nat} (hR : RLM Rr R g r) (hT : TKT Tr T g k) (hTI : TIN tb mb g r u s k) (h0 : g 0 = tm) (hx : x.toInt = (i : Int)) (hi : i < k) : ∃ a, f_X5_whyNoRenewal tm Rr R Tr T x = some a ∧ f_X12_whyNotRenew g x = some a := by
  obtain ⟨-, -, b1, b2, b3, b4, b5, -⟩ := hTI i hi
  obtain ⟨m, hm, hme⟩ := nat_of b4 b5
  have hr := hR.2.1
  have hk := hT.2.1
  have hi24 : i < 24 := by omega
  have hm5 : m < 5 := by omega
  refine both_of ?_ ?_
  · simp only [f_X5_whyNoRenewal, f_X12_whyNotRenew, f_X7_canBeRenewed, f_X12_ofTicket, ob_some, tG9 hT hx hi, tM9 hx hi24, tG6 hT hx hi, tM6 hx hi24, alive_c hT hx hi, lives_m hx hi24, renewedEnd_c hR hT h0 hx hi hme hm, newEnd_m hx hi24 hme hm5, alv_zero, h0]
    grind
  · simp only [f_X12_whyNotRenew, f_X12_ofTicket, ob_some, tM9 hx hi24, tM6 hx hi24, lives_m hx hi24, newEnd_m hx hi24 hme hm5, alv_zero]
    grind
