/-! PURE: referrals, requests, renewals on both sides. -/
theorem login_ok {g : Nat → Int32} {x pw : Int32} {mb r u i : Nat} (hu : u ≤ 6) (hr : r ≤ 5) (hUI : UIN mb g r u) (hx : x.toInt = (i : Int)) (hi : i < u) (h : f_X12_whyNotLogin g x pw = some 0) : ¬ g 6 = 24 := by
  obtain ⟨b1, b2, -⟩ := hUI i hi
  obtain ⟨m, hm, hme⟩ := nat_of b1 b2
  have hi6 : i < 6 := by omega
  have hh5 : m < 5 := by omega
  simp only [f_X12_whyNotLogin, f_X12_ofUser, ob_some, uM2 hx hi6, uM1 hx hi6, isSkewed_m hx hi6 hme hh5, zM6] at h
  clear hUI b1 b2
  intro hf
  rw [if_pos hf] at h
  repeat' split at h
  all_goals exact absurd (Option.some.inj h) (by decide)
theorem refer_ok {g : Nat → Int32} {x y : Int32} {tb mb r u s k i j : Nat} (hr : r ≤ 5) (hu : u ≤ 6) (hk : k ≤ 24) (hTI : TIN tb mb g r u s k) (hx : x.toInt = (i : Int)) (hi : i < k) (hy : y.toInt = (j : Int)) (hj : j < r) (h : f_X12_whyNotRefer g x y = some 0) : ¬ g 6 = 24 := by
  obtain ⟨-, -, b1, b2, b3, b4, b5, -⟩ := hTI i hi
  obtain ⟨o, ho, hoe⟩ := nat_of b2 b3
  obtain ⟨m, hm, hme⟩ := nat_of b4 b5
  have hi24 : i < 24 := by omega
  have ho6 : o < 6 := by omega
  have hm5 : m < 5 := by omega
  have hj5 : j < 5 := by omega
  simp only [f_X12_whyNotRefer, f_X12_whyNotGate, f_X12_ofTicket, ob_some, tM1 hx hi24, tM3 hx hi24, lives_m hx hi24, trusted_m hme hm5 hy hj5, new_why hx hi24 hoe ho6 hme hm5, alv_zero] at h
  intro hf
  rw [if_pos hf] at h
  repeat' split at h
  all_goals exact absurd (Option.some.inj h) (by decide)
theorem request_ok {g : Nat → Int32} {x y : Int32} {tb mb r u s s' k i j : Nat} (hr : r ≤ 5) (hu : u ≤ 6) (hs : s ≤ 6) (hk : k ≤ 24) (hTI : TIN tb mb g r u s' k) (hx : x.toInt = (i : Int)) (hi : i < k) (hy : y.toInt = (j : Int)) (hj : j < s) (h : f_X12_whyNotRequest g x y = some 0) : ¬ g 6 = 24 ∧ g (103 + 10 * i + 3) = g (85 + 3 * j + 1) := by
  obtain ⟨-, -, b1, b2, b3, b4, b5, -⟩ := hTI i hi
  obtain ⟨o, ho, hoe⟩ := nat_of b2 b3
  obtain ⟨m, hm, hme⟩ := nat_of b4 b5
  have hi24 : i < 24 := by omega
  have ho6 : o < 6 := by omega
  have hm5 : m < 5 := by omega
  have hj6 : j < 6 := by omega
  simp only [f_X12_whyNotRequest, f_X12_whyNotGate, f_X12_ofTicket, f_X12_ofService, ob_some, tM1 hx hi24, tM3 hx hi24, lives_m hx hi24, vM1 hy hj6, new_why hx hi24 hoe ho6 hme hm5, alv_zero] at h
  refine ⟨fun hf => ?_, Classical.byContradiction fun he => ?_⟩
  · rw [if_pos hf] at h
    repeat' split at h
    all_goals exact absurd (Option.some.inj h) (by decide)
  · rw [if_neg he] at h
    repeat' split at h
    all_goals exact absurd (Option.some.inj h) (by decide)
