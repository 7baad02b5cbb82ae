theorem wt_0 : Cond.methodLink RL 33 yL_offset ∈ Wg := t6_in (List.mem_of_getElem? (i := 208) rfl) rfl
theorem wt_1 : Cond.static yL_offset ∈ Wg := t4_in (List.mem_of_getElem? (i := 140) rfl) rfl
theorem wt_2 : Cond.initialized RL ∈ Wg := t1_in (List.mem_of_getElem? (i := 0) rfl) rfl
theorem wt_3 : Cond.code yL_offset cL_offset 1 (some .int) ∈ Wg := t4_in (List.mem_of_getElem? (i := 141) rfl) rfl
theorem wt_4 : Cond.lays RJ4 "java/lang/AbstractStringBuilder" "value" "[B" ∈ Wg := t6_in (List.mem_of_getElem? (i := 157) rfl) rfl
theorem wt_5 : Cond.lays RJ4 "java/lang/AbstractStringBuilder" "coder" "B" ∈ Wg := t6_in (List.mem_of_getElem? (i := 159) rfl) rfl
theorem wt_6 : Cond.lays RJ4 "java/lang/AbstractStringBuilder" "maybeLatin1" "Z" ∈ Wg := t6_in (List.mem_of_getElem? (i := 161) rfl) rfl
theorem wt_7 : Cond.lays RJ4 "java/lang/AbstractStringBuilder" "count" "I" ∈ Wg := t6_in (List.mem_of_getElem? (i := 163) rfl) rfl
theorem wt_8 : Cond.classLink RL 40 RJ4 ∈ Wg := t6_in (List.mem_of_getElem? (i := 33) rfl) rfl
theorem wt_9 : Cond.instantiable RJ4 4 ∈ Wg := t6_in (List.mem_of_getElem? (i := 34) rfl) rfl
theorem wt_10 : Cond.initialized RJ4 ∈ Wg := t1_in (List.mem_of_getElem? (i := 19) rfl) rfl
theorem wt_11 : Cond.code yJ4_init_da8c8 cJ4_init_da8c8 1 none ∈ Wg := t6_in (List.mem_of_getElem? (i := 212) rfl) rfl
theorem wt_12 : Cond.methodLink RL 42 yJ4_init_da8c8 ∈ Wg := t6_in (List.mem_of_getElem? (i := 210) rfl) rfl
theorem wt_13 : Cond.instanceMethod yJ4_init_da8c8 ∈ Wg := t6_in (List.mem_of_getElem? (i := 211) rfl) rfl
theorem wt_14 : Cond.methodLink RL 45 yJ4_append_15ec4 ∈ Wg := t6_in (List.mem_of_getElem? (i := 204) rfl) rfl
theorem wt_15 : Cond.instanceMethod yJ4_append_15ec4 ∈ Wg := t6_in (List.mem_of_getElem? (i := 61) rfl) rfl
theorem wt_16 : Cond.selects RJ4 yJ4_append_15ec4 yJ4_append_15ec4 ∈ Wg := t6_in (List.mem_of_getElem? (i := 62) rfl) rfl
theorem wt_17 : Cond.code yJ4_append_15ec4 cJ4_append_15ec4 2 (some (.object "java/lang/StringBuilder")) ∈ Wg := t6_in (List.mem_of_getElem? (i := 63) rfl) rfl
theorem wt_18 : Cond.methodLink RL 49 yJ4_append_bf812 ∈ Wg := t6_in (List.mem_of_getElem? (i := 165) rfl) rfl
theorem wt_19 : Cond.instanceMethod yJ4_append_bf812 ∈ Wg := t6_in (List.mem_of_getElem? (i := 166) rfl) rfl
theorem wt_20 : Cond.selects RJ4 yJ4_append_bf812 yJ4_append_bf812 ∈ Wg := t6_in (List.mem_of_getElem? (i := 167) rfl) rfl
theorem wt_21 : Cond.code yJ4_append_bf812 cJ4_append_bf812 2 (some (.object "java/lang/StringBuilder")) ∈ Wg := t6_in (List.mem_of_getElem? (i := 168) rfl) rfl
theorem wt_22 : Cond.methodLink RL 54 yJ4_toString_0e30d ∈ Wg := t6_in (List.mem_of_getElem? (i := 218) rfl) rfl
theorem wt_23 : Cond.instanceMethod yJ4_toString_0e30d ∈ Wg := t6_in (List.mem_of_getElem? (i := 219) rfl) rfl
theorem wt_24 : Cond.selects RJ4 yJ4_toString_0e30d yJ4_toString_0e30d ∈ Wg := t6_in (List.mem_of_getElem? (i := 220) rfl) rfl
theorem wt_25 : Cond.code yJ4_toString_0e30d cJ4_toString_0e30d 1 (some (.object "java/lang/String")) ∈ Wg := t6_in (List.mem_of_getElem? (i := 221) rfl) rfl
theorem wt_26 : Cond.methodLink RL 60 yL_cell ∈ Wg := t4_in (List.mem_of_getElem? (i := 209) rfl) rfl
theorem wt_27 : Cond.static yL_cell ∈ Wg := t4_in (List.mem_of_getElem? (i := 136) rfl) rfl
theorem wt_28 : Cond.code yL_cell cL_cell 2 (some .int) ∈ Wg := t4_in (List.mem_of_getElem? (i := 137) rfl) rfl
theorem wt_29 : Cond.methodLink RL 69 yJ4_append_cf468 ∈ Wg := t6_in (List.mem_of_getElem? (i := 190) rfl) rfl
theorem wt_30 : Cond.instanceMethod yJ4_append_cf468 ∈ Wg := t6_in (List.mem_of_getElem? (i := 191) rfl) rfl
theorem wt_31 : Cond.selects RJ4 yJ4_append_cf468 yJ4_append_cf468 ∈ Wg := t6_in (List.mem_of_getElem? (i := 192) rfl) rfl
theorem wt_32 : Cond.code yJ4_append_cf468 cJ4_append_cf468 2 (some (.object "java/lang/StringBuilder")) ∈ Wg := t6_in (List.mem_of_getElem? (i := 193) rfl) rfl
theorem wt_33 : Cond.methodLink RL 74 yL_clock ∈ Wg := t6_in (List.mem_of_getElem? (i := 205) rfl) rfl
theorem wt_34 : Cond.static yL_clock ∈ Wg := t6_in (List.mem_of_getElem? (i := 206) rfl) rfl
theorem wt_35 : Cond.code yL_clock cL_clock 1 (some (.object "java/lang/String")) ∈ Wg := t6_in (List.mem_of_getElem? (i := 207) rfl) rfl
theorem wt_36 : Cond.laysFinal RJ0 "java/lang/String" "value" "[B" ∈ Wg := t7_in (List.mem_of_getElem? (i := 34) rfl) rfl
theorem wt_37 : Cond.laysFinal RJ0 "java/lang/String" "coder" "B" ∈ Wg := t7_in (List.mem_of_getElem? (i := 36) rfl) rfl
theorem wt_38 : Cond.lays RJ0 "java/lang/String" "hash" "I" ∈ Wg := t7_in (List.mem_of_getElem? (i := 38) rfl) rfl
theorem wt_39 : Cond.lays RJ0 "java/lang/String" "hashIsZero" "Z" ∈ Wg := t7_in (List.mem_of_getElem? (i := 40) rfl) rfl
theorem wt_40 : Cond.methodLink RL 78 yL_isTrusted ∈ Wg := t7_in (List.mem_of_getElem? (i := 44) rfl) rfl
theorem wt_41 : Cond.static yL_isTrusted ∈ Wg := t4_in (List.mem_of_getElem? (i := 207) rfl) rfl
theorem wt_42 : Cond.code yL_isTrusted cL_isTrusted 3 (some .boolean) ∈ Wg := t4_in (List.mem_of_getElem? (i := 208) rfl) rfl
theorem wt_43 : Cond.methodLink RL 86 yL_password ∈ Wg := t7_in (List.mem_of_getElem? (i := 47) rfl) rfl
theorem wt_44 : Cond.static yL_password ∈ Wg := t7_in (List.mem_of_getElem? (i := 48) rfl) rfl
theorem wt_45 : Cond.code yL_password cL_password 2 (some .int) ∈ Wg := t7_in (List.mem_of_getElem? (i := 49) rfl) rfl
theorem wt_46 : Cond.code yJ4_init_a7421 cJ4_init_a7421 2 none ∈ Wg := t6_in (List.mem_of_getElem? (i := 38) rfl) rfl
theorem wt_47 : Cond.methodLink RL 66 yJ4_init_a7421 ∈ Wg := t6_in (List.mem_of_getElem? (i := 36) rfl) rfl
theorem wt_48 : Cond.instanceMethod yJ4_init_a7421 ∈ Wg := t6_in (List.mem_of_getElem? (i := 37) rfl) rfl
theorem layt_J4 : ∀ k, k < 4 → u_lay RJ4 TJ4 k ∈ Wg := fun k hk => match k, hk with
  | 0, _ => wt_4
  | 1, _ => wt_5
  | 2, _ => wt_6
  | 3, _ => wt_7
  | k + 4, h => absurd h (by omega)
theorem layt_J0 : ∀ k, k < 4 → u_lay RJ0 TJ0 k ∈ Wg := fun k hk => match k, hk with
  | 0, _ => wt_36
  | 1, _ => wt_37
  | 2, _ => wt_38
  | 3, _ => wt_39
  | k + 4, h => absurd h (by omega)
/-! The law's text, built letter by letter. -/
def kEven : List Nat := [32, 101, 118, 101, 110, 59]
theorem kEven_len : kEven.length = 6 := rfl
theorem kEven_lt : ∀ x ∈ kEven, x < 128 := by decide
theorem kEven_js : 22 < nJS ∧ bytJS.getD 22 [] = kEven.map nI ∧ lenJS.getD 22 0 = kEven.length := by decide +kernel
def kFast : List Nat := [32, 102, 97, 115, 116, 32]
theorem kFast_len : kFast.length = 6 := rfl
theorem kFast_lt : ∀ x ∈ kFast, x < 128 := by decide
theorem kFast_js : 23 < nJS ∧ bytJS.getD 23 [] = kFast.map nI ∧ lenJS.getD 23 0 = kFast.length := by decide +kernel
def kSlow : List Nat := [32, 115, 108, 111, 119, 32]
theorem kSlow_len : kSlow.length = 6 := rfl
theorem kSlow_lt : ∀ x ∈ kSlow, x < 128 := by decide
theorem kSlow_js : 25 < nJS ∧ bytJS.getD 25 [] = kSlow.map nI ∧ lenJS.getD 25 0 = kSlow.length := by decide +kernel
def kSemi : List Nat := [59]
theorem kSemi_len : kSemi.length = 1 := rfl
theorem kSemi_lt : ∀ x ∈ kSemi, x < 128 := by decide
theorem kSemi_js : 24 < nJS ∧ bytJS.getD 24 [] = kSemi.map nI ∧ lenJS.getD 24 0 = kSemi.length := by decide +kernel
def kGate : List Nat := [103, 97, 116, 101, 32]
theorem kGate_len : kGate.length = 5 := rfl
theorem kGate_lt : ∀ x ∈ kGate, x < 128 := by decide
theorem kGate_js : 26 < nJS ∧ bytJS.getD 26 [] = kGate.map nI ∧ lenJS.getD 26 0 = kGate.length := by decide +kernel
def kRealm : List Nat := [114, 101, 97, 108, 109, 32]
theorem kRealm_len : kRealm.length = 6 := rfl
theorem kRealm_lt : ∀ x ∈ kRealm, x < 128 := by decide
theorem kRealm_js : 27 < nJS ∧ bytJS.getD 27 [] = kRealm.map nI ∧ lenJS.getD 27 0 = kRealm.length := by decide +kernel
def kTrust : List Nat := [116, 114, 117, 115, 116, 32]
theorem kTrust_len : kTrust.length = 6 := rfl
theorem kTrust_lt : ∀ x ∈ kTrust, x < 128 := by decide
theorem kTrust_js : 28 < nJS ∧ bytJS.getD 28 [] = kTrust.map nI ∧ lenJS.getD 28 0 = kTrust.length := by decide +kernel
def kUser : List Nat := [117, 115, 101, 114, 32]
theorem kUser_len : kUser.length = 5 := rfl
theorem kUser_lt : ∀ x ∈ kUser, x < 128 := by decide
theorem kUser_js : 29 < nJS ∧ bytJS.getD 29 [] = kUser.map nI ∧ lenJS.getD 29 0 = kUser.length := by decide +kernel
def kServ : List Nat := [115, 101, 114, 118, 105, 99, 101, 32]
theorem kServ_len : kServ.length = 8 := rfl
theorem kServ_lt : ∀ x ∈ kServ, x < 128 := by decide
theorem kServ_js : 30 < nJS ∧ bytJS.getD 30 [] = kServ.map nI ∧ lenJS.getD 30 0 = kServ.length := by decide +kernel
theorem vs_const {sk sv : Nat → Nat} {A : Nat → Prop} {U : State} {H : Heap} {i : Nat} {M : List Nat} (hU : vU sk sv A U H) (h : i < nJS ∧ bytJS.getD i [] = M.map nI ∧ lenJS.getD i 0 = M.length) : vStr (sk i) (sv i) M.length (fun j => nI (M.getD j 0)) A U H := by
  have h9 := hU.1.1 i h.1
  rw [h.2.1, h.2.2] at h9
  refine vStr.to h9 (fun j hj => ?_)
  rw [List.getD_eq_getElem?_getD, List.getD_eq_getElem?_getD, List.getElem?_map, List.getElem?_eq_getElem hj]
  rfl
/-- a clock in letters: n is the drawn number -/
def clkT (n : Nat) : List Nat := if n % 7 = 3 then kEven else if 3 < n % 7 then (kFast ++ dgs (n % 7 - 3)) ++ kSemi else (kSlow ++ dgs (3 - n % 7)) ++ kSemi
theorem clkT_len (n : Nat) : (clkT n).length ≤ 11 := by
  unfold clkT
  have h1 := dgs_len (x := n % 7 - 3)
  have h2 := dgs_len (x := 3 - n % 7)
  split
  · rw [kEven_len]; omega
  · split
    · simp only [List.length_append, kFast_len, kSemi_len]; omega
    · simp only [List.length_append, kSlow_len, kSemi_len]; omega
theorem clkT_lt (n : Nat) : ∀ x ∈ clkT n, x < 128 := by
  intro x hx
  unfold clkT at hx
  split at hx
  · exact kEven_lt x hx
  · split at hx
    · rcases List.mem_append.mp hx with h | h
      · rcases List.mem_append.mp h with h | h
        · exact kFast_lt x h
        · exact dgs_lt (by omega) x h
      · exact kSemi_lt x h
    · rcases List.mem_append.mp hx with h | h
      · rcases List.mem_append.mp h with h | h
        · exact kSlow_lt x h
        · exact dgs_lt (by omega) x h
      · exact kSemi_lt x h
theorem chr_nI : ∀ c, c < 256 → ((nI c).toUInt32 % 65536).toInt32 = nI c := fun c hc => (sb_byte c hc).2.1
set_option maxRecDepth 100000 in
set_option maxHeartbeats 4000000 in
theorem c_clockE (l : Launch) {G : (Nat → Prop) → State → Heap → Prop} (hG : vG G) (D : va_G) (c9 : Nat → ClassId) {sk sv : Nat → Nat} (hGU : ∀ (A : Nat → Prop) (U : State) (H : Heap), G A U H → vU sk sv A U H) {n : Nat} (hn : n < 2 ^ 31) (h : n % 7 = 3) {F : va_W} : mR (S := Unit) l yL_clock (wq yL_clock cL_clock 1 (some (.object "java/lang/String"))) { frames := 6, cells := 7, slots := 3508, locals := 171 } G D (tyA c9) [.int (nI n)] (([] : va_W) ++ F) 7 3508 (fun _ => True) (fun _ => sk 22) (fun _ => ([] : va_W) ++ F) := by
  refine mR_of hG (cc := cL_clock) (maxL := 1) (ty := (.object "java/lang/String")) (by decide) rfl (Nat.le_of_ble_eq_true rfl) ?_
  intro p e s m args below meth c A X
  have X : vX p s m args meth c cL_clock 1 (some (.object "java/lang/String")) RL (wq yL_clock cL_clock 1 (some (.object "java/lang/String"))) D (tyA c9) G A := X
  refine v_eq (lv2 := [(0, .int (nI n))]) rfl rfl rfl rfl ?_
  refine v_iload_n X dL_clock_0 0 rfl rfl 1 rfl ?_
  refine v_callZi X (As := [.int (nI n)]) (rest := []) (c_offset l hG D c9 hGU hn) 1 (gS wt_0 wt_1 wt_2 wt_3) rfl rfl rfl (by decide +kernel) ⟨Nat.le_of_ble_eq_true rfl, Nat.le_of_ble_eq_true rfl⟩ rfl rfl (Nat.le_of_ble_eq_true rfl) ⟨(by first | exact Nat.le_of_ble_eq_true rfl | omega | (dsimp only; omega)), (by first | exact Nat.le_of_ble_eq_true rfl | omega | (dsimp only; omega))⟩ dL_clock_1 4 rfl ?_
  refine v_if_ne X (tgt := 12) dL_clock_4 rfl 7 rfl (a := none) (b := some ()) (o := ()) (by rw [h]; exact if_pos rfl) (fun h => nomatch h) (fun _ => ?_)
  refine v_lds X hGU (i := 22) dL_clock_7 js_RL_38 9 rfl ?_
  refine v_goto X (tgt := 77) dL_clock_9 rfl ?_
  exact v_rret () trivial rfl (List.Perm.refl _) X (Or.inl ⟨_, rfl⟩) (by first | exact Nat.le_of_ble_eq_true rfl | omega | (dsimp only; omega)) (by first | exact Nat.le_of_ble_eq_true rfl | omega | (dsimp only; omega)) dL_clock_77
theorem off_zero {n : Nat} (hn : n < 2 ^ 31) (z : nI (n % 7) - 3 = 0) : n % 7 = 3 := by
  have h7 : ∀ k, k < 7 → nI k - 3 = 0 → k = 3 := by decide +kernel
  exact h7 _ (Nat.mod_lt _ (by decide)) z
theorem off_le {n : Nat} : nI (n % 7) - 3 ≤ 0 ↔ n % 7 ≤ 3 := by
  have h7 : ∀ k, k < 7 → (nI k - 3 ≤ 0 ↔ k ≤ 3) := by decide +kernel
  exact h7 _ (Nat.mod_lt _ (by decide))
theorem off_neg {n : Nat} (h : n % 7 ≤ 3) : -(nI (n % 7) - 3) = nI (3 - n % 7) := by
  have h7 : ∀ k, k < 7 → k ≤ 3 → -(nI k - 3) = nI (3 - k) := by decide +kernel
  exact h7 _ (Nat.mod_lt _ (by decide)) h
set_option maxRecDepth 100000 in
set_option maxHeartbeats 4000000 in
theorem c_clockB (l : Launch) {G : (Nat → Prop) → State → Heap → Prop} (hG : vG G) (D : va_G) (c9 : Nat → ClassId) {sk sv : Nat → Nat} (hGU : ∀ (A : Nat → Prop) (U : State) (H : Heap), G A U H → vU sk sv A U H) (hGV : ∀ (A : Nat → Prop) (U : State) (H : Heap), G A U H → vV A U H) {n : Nat} (hn : n < 2 ^ 31) (h : ¬ n % 7 = 3) {F : va_W} : mR (S := Nat × Nat × (Nat → Int32)) l yL_clock (wq yL_clock cL_clock 1 (some (.object "java/lang/String"))) { frames := 6, cells := 7, slots := 3508, locals := 171 } G D (tyA c9) [.int (nI n)] (([] : va_W) ++ F) 7 3508 (fun u => sb_Fit u.2.2 ∧ ∀ j, j < (clkT n).length → u.2.2 j = nI ((clkT n).getD j 0)) (fun u => u.1) (fun u => F ++ wStr c9 u.1 u.2.1 (clkT n).length u.2.2) := by
  refine mR_of hG (cc := cL_clock) (maxL := 1) (ty := (.object "java/lang/String")) (by decide) rfl (Nat.le_of_ble_eq_true rfl) ?_
  intro p e s m args below meth c A X
  have X : vX p s m args meth c cL_clock 1 (some (.object "java/lang/String")) RL (wq yL_clock cL_clock 1 (some (.object "java/lang/String"))) D (tyA c9) G A := X
  refine v_eq (lv2 := [(0, .int (nI n))]) rfl rfl rfl rfl ?_
  by_cases h2 : 3 < n % 7
  · refine v_iload_n X dL_clock_0 0 rfl rfl 1 rfl ?_
    refine v_callZi X (As := [.int (nI n)]) (rest := []) (c_offset l hG D c9 hGU hn) 1 (gS wt_0 wt_1 wt_2 wt_3) rfl rfl rfl (by decide +kernel) ⟨Nat.le_of_ble_eq_true rfl, Nat.le_of_ble_eq_true rfl⟩ rfl rfl (Nat.le_of_ble_eq_true rfl) ⟨(by first | exact Nat.le_of_ble_eq_true rfl | omega | (dsimp only; omega)), (by first | exact Nat.le_of_ble_eq_true rfl | omega | (dsimp only; omega))⟩ dL_clock_1 4 rfl ?_
    refine v_if_ne X (tgt := 12) dL_clock_4 rfl 7 rfl (a := some ()) (b := none) (o := ()) (if_neg (show ¬ nI (n % 7) - 3 = 0 from fun z => h (off_zero hn z))) (fun _ => ?_) (fun h => nomatch h)
    refine v_iload_n X dL_clock_12 0 rfl rfl 13 rfl ?_
    refine v_callZi X (As := [.int (nI n)]) (rest := []) (c_offset l hG D c9 hGU hn) 1 (gS wt_0 wt_1 wt_2 wt_3) rfl rfl rfl (by decide +kernel) ⟨Nat.le_of_ble_eq_true rfl, Nat.le_of_ble_eq_true rfl⟩ rfl rfl (Nat.le_of_ble_eq_true rfl) ⟨(by first | exact Nat.le_of_ble_eq_true rfl | omega | (dsimp only; omega)), (by first | exact Nat.le_of_ble_eq_true rfl | omega | (dsimp only; omega))⟩ dL_clock_13 16 rfl ?_
    refine v_if_le X (tgt := 49) dL_clock_16 rfl 19 rfl (a := none) (b := some ()) (o := ()) (if_neg (show ¬ nI (n % 7) - 3 ≤ 0 from fun z => absurd (off_le.mp z) (by omega))) (fun h => nomatch h) (fun _ => ?_)
    refine v_new X (C := RJ4) (T := TJ4) (N := 4) (ci := 1) (fs := [.null, .int 0, .int 0, .int 0]) dL_clock_19 (lay_of layt_J4) tyJ4 tyJ4_ok (mw wt_8) (mw wt_9) (mw wt_10) rfl (fun j hj => match j, hj with | 0, _ => rfl | 1, _ => rfl | 2, _ => rfl | 3, _ => rfl | z + 4, h => absurd h (by omega)) (by first | exact Nat.le_of_ble_eq_true rfl | omega | (dsimp only; omega)) (by first | exact Nat.le_of_ble_eq_true rfl | omega | (dsimp only; omega)) 22 rfl (fun a => ?_)
    refine v_eq (ws2 := [(a, .inr (1, [.null, .int 0, .int 0, .int 0]))]) (st2 := [.ref a]) rfl rfl rfl rfl ?_
    refine v_dup X dL_clock_22 rfl 23 rfl ?_
    refine v_gn X (S := SBt) (ws' := fun u1 => SBx c9 a ([] : List Nat) u1) (F' := fun u1 => F) (r_I X (As := []) (rest := [.ref a]) (r_pc X) (c_SBinit l hG D c9 hGU (a := a)) 0 (wg_sub _ wt_11 _) rfl rfl rfl (mw wt_10) (mw wt_12) (mw wt_13) rfl (by decide +kernel) ⟨Nat.le_of_ble_eq_true rfl, Nat.le_of_ble_eq_true rfl⟩ rfl rfl (Nat.le_of_ble_eq_true rfl) ⟨(by first | exact Nat.le_of_ble_eq_true rfl | omega | (dsimp only; omega)), (by first | exact Nat.le_of_ble_eq_true rfl | omega | (dsimp only; omega))⟩ dL_clock_23) (fun _ => rfl) 26 rfl (fun u1 hu1 => ?_)
    refine v_lds X hGU (i := 23) dL_clock_26 js_RL_43 28 rfl ?_
    refine v_gr X (S := SBt) (ws' := fun u2 => SBx c9 a (([] : List Nat) ++ kFast) u2) (F' := fun u2 => F) (r_V X (C := RJ4) (As := [.ref (sk 23)]) (rest := []) (r_pc X) (c_append l hG D c9 hGU (fun A U H h => vs_const (hGU A U H h) kFast_js) (by decide) kFast_lt (L := ([] : List Nat)) hu1 (by simp only [List.length_append, List.length_cons, List.length_nil, kEven_len, kFast_len, kSlow_len, kSemi_len, kGate_len, kRealm_len, kTrust_len, kUser_len, kServ_len]; omega)) 1 (gV wt_14 wt_15 wt_16 wt_10 wt_17) rfl rfl rfl ⟨rfl, by decide +kernel⟩ ⟨Nat.le_of_ble_eq_true rfl, Nat.le_of_ble_eq_true rfl⟩ (r_recv X 0 rfl rfl) rfl rfl (Nat.le_of_ble_eq_true rfl) ⟨(by first | exact Nat.le_of_ble_eq_true rfl | omega | (dsimp only; omega)), (by first | exact Nat.le_of_ble_eq_true rfl | omega | (dsimp only; omega))⟩ dL_clock_28) (fun _ => rfl) 31 rfl (fun u2 hu2 => ?_)
    refine v_iload_n X dL_clock_31 0 rfl rfl 32 rfl ?_
    refine v_callZi X (As := [.int (nI n)]) (rest := [.ref a]) (c_offset l hG D c9 hGU hn) 1 (gS wt_0 wt_1 wt_2 wt_3) rfl rfl rfl (by decide +kernel) ⟨Nat.le_of_ble_eq_true rfl, Nat.le_of_ble_eq_true rfl⟩ rfl rfl (Nat.le_of_ble_eq_true rfl) ⟨(by first | exact Nat.le_of_ble_eq_true rfl | omega | (dsimp only; omega)), (by first | exact Nat.le_of_ble_eq_true rfl | omega | (dsimp only; omega))⟩ dL_clock_32 35 rfl ?_
    rw [show nI (n % 7) - 3 = nI (n % 7 - 3) from pk_sub (a := n % 7) (b := 3) (by omega)]
    refine v_gr X (S := SBt) (ws' := fun u3 => SBx c9 a ((([] : List Nat) ++ kFast) ++ (dgs (n % 7 - 3))) u3) (F' := fun u3 => F) (r_V X (C := RJ4) (As := [.int (nI (n % 7 - 3))]) (rest := []) (r_pc X) (c_appendI l hG D c9 hGU hGV (x := (n % 7 - 3)) (by omega) (L := (([] : List Nat) ++ kFast)) hu2 (by have hd3 := dgs_len (x := (n % 7 - 3)); simp only [List.length_append, List.length_cons, List.length_nil, kEven_len, kFast_len, kSlow_len, kSemi_len, kGate_len, kRealm_len, kTrust_len, kUser_len, kServ_len]; omega)) 1 (gV wt_18 wt_19 wt_20 wt_10 wt_21) rfl rfl rfl ⟨rfl, by decide +kernel⟩ ⟨Nat.le_of_ble_eq_true rfl, Nat.le_of_ble_eq_true rfl⟩ (r_recv X 0 rfl rfl) rfl rfl (Nat.le_of_ble_eq_true rfl) ⟨(by first | exact Nat.le_of_ble_eq_true rfl | omega | (dsimp only; omega)), (by first | exact Nat.le_of_ble_eq_true rfl | omega | (dsimp only; omega))⟩ dL_clock_35) (fun _ => rfl) 38 rfl (fun u3 hu3 => ?_)
    refine v_lds X hGU (i := 24) dL_clock_38 js_RL_52 40 rfl ?_
    refine v_gr X (S := SBt) (ws' := fun u4 => SBx c9 a (((([] : List Nat) ++ kFast) ++ (dgs (n % 7 - 3))) ++ kSemi) u4) (F' := fun u4 => F) (r_V X (C := RJ4) (As := [.ref (sk 24)]) (rest := []) (r_pc X) (c_append l hG D c9 hGU (fun A U H h => vs_const (hGU A U H h) kSemi_js) (by decide) kSemi_lt (L := ((([] : List Nat) ++ kFast) ++ (dgs (n % 7 - 3)))) hu3 (by have hd3 := dgs_len (x := (n % 7 - 3)); simp only [List.length_append, List.length_cons, List.length_nil, kEven_len, kFast_len, kSlow_len, kSemi_len, kGate_len, kRealm_len, kTrust_len, kUser_len, kServ_len]; omega)) 1 (gV wt_14 wt_15 wt_16 wt_10 wt_17) rfl rfl rfl ⟨rfl, by decide +kernel⟩ ⟨Nat.le_of_ble_eq_true rfl, Nat.le_of_ble_eq_true rfl⟩ (r_recv X 0 rfl rfl) rfl rfl (Nat.le_of_ble_eq_true rfl) ⟨(by first | exact Nat.le_of_ble_eq_true rfl | omega | (dsimp only; omega)), (by first | exact Nat.le_of_ble_eq_true rfl | omega | (dsimp only; omega))⟩ dL_clock_40) (fun _ => rfl) 43 rfl (fun u4 hu4 => ?_)
    refine v_gr X (S := Nat × Nat × (Nat → Int32)) (ws' := fun sb => wStr c9 sb.1 sb.2.1 (((([] : List Nat) ++ kFast) ++ (dgs (n % 7 - 3))) ++ kSemi).length sb.2.2 ++ SBx c9 a (((([] : List Nat) ++ kFast) ++ (dgs (n % 7 - 3))) ++ kSemi) u4) (F' := fun sb => F) (r_V X (C := RJ4) (As := []) (rest := []) (r_pc X) (c_toString l hG D c9 hGU (L := (((([] : List Nat) ++ kFast) ++ (dgs (n % 7 - 3))) ++ kSemi)) hu4) 0 (gV wt_22 wt_23 wt_24 wt_10 wt_25) rfl rfl rfl ⟨rfl, by decide +kernel⟩ ⟨Nat.le_of_ble_eq_true rfl, Nat.le_of_ble_eq_true rfl⟩ (r_recv X 0 rfl rfl) rfl rfl (Nat.le_of_ble_eq_true rfl) ⟨(by first | exact Nat.le_of_ble_eq_true rfl | omega | (dsimp only; omega)), (by first | exact Nat.le_of_ble_eq_true rfl | omega | (dsimp only; omega))⟩ dL_clock_43) (fun _ => rfl) 46 rfl (fun sb hs => ?_)
    refine v_goto X (tgt := 77) dL_clock_46 rfl ?_
    refine v_pick (ws' := [(sb.1, .inr (0, [.ref sb.2.1, .int 0, .int 0, .int 0])), (sb.2.1, .inl (c9 2, (((([] : List Nat) ++ kFast) ++ (dgs (n % 7 - 3))) ++ kSemi).length, .inl sb.2.2))]) [0, 1] rfl rfl ?_
    have eL : (((([] : List Nat) ++ kFast) ++ (dgs (n % 7 - 3))) ++ kSemi) = clkT n := by unfold clkT; rw [if_neg h, if_pos (by omega)]; rfl
    rw [eL] at hs
    rw [eL]
    exact v_rret sb hs rfl (List.perm_append_comm) X (Or.inl ⟨_, rfl⟩) (by first | exact Nat.le_of_ble_eq_true rfl | omega | (dsimp only; omega)) (by first | exact Nat.le_of_ble_eq_true rfl | omega | (dsimp only; omega)) dL_clock_77
  · refine v_iload_n X dL_clock_0 0 rfl rfl 1 rfl ?_
    refine v_callZi X (As := [.int (nI n)]) (rest := []) (c_offset l hG D c9 hGU hn) 1 (gS wt_0 wt_1 wt_2 wt_3) rfl rfl rfl (by decide +kernel) ⟨Nat.le_of_ble_eq_true rfl, Nat.le_of_ble_eq_true rfl⟩ rfl rfl (Nat.le_of_ble_eq_true rfl) ⟨(by first | exact Nat.le_of_ble_eq_true rfl | omega | (dsimp only; omega)), (by first | exact Nat.le_of_ble_eq_true rfl | omega | (dsimp only; omega))⟩ dL_clock_1 4 rfl ?_
    refine v_if_ne X (tgt := 12) dL_clock_4 rfl 7 rfl (a := some ()) (b := none) (o := ()) (if_neg (show ¬ nI (n % 7) - 3 = 0 from fun z => h (off_zero hn z))) (fun _ => ?_) (fun h => nomatch h)
    refine v_iload_n X dL_clock_12 0 rfl rfl 13 rfl ?_
    refine v_callZi X (As := [.int (nI n)]) (rest := []) (c_offset l hG D c9 hGU hn) 1 (gS wt_0 wt_1 wt_2 wt_3) rfl rfl rfl (by decide +kernel) ⟨Nat.le_of_ble_eq_true rfl, Nat.le_of_ble_eq_true rfl⟩ rfl rfl (Nat.le_of_ble_eq_true rfl) ⟨(by first | exact Nat.le_of_ble_eq_true rfl | omega | (dsimp only; omega)), (by first | exact Nat.le_of_ble_eq_true rfl | omega | (dsimp only; omega))⟩ dL_clock_13 16 rfl ?_
    refine v_if_le X (tgt := 49) dL_clock_16 rfl 19 rfl (a := some ()) (b := none) (o := ()) (if_pos (show nI (n % 7) - 3 ≤ 0 from off_le.mpr (by omega))) (fun _ => ?_) (fun h => nomatch h)
    refine v_new X (C := RJ4) (T := TJ4) (N := 4) (ci := 1) (fs := [.null, .int 0, .int 0, .int 0]) dL_clock_49 (lay_of layt_J4) tyJ4 tyJ4_ok (mw wt_8) (mw wt_9) (mw wt_10) rfl (fun j hj => match j, hj with | 0, _ => rfl | 1, _ => rfl | 2, _ => rfl | 3, _ => rfl | z + 4, h => absurd h (by omega)) (by first | exact Nat.le_of_ble_eq_true rfl | omega | (dsimp only; omega)) (by first | exact Nat.le_of_ble_eq_true rfl | omega | (dsimp only; omega)) 52 rfl (fun a => ?_)
    refine v_eq (ws2 := [(a, .inr (1, [.null, .int 0, .int 0, .int 0]))]) (st2 := [.ref a]) rfl rfl rfl rfl ?_
    refine v_dup X dL_clock_52 rfl 53 rfl ?_
    refine v_gn X (S := SBt) (ws' := fun u1 => SBx c9 a ([] : List Nat) u1) (F' := fun u1 => F) (r_I X (As := []) (rest := [.ref a]) (r_pc X) (c_SBinit l hG D c9 hGU (a := a)) 0 (wg_sub _ wt_11 _) rfl rfl rfl (mw wt_10) (mw wt_12) (mw wt_13) rfl (by decide +kernel) ⟨Nat.le_of_ble_eq_true rfl, Nat.le_of_ble_eq_true rfl⟩ rfl rfl (Nat.le_of_ble_eq_true rfl) ⟨(by first | exact Nat.le_of_ble_eq_true rfl | omega | (dsimp only; omega)), (by first | exact Nat.le_of_ble_eq_true rfl | omega | (dsimp only; omega))⟩ dL_clock_53) (fun _ => rfl) 56 rfl (fun u1 hu1 => ?_)
    refine v_lds X hGU (i := 25) dL_clock_56 js_RL_58 58 rfl ?_
    refine v_gr X (S := SBt) (ws' := fun u2 => SBx c9 a (([] : List Nat) ++ kSlow) u2) (F' := fun u2 => F) (r_V X (C := RJ4) (As := [.ref (sk 25)]) (rest := []) (r_pc X) (c_append l hG D c9 hGU (fun A U H h => vs_const (hGU A U H h) kSlow_js) (by decide) kSlow_lt (L := ([] : List Nat)) hu1 (by simp only [List.length_append, List.length_cons, List.length_nil, kEven_len, kFast_len, kSlow_len, kSemi_len, kGate_len, kRealm_len, kTrust_len, kUser_len, kServ_len]; omega)) 1 (gV wt_14 wt_15 wt_16 wt_10 wt_17) rfl rfl rfl ⟨rfl, by decide +kernel⟩ ⟨Nat.le_of_ble_eq_true rfl, Nat.le_of_ble_eq_true rfl⟩ (r_recv X 0 rfl rfl) rfl rfl (Nat.le_of_ble_eq_true rfl) ⟨(by first | exact Nat.le_of_ble_eq_true rfl | omega | (dsimp only; omega)), (by first | exact Nat.le_of_ble_eq_true rfl | omega | (dsimp only; omega))⟩ dL_clock_58) (fun _ => rfl) 61 rfl (fun u2 hu2 => ?_)
    refine v_iload_n X dL_clock_61 0 rfl rfl 62 rfl ?_
    refine v_callZi X (As := [.int (nI n)]) (rest := [.ref a]) (c_offset l hG D c9 hGU hn) 1 (gS wt_0 wt_1 wt_2 wt_3) rfl rfl rfl (by decide +kernel) ⟨Nat.le_of_ble_eq_true rfl, Nat.le_of_ble_eq_true rfl⟩ rfl rfl (Nat.le_of_ble_eq_true rfl) ⟨(by first | exact Nat.le_of_ble_eq_true rfl | omega | (dsimp only; omega)), (by first | exact Nat.le_of_ble_eq_true rfl | omega | (dsimp only; omega))⟩ dL_clock_62 65 rfl ?_
    refine v_ineg X dL_clock_65 66 rfl ?_
    rw [show -(nI (n % 7) - 3) = nI (3 - n % 7) from off_neg (by omega)]
    refine v_gr X (S := SBt) (ws' := fun u3 => SBx c9 a ((([] : List Nat) ++ kSlow) ++ (dgs (3 - n % 7))) u3) (F' := fun u3 => F) (r_V X (C := RJ4) (As := [.int (nI (3 - n % 7))]) (rest := []) (r_pc X) (c_appendI l hG D c9 hGU hGV (x := (3 - n % 7)) (by omega) (L := (([] : List Nat) ++ kSlow)) hu2 (by have hd3 := dgs_len (x := (3 - n % 7)); simp only [List.length_append, List.length_cons, List.length_nil, kEven_len, kFast_len, kSlow_len, kSemi_len, kGate_len, kRealm_len, kTrust_len, kUser_len, kServ_len]; omega)) 1 (gV wt_18 wt_19 wt_20 wt_10 wt_21) rfl rfl rfl ⟨rfl, by decide +kernel⟩ ⟨Nat.le_of_ble_eq_true rfl, Nat.le_of_ble_eq_true rfl⟩ (r_recv X 0 rfl rfl) rfl rfl (Nat.le_of_ble_eq_true rfl) ⟨(by first | exact Nat.le_of_ble_eq_true rfl | omega | (dsimp only; omega)), (by first | exact Nat.le_of_ble_eq_true rfl | omega | (dsimp only; omega))⟩ dL_clock_66) (fun _ => rfl) 69 rfl (fun u3 hu3 => ?_)
    refine v_lds X hGU (i := 24) dL_clock_69 js_RL_52 71 rfl ?_
    refine v_gr X (S := SBt) (ws' := fun u4 => SBx c9 a (((([] : List Nat) ++ kSlow) ++ (dgs (3 - n % 7))) ++ kSemi) u4) (F' := fun u4 => F) (r_V X (C := RJ4) (As := [.ref (sk 24)]) (rest := []) (r_pc X) (c_append l hG D c9 hGU (fun A U H h => vs_const (hGU A U H h) kSemi_js) (by decide) kSemi_lt (L := ((([] : List Nat) ++ kSlow) ++ (dgs (3 - n % 7)))) hu3 (by have hd3 := dgs_len (x := (3 - n % 7)); simp only [List.length_append, List.length_cons, List.length_nil, kEven_len, kFast_len, kSlow_len, kSemi_len, kGate_len, kRealm_len, kTrust_len, kUser_len, kServ_len]; omega)) 1 (gV wt_14 wt_15 wt_16 wt_10 wt_17) rfl rfl rfl ⟨rfl, by decide +kernel⟩ ⟨Nat.le_of_ble_eq_true rfl, Nat.le_of_ble_eq_true rfl⟩ (r_recv X 0 rfl rfl) rfl rfl (Nat.le_of_ble_eq_true rfl) ⟨(by first | exact Nat.le_of_ble_eq_true rfl | omega | (dsimp only; omega)), (by first | exact Nat.le_of_ble_eq_true rfl | omega | (dsimp only; omega))⟩ dL_clock_71) (fun _ => rfl) 74 rfl (fun u4 hu4 => ?_)
    refine v_gr X (S := Nat × Nat × (Nat → Int32)) (ws' := fun sb => wStr c9 sb.1 sb.2.1 (((([] : List Nat) ++ kSlow) ++ (dgs (3 - n % 7))) ++ kSemi).length sb.2.2 ++ SBx c9 a (((([] : List Nat) ++ kSlow) ++ (dgs (3 - n % 7))) ++ kSemi) u4) (F' := fun sb => F) (r_V X (C := RJ4) (As := []) (rest := []) (r_pc X) (c_toString l hG D c9 hGU (L := (((([] : List Nat) ++ kSlow) ++ (dgs (3 - n % 7))) ++ kSemi)) hu4) 0 (gV wt_22 wt_23 wt_24 wt_10 wt_25) rfl rfl rfl ⟨rfl, by decide +kernel⟩ ⟨Nat.le_of_ble_eq_true rfl, Nat.le_of_ble_eq_true rfl⟩ (r_recv X 0 rfl rfl) rfl rfl (Nat.le_of_ble_eq_true rfl) ⟨(by first | exact Nat.le_of_ble_eq_true rfl | omega | (dsimp only; omega)), (by first | exact Nat.le_of_ble_eq_true rfl | omega | (dsimp only; omega))⟩ dL_clock_74) (fun _ => rfl) 77 rfl (fun sb hs => ?_)
    refine v_pick (ws' := [(sb.1, .inr (0, [.ref sb.2.1, .int 0, .int 0, .int 0])), (sb.2.1, .inl (c9 2, (((([] : List Nat) ++ kSlow) ++ (dgs (3 - n % 7))) ++ kSemi).length, .inl sb.2.2))]) [0, 1] rfl rfl ?_
    have eL : (((([] : List Nat) ++ kSlow) ++ (dgs (3 - n % 7))) ++ kSemi) = clkT n := by unfold clkT; rw [if_neg h, if_neg (by omega)]; rfl
    rw [eL] at hs
    rw [eL]
    exact v_rret sb hs rfl (List.perm_append_comm) X (Or.inl ⟨_, rfl⟩) (by first | exact Nat.le_of_ble_eq_true rfl | omega | (dsimp only; omega)) (by first | exact Nat.le_of_ble_eq_true rfl | omega | (dsimp only; omega)) dL_clock_77
