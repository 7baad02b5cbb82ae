/-! The words that every method of mine stands on: the tables' own that the kit calls good. -/
def Wg : List Cond := lw_tbl.filter goodWord
abbrev wq (y : MethodName) (c : ByteArray) (n : Nat) (r : Option FieldType) : List Cond := .code y c n r :: Wg
theorem wg_of {w : Cond} (h : w ∈ lw_tbl) (hg : goodWord w = true) : w ∈ Wg := List.mem_filter.mpr ⟨h, hg⟩
theorem wg_in {w : Cond} (h : w ∈ Wg) : w ∈ lw_tbl := (List.mem_filter.mp h).1
theorem wg_good {w : Cond} (h : w ∈ Wg) : goodWord w = true := (List.mem_filter.mp h).2
theorem mw {a w : Cond} (h : w ∈ Wg) : w ∈ a :: Wg := List.mem_cons_of_mem _ h
theorem wg_sub (a : Cond) (ha : a ∈ Wg) (b : Cond) : GoodIn (b :: Wg) (a :: Wg) := fun w h => by
  rcases List.mem_cons.mp h with rfl | h
  · exact ⟨mw ha, good_of_word (wg_good ha)⟩
  · exact ⟨mw h, good_of_word (wg_good h)⟩
theorem wg_one {b w : Cond} (h : w ∈ Wg) : w ∈ b :: Wg ∧ ((w.onTables && w.keeps) = true ∨ ∃ ty, w = .arrayClass ty) := ⟨mw h, good_of_word (wg_good h)⟩
theorem gV {b cy : Cond} {own C : String} {idx : Nat} {y : MethodName} (h1 : Cond.methodLink own idx y ∈ Wg) (h2 : Cond.instanceMethod y ∈ Wg) (h3 : Cond.selects C y y ∈ Wg) (h4 : Cond.initialized C ∈ Wg) (h5 : cy ∈ Wg) : GoodIn (b :: Wg) (wsV own idx C y (cy :: Wg)) := by
  intro w h
  unfold wsV at h
  rcases List.mem_append.mp h with h | h
  · simp only [List.mem_cons, List.not_mem_nil, or_false] at h
    rcases h with rfl | rfl | rfl | rfl
    · exact wg_one h1
    · exact wg_one h2
    · exact wg_one h3
    · exact wg_one h4
  · exact wg_sub cy h5 b w h
theorem gS {b cy : Cond} {own : String} {idx : Nat} {y : MethodName} (h1 : Cond.methodLink own idx y ∈ Wg) (h2 : Cond.static y ∈ Wg) (h4 : Cond.initialized y.cls ∈ Wg) (h5 : cy ∈ Wg) : GoodIn (b :: Wg) (va_wsS own idx y (cy :: Wg)) := by
  intro w h
  unfold va_wsS at h
  rcases List.mem_append.mp h with h | h
  · simp only [List.mem_cons, List.not_mem_nil, or_false] at h
    rcases h with rfl | rfl | rfl
    · exact wg_one h1
    · exact wg_one h2
    · exact wg_one h4
  · exact wg_sub cy h5 b w h
theorem gU {b cy : Cond} {own C owner : String} {idx : Nat} {x y : MethodName} (h1 : Cond.methodLink own idx x ∈ Wg) (h2 : Cond.sameMethod x.cls owner x.name x.desc ∈ Wg) (h3 : Cond.selects C x y ∈ Wg) (h6 : Cond.instanceMethod y ∈ Wg) (h4 : Cond.initialized y.cls ∈ Wg) (h5 : cy ∈ Wg) : GoodIn (b :: Wg) (va_wsU own idx C owner x y (cy :: Wg)) := by
  intro w h
  unfold va_wsU at h
  rcases List.mem_append.mp h with h | h
  · simp only [List.mem_cons, List.not_mem_nil, or_false] at h
    rcases h with rfl | rfl | rfl | rfl | rfl
    · exact wg_one h1
    · exact wg_one h2
    · exact wg_one h3
    · exact wg_one h6
    · exact wg_one h4
  · exact wg_sub cy h5 b w h
theorem lay_of {C : String} {T : u_T} {N : Nat} {b : Cond} (h : ∀ k, k < N → u_lay C T k ∈ Wg) : ∀ w ∈ u_ws C T N, w ∈ b :: Wg := fun w hw => by
  obtain ⟨k, hk, rfl⟩ := List.mem_map.mp hw
  exact mw (h k (List.mem_range.mp hk))
theorem t1_in {w : Cond} (h : w ∈ tables_1_1) (hg : goodWord w = true) : w ∈ Wg := wg_of (List.mem_append_right _ (List.mem_append_right _ (List.mem_append_left _ h))) hg
theorem t2_in {w : Cond} (h : w ∈ tables_1_2) (hg : goodWord w = true) : w ∈ Wg := wg_of (List.mem_append_right _ (List.mem_append_right _ (List.mem_append_right _ (List.mem_append_left _ h)))) hg
theorem t3_in {w : Cond} (h : w ∈ tables_1_3) (hg : goodWord w = true) : w ∈ Wg := wg_of (List.mem_append_right _ (List.mem_append_right _ (List.mem_append_right _ (List.mem_append_right _ (List.mem_append_left _ h))))) hg
theorem t4_in {w : Cond} (h : w ∈ tables_1_4) (hg : goodWord w = true) : w ∈ Wg := wg_of (List.mem_append_right _ (List.mem_append_right _ (List.mem_append_right _ (List.mem_append_right _ (List.mem_append_right _ (List.mem_append_left _ h)))))) hg
theorem t5_in {w : Cond} (h : w ∈ tables_1_5) (hg : goodWord w = true) : w ∈ Wg := wg_of (List.mem_append_right _ (List.mem_append_right _ (List.mem_append_right _ (List.mem_append_right _ (List.mem_append_right _ (List.mem_append_right _ (List.mem_append_left _ h))))))) hg
theorem t6_in {w : Cond} (h : w ∈ tables_1_6) (hg : goodWord w = true) : w ∈ Wg := wg_of (List.mem_append_right _ (List.mem_append_right _ (List.mem_append_right _ (List.mem_append_right _ (List.mem_append_right _ (List.mem_append_right _ (List.mem_append_right _ (List.mem_append_left _ h)))))))) hg
theorem t7_in {w : Cond} (h : w ∈ tables_1_7) (hg : goodWord w = true) : w ∈ Wg := wg_of (List.mem_append_right _ (List.mem_append_right _ (List.mem_append_right _ (List.mem_append_right _ (List.mem_append_right _ (List.mem_append_right _ (List.mem_append_right _ (List.mem_append_right _ (h))))))))) hg
theorem p1_in {q : MethodName × Nat} (h : q ∈ lw_privs_1) : Cond.selects q.1.cls q.1 q.1 ∈ Wg := wg_of (List.mem_append_right _ (List.mem_append_left _ (List.mem_map.mpr ⟨q, (show q ∈ lw_privs from List.mem_append_left _ h), rfl⟩))) rfl
theorem p2_in {q : MethodName × Nat} (h : q ∈ lw_privs_2) : Cond.selects q.1.cls q.1 q.1 ∈ Wg := wg_of (List.mem_append_right _ (List.mem_append_left _ (List.mem_map.mpr ⟨q, (show q ∈ lw_privs from List.mem_append_right _ (List.mem_append_left _ h)), rfl⟩))) rfl
theorem p3_in {q : MethodName × Nat} (h : q ∈ lw_privs_3) : Cond.selects q.1.cls q.1 q.1 ∈ Wg := wg_of (List.mem_append_right _ (List.mem_append_left _ (List.mem_map.mpr ⟨q, (show q ∈ lw_privs from List.mem_append_right _ (List.mem_append_right _ (h))), rfl⟩))) rfl
theorem s0_in {y : MethodName} (h : y ∈ lw_subs) : Cond.selects "java/lang/StringBuilder" y y ∈ Wg := wg_of (List.mem_append_left _ (List.mem_map.mpr ⟨y, h, rfl⟩)) rfl
