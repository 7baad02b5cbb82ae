/-! The start: what the run stands on at the entry. -/
theorem t1_tb {w : Cond} (h : w ∈ tables_1_1) : w ∈ lw_tbl := (List.mem_append_right _ (List.mem_append_left _ h))
theorem t2_tb {w : Cond} (h : w ∈ tables_1_2) : w ∈ lw_tbl := (List.mem_append_right _ (List.mem_append_right _ (List.mem_append_left _ h)))
theorem t3_tb {w : Cond} (h : w ∈ tables_1_3) : w ∈ lw_tbl := (List.mem_append_right _ (List.mem_append_right _ (List.mem_append_right _ (List.mem_append_left _ h))))
theorem t4_tb {w : Cond} (h : w ∈ tables_1_4) : w ∈ lw_tbl := (List.mem_append_right _ (List.mem_append_right _ (List.mem_append_right _ (List.mem_append_right _ (List.mem_append_left _ h)))))
theorem t5_tb {w : Cond} (h : w ∈ tables_1_5) : w ∈ lw_tbl := (List.mem_append_right _ (List.mem_append_right _ (List.mem_append_right _ (List.mem_append_right _ (List.mem_append_right _ (List.mem_append_left _ h))))))
theorem t6_tb {w : Cond} (h : w ∈ tables_1_6) : w ∈ lw_tbl := (List.mem_append_right _ (List.mem_append_right _ (List.mem_append_right _ (List.mem_append_right _ (List.mem_append_right _ (List.mem_append_right _ (List.mem_append_left _ h)))))))
theorem t7_tb {w : Cond} (h : w ∈ tables_1_7) : w ∈ lw_tbl := (List.mem_append_right _ (List.mem_append_right _ (List.mem_append_right _ (List.mem_append_right _ (List.mem_append_right _ (List.mem_append_right _ (List.mem_append_right _ (List.mem_append_left _ h))))))))
theorem t8_tb {w : Cond} (h : w ∈ tables_1_8) : w ∈ lw_tbl := (List.mem_append_right _ (List.mem_append_right _ (List.mem_append_right _ (List.mem_append_right _ (List.mem_append_right _ (List.mem_append_right _ (List.mem_append_right _ (List.mem_append_right _ (List.mem_append_left _ h)))))))))
theorem t9_tb {w : Cond} (h : w ∈ tables_1_9) : w ∈ lw_tbl := (List.mem_append_right _ (List.mem_append_right _ (List.mem_append_right _ (List.mem_append_right _ (List.mem_append_right _ (List.mem_append_right _ (List.mem_append_right _ (List.mem_append_right _ (List.mem_append_right _ (List.mem_append_left _ h))))))))))
theorem t10_tb {w : Cond} (h : w ∈ tables_1_10) : w ∈ lw_tbl := (List.mem_append_right _ (List.mem_append_right _ (List.mem_append_right _ (List.mem_append_right _ (List.mem_append_right _ (List.mem_append_right _ (List.mem_append_right _ (List.mem_append_right _ (List.mem_append_right _ (List.mem_append_right _ (h)))))))))))
theorem wst_0 : Cond.laysStatic "java/lang/String" "COMPACT_STRINGS" "Z" ∈ lw_tbl := t1_tb (List.mem_of_getElem? (i := 233) rfl)
theorem wst_1 : Cond.initialized "java/lang/String" ∈ Wg := t1_in (List.mem_of_getElem? (i := 13) rfl) rfl
theorem wst_2 : Cond.laysStatic "jdk/internal/util/Preconditions" "SIOOBE_FORMATTER" "Ljava/util/function/BiFunction;" ∈ lw_tbl := t2_tb (List.mem_of_getElem? (i := 9) rfl)
theorem wst_3 : Cond.initialized "jdk/internal/util/Preconditions" ∈ Wg := t1_in (List.mem_of_getElem? (i := 15) rfl) rfl
theorem wst_4 : Cond.laysStatic "java/lang/Throwable" "UNASSIGNED_STACK" "[Ljava/lang/StackTraceElement;" ∈ lw_tbl := t4_tb (List.mem_of_getElem? (i := 232) rfl)
theorem wst_5 : Cond.initialized "java/lang/Throwable" ∈ Wg := t1_in (List.mem_of_getElem? (i := 19) rfl) rfl
theorem wst_6 : Cond.laysStatic "java/lang/Throwable" "SUPPRESSED_SENTINEL" "Ljava/util/List;" ∈ lw_tbl := t4_tb (List.mem_of_getElem? (i := 234) rfl)
theorem wst_7 : Cond.stringRef RX11 47 "gate 2 5;realm alp 60 300 even;realm bay 40 90 fast 2;realm cob 30 20 slow 3;" ∈ lw_tbl := t1_tb (List.mem_of_getElem? (i := 219) rfl)
theorem wst_8 : Cond.stringRef RX11 53 "trust alp bay;trust bay cob;trust cob alp;user ann alp 11 slow 1;" ∈ lw_tbl := t2_tb (List.mem_of_getElem? (i := 36) rfl)
theorem wst_9 : Cond.stringRef RX11 55 "user ben bay 22 fast 4;service brie bay 3;service goat alp 1;" ∈ lw_tbl := t2_tb (List.mem_of_getElem? (i := 37) rfl)
theorem wst_10 : Cond.stringRef RX11 57 "login ann 11 renewable;refer 0 bay;pass 5;request 0 goat;login ben 22;" ∈ lw_tbl := t2_tb (List.mem_of_getElem? (i := 38) rfl)
theorem wst_11 : Cond.stringRef RX11 59 "request 3 brie;cheese 4;pass 1;" ∈ lw_tbl := t2_tb (List.mem_of_getElem? (i := 39) rfl)
theorem wst_12 : Cond.stringRef RX11 81 "the input buffer has no room" ∈ lw_tbl := t5_tb (List.mem_of_getElem? (i := 7) rfl)
theorem wst_13 : Cond.stringRef RX11 90 "the length is out of range" ∈ lw_tbl := t5_tb (List.mem_of_getElem? (i := 54) rfl)
theorem wst_14 : Cond.stringRef RX11 93 "the text has an error" ∈ lw_tbl := t5_tb (List.mem_of_getElem? (i := 68) rfl)
theorem wst_15 : Cond.stringRef RX11 180 "no such index" ∈ lw_tbl := t5_tb (List.mem_of_getElem? (i := 203) rfl)
theorem wst_16 : Cond.stringRef RX11 219 "the number of minutes is out of range" ∈ lw_tbl := t6_tb (List.mem_of_getElem? (i := 119) rfl)
theorem wst_17 : Cond.stringRef RX11 278 "the offset is out of range" ∈ lw_tbl := t6_tb (List.mem_of_getElem? (i := 206) rfl)
theorem wst_18 : Cond.stringRef RX11 294 "the output has no such position" ∈ lw_tbl := t6_tb (List.mem_of_getElem? (i := 239) rfl)
theorem wst_19 : Cond.stringRef RX11 310 "the slot is empty" ∈ lw_tbl := t7_tb (List.mem_of_getElem? (i := 24) rfl)
theorem wst_20 : Cond.stringRef RX11 319 "no call is remembered" ∈ lw_tbl := t7_tb (List.mem_of_getElem? (i := 36) rfl)
theorem wst_21 : Cond.stringRef RX11 330 "no such ticket" ∈ lw_tbl := t5_tb (List.mem_of_getElem? (i := 227) rfl)
theorem wst_22 : Cond.stringRef RX11 333 "no such realm" ∈ lw_tbl := t5_tb (List.mem_of_getElem? (i := 96) rfl)
theorem wst_23 : Cond.stringRef RX11 336 "no such user" ∈ lw_tbl := t5_tb (List.mem_of_getElem? (i := 153) rfl)
theorem wst_24 : Cond.stringRef RX11 339 "no such service" ∈ lw_tbl := t5_tb (List.mem_of_getElem? (i := 184) rfl)
theorem wst_25 : Cond.stringRef RX11 341 "no such slot" ∈ lw_tbl := t7_tb (List.mem_of_getElem? (i := 12) rfl)
theorem wst_26 : Cond.stringRef RX11 343 "the password is out of range" ∈ lw_tbl := t6_tb (List.mem_of_getElem? (i := 78) rfl)
theorem wst_27 : Cond.stringRef RX11 345 "refused" ∈ lw_tbl := t6_tb (List.mem_of_getElem? (i := 149) rfl)
theorem wst_28 : Cond.stringRef RX12 46 "gate 2 5;realm alp 60 300 even;realm bay 40 90 fast 2;realm cob 30 20 slow 3;trust alp bay;trust bay cob;trust cob alp;user ann alp 11 slow 1;user ben bay 22 fast 4;service brie bay 3;service goat alp 1;login ann 11 renewable;refer 0 bay;pass 5;request 0 goat;login ben 22;request 3 brie;cheese 4;pass 1;" ∈ lw_tbl := t7_tb (List.mem_of_getElem? (i := 43) rfl)
theorem wst_29 : Cond.stringRef RX12 229 "fast" ∈ lw_tbl := t7_tb (List.mem_of_getElem? (i := 136) rfl)
theorem wst_30 : Cond.stringRef RX12 235 "even" ∈ lw_tbl := t7_tb (List.mem_of_getElem? (i := 137) rfl)
theorem wst_31 : Cond.stringRef RX12 237 "slow" ∈ lw_tbl := t7_tb (List.mem_of_getElem? (i := 138) rfl)
theorem wst_32 : Cond.stringRef RX12 261 "renewable" ∈ lw_tbl := t7_tb (List.mem_of_getElem? (i := 182) rfl)
theorem wst_33 : Cond.stringRef RX12 304 "realm" ∈ lw_tbl := t7_tb (List.mem_of_getElem? (i := 98) rfl)
theorem wst_34 : Cond.stringRef RX12 309 "trust" ∈ lw_tbl := t7_tb (List.mem_of_getElem? (i := 139) rfl)
theorem wst_35 : Cond.stringRef RX12 314 "user" ∈ lw_tbl := t7_tb (List.mem_of_getElem? (i := 163) rfl)
theorem wst_36 : Cond.stringRef RX12 319 "service" ∈ lw_tbl := t7_tb (List.mem_of_getElem? (i := 168) rfl)
theorem wst_37 : Cond.stringRef RX12 324 "login" ∈ lw_tbl := t7_tb (List.mem_of_getElem? (i := 173) rfl)
theorem wst_38 : Cond.stringRef RX12 329 "refer" ∈ lw_tbl := t7_tb (List.mem_of_getElem? (i := 207) rfl)
theorem wst_39 : Cond.stringRef RX12 334 "request" ∈ lw_tbl := t7_tb (List.mem_of_getElem? (i := 237) rfl)
theorem wst_40 : Cond.stringRef RX12 339 "renew" ∈ lw_tbl := t8_tb (List.mem_of_getElem? (i := 9) rfl)
theorem wst_41 : Cond.stringRef RX12 344 "cheese" ∈ lw_tbl := t8_tb (List.mem_of_getElem? (i := 23) rfl)
theorem wst_42 : Cond.stringRef RX12 349 "drop" ∈ lw_tbl := t8_tb (List.mem_of_getElem? (i := 43) rfl)
theorem wst_43 : Cond.stringRef RX12 354 "sweep" ∈ lw_tbl := t8_tb (List.mem_of_getElem? (i := 51) rfl)
theorem wst_44 : Cond.stringRef RX12 359 "pass" ∈ lw_tbl := t8_tb (List.mem_of_getElem? (i := 59) rfl)
theorem wst_45 : Cond.stringRef RX12 364 "gate" ∈ lw_tbl := t7_tb (List.mem_of_getElem? (i := 69) rfl)
theorem wst_46 : Cond.stringRef RX1 45 "realm" ∈ lw_tbl := t2_tb (List.mem_of_getElem? (i := 124) rfl)
theorem wst_47 : Cond.stringRef RX1 54 "trust" ∈ lw_tbl := t2_tb (List.mem_of_getElem? (i := 188) rfl)
theorem wst_48 : Cond.stringRef RX1 59 "user" ∈ lw_tbl := t2_tb (List.mem_of_getElem? (i := 211) rfl)
theorem wst_49 : Cond.stringRef RX1 64 "service" ∈ lw_tbl := t2_tb (List.mem_of_getElem? (i := 229) rfl)
theorem wst_50 : Cond.stringRef RX1 69 "login" ∈ lw_tbl := t3_tb (List.mem_of_getElem? (i := 7) rfl)
theorem wst_51 : Cond.stringRef RX1 74 "refer" ∈ lw_tbl := t3_tb (List.mem_of_getElem? (i := 59) rfl)
theorem wst_52 : Cond.stringRef RX1 79 "request" ∈ lw_tbl := t3_tb (List.mem_of_getElem? (i := 97) rfl)
theorem wst_53 : Cond.stringRef RX1 84 "renew" ∈ lw_tbl := t3_tb (List.mem_of_getElem? (i := 113) rfl)
theorem wst_54 : Cond.stringRef RX1 89 "cheese" ∈ lw_tbl := t3_tb (List.mem_of_getElem? (i := 130) rfl)
theorem wst_55 : Cond.stringRef RX1 94 "drop" ∈ lw_tbl := t3_tb (List.mem_of_getElem? (i := 177) rfl)
theorem wst_56 : Cond.stringRef RX1 99 "sweep" ∈ lw_tbl := t3_tb (List.mem_of_getElem? (i := 185) rfl)
theorem wst_57 : Cond.stringRef RX1 104 "pass" ∈ lw_tbl := t3_tb (List.mem_of_getElem? (i := 199) rfl)
theorem wst_58 : Cond.stringRef RX1 113 "gate" ∈ lw_tbl := t2_tb (List.mem_of_getElem? (i := 77) rfl)
theorem wst_59 : Cond.stringRef RX1 188 "renewable" ∈ lw_tbl := t3_tb (List.mem_of_getElem? (i := 12) rfl)
theorem wst_60 : Cond.stringRef RX1 251 "fast" ∈ lw_tbl := t2_tb (List.mem_of_getElem? (i := 169) rfl)
theorem wst_61 : Cond.stringRef RX1 253 "even" ∈ lw_tbl := t2_tb (List.mem_of_getElem? (i := 170) rfl)
theorem wst_62 : Cond.stringRef RX1 255 "slow" ∈ lw_tbl := t2_tb (List.mem_of_getElem? (i := 171) rfl)
def FLS : List Cond := flatC (Cond.and given_1 narrow_1)
def strC (own : String) (k n : Nat) (bs : List Int32) : List Cond := [.exactly (.string own k) "java/lang/String", .eq (.field (.string own k) "java/lang/String" "coder" "B") (.int 0), .arrayOf (.field (.string own k) "java/lang/String" "value" "[B") .byte, .eq (.length (.field (.string own k) "java/lang/String" "value" "[B")) (.int (Int32.ofNat n))] ++ (List.range n).map (fun j => .eq (.elem (.field (.string own k) "java/lang/String" "value" "[B") (.int (Int32.ofNat j))) (.int (bs.getD j 0)))
theorem st_one {s : State} {args : Array Value} (hs : ∀ c ∈ FLS, c.before args s = true) {A : Nat → Prop} (hA : ∀ a : Nat, a < s.heap.size → ¬ A a) (own : String) (k p n : Nat) (bs : List Int32) (hn : n < 2 ^ 31) (h : (FLS.drop p).take (4 + n) = strC own k n bs) : ∃ a v : Nat, (va_O "java/lang/String" a A s s.heap ∧ va_OF "java/lang/String" "coder" "B" (.int 0) a A s s.heap ∧ va_OF "java/lang/String" "value" "[B" (.ref v) a A s s.heap ∧ va_T .byte v n (fun j => .int (bs.getD j 0)) A s s.heap) ∧ (Term.string own k).eval args s none [] s = some (.ref a) := by
  have hc : ∀ c ∈ strC own k n bs, c.before args s = true := fun c hc => hs c (List.mem_of_mem_drop (List.mem_of_mem_take (by rw [h]; exact hc)))
  obtain ⟨adK, adV, h1, h2⟩ := vk_Sof (args := args) (s := s) (N := 1) (tm := fun _ => .string own k) (len := [n]) (byt := [bs]) (A := A)
    (fun i hi => by obtain rfl : i = 0 := by omega
                    exact hn)
    (fun i hi => hc _ (List.mem_append_left _ List.mem_cons_self))
    (fun i hi => hc _ (List.mem_append_left _ (List.mem_cons_of_mem _ List.mem_cons_self)))
    (fun i hi => hc _ (List.mem_append_left _ (List.mem_cons_of_mem _ (List.mem_cons_of_mem _ List.mem_cons_self))))
    (fun i hi => by obtain rfl : i = 0 := by omega
                    exact hc _ (List.mem_append_left _ (List.mem_cons_of_mem _ (List.mem_cons_of_mem _ (List.mem_cons_of_mem _ List.mem_cons_self)))))
    (fun i hi j hj => by obtain rfl : i = 0 := by omega
                         exact hc _ (List.mem_append_right _ (List.mem_map.mpr ⟨j, List.mem_range.mpr hj, rfl⟩)))
    (fun i j hi hj hne => absurd (by omega) hne) hA
  exact ⟨adK 0, adV 0, h1.1 0 (by decide), h2 0 (by decide)⟩
theorem st_txt {s : State} {args : Array Value} {t : Term} (h : (Cond.exactly t "java/lang/String").before args s = true) : ∃ a : Nat, t.eval args s none [] s = some (.ref a) := by
  obtain ⟨a, c, cA, kA, q1, q2, q3, q4, q5, q6, -⟩ := Cond.exactly_spec (args := args) (first := s) (o := none) (s := s) (idx := []) (t := t) (cls := "java/lang/String") h
  exact ⟨a, q1⟩
theorem st_apart {s : State} {A : Nat → Prop} {a v w n n' : Nat} {f f' : Nat → Value} (h1 : va_OF "java/lang/String" "value" "[B" (.ref v) a A s s.heap) (h2 : va_OF "java/lang/String" "value" "[B" (.ref w) a A s s.heap) (t1 : va_T .byte v n f A s s.heap) (t2 : va_T .byte w n' f' A s s.heap) (hn : n < 2 ^ 31) (hn' : n' < 2 ^ 31) : n = n' ∧ ∀ j, j < n → f j = f' j := by
  obtain ⟨cf, k, i, fl, cell, e1, e2, e3, e4, e5, e6⟩ := h1
  obtain ⟨cf', k', i', fl', cell', g1, g2, g3, g4, g5, g6⟩ := h2
  cases Option.some.inj (e1.symm.trans g1)
  cases Option.some.inj (e3.symm.trans g3)
  cases Option.some.inj (e5.symm.trans g5)
  obtain ⟨c1, u1, u2, u3, u4, u5, u6, u7⟩ := t1
  obtain ⟨c2, w1, w2, w3, w4, w5, w6, w7⟩ := t2
  cases Option.some.inj (u1.symm.trans w1)
  have hE := u5.symm.trans w5
  have hI := congrArg Int32.toInt hE
  rw [Int32.toInt_ofNat_of_lt hn, Int32.toInt_ofNat_of_lt hn'] at hI
  have hN : n = n' := by omega
  subst hN
  exact ⟨rfl, fun j hj => Option.some.inj ((u6 j hj).symm.trans (w6 j hj))⟩
theorem st_diff : ∀ i, i < 23 → ∀ j, j < 23 → lenJS.getD i 0 = lenJS.getD j 0 → (∀ p, p < lenJS.getD i 0 → (bytJS.getD i []).getD p 0 = (bytJS.getD j []).getD p 0) → i = j := by decide +kernel
theorem st_len : ∀ i, i < 23 → lenJS.getD i 0 < 2 ^ 31 := by decide +kernel
theorem strT_0 : (FLS.drop 71).take (4 + lenJS.getD 0 0) = strC "TicketGate" 47 (lenJS.getD 0 0) (bytJS.getD 0 []) := by decide +kernel
theorem strT_1 : (FLS.drop 152).take (4 + lenJS.getD 1 0) = strC "TicketGate" 53 (lenJS.getD 1 0) (bytJS.getD 1 []) := by decide +kernel
theorem strT_2 : (FLS.drop 221).take (4 + lenJS.getD 2 0) = strC "TicketGate" 55 (lenJS.getD 2 0) (bytJS.getD 2 []) := by decide +kernel
theorem strT_3 : (FLS.drop 286).take (4 + lenJS.getD 3 0) = strC "TicketGate" 57 (lenJS.getD 3 0) (bytJS.getD 3 []) := by decide +kernel
theorem strT_4 : (FLS.drop 360).take (4 + lenJS.getD 4 0) = strC "TicketGate" 59 (lenJS.getD 4 0) (bytJS.getD 4 []) := by decide +kernel
theorem strT_5 : (FLS.drop 935).take (4 + lenJS.getD 5 0) = strC "TicketGateModel" 46 (lenJS.getD 5 0) (bytJS.getD 5 []) := by decide +kernel
theorem strT_6 : (FLS.drop 1262).take (4 + lenJS.getD 6 0) = strC "TicketGateModel" 229 (lenJS.getD 6 0) (bytJS.getD 6 []) := by decide +kernel
theorem strT_7 : (FLS.drop 1271).take (4 + lenJS.getD 7 0) = strC "TicketGateModel" 235 (lenJS.getD 7 0) (bytJS.getD 7 []) := by decide +kernel
theorem strT_8 : (FLS.drop 1280).take (4 + lenJS.getD 8 0) = strC "TicketGateModel" 237 (lenJS.getD 8 0) (bytJS.getD 8 []) := by decide +kernel
theorem strT_9 : (FLS.drop 1330).take (4 + lenJS.getD 9 0) = strC "TicketGateModel" 261 (lenJS.getD 9 0) (bytJS.getD 9 []) := by decide +kernel
theorem strT_10 : (FLS.drop 1252).take (4 + lenJS.getD 10 0) = strC "TicketGateModel" 304 (lenJS.getD 10 0) (bytJS.getD 10 []) := by decide +kernel
theorem strT_11 : (FLS.drop 1289).take (4 + lenJS.getD 11 0) = strC "TicketGateModel" 309 (lenJS.getD 11 0) (bytJS.getD 11 []) := by decide +kernel
theorem strT_12 : (FLS.drop 1299).take (4 + lenJS.getD 12 0) = strC "TicketGateModel" 314 (lenJS.getD 12 0) (bytJS.getD 12 []) := by decide +kernel
theorem strT_13 : (FLS.drop 1308).take (4 + lenJS.getD 13 0) = strC "TicketGateModel" 319 (lenJS.getD 13 0) (bytJS.getD 13 []) := by decide +kernel
theorem strT_14 : (FLS.drop 1320).take (4 + lenJS.getD 14 0) = strC "TicketGateModel" 324 (lenJS.getD 14 0) (bytJS.getD 14 []) := by decide +kernel
theorem strT_15 : (FLS.drop 1344).take (4 + lenJS.getD 15 0) = strC "TicketGateModel" 329 (lenJS.getD 15 0) (bytJS.getD 15 []) := by decide +kernel
theorem strT_16 : (FLS.drop 1354).take (4 + lenJS.getD 16 0) = strC "TicketGateModel" 334 (lenJS.getD 16 0) (bytJS.getD 16 []) := by decide +kernel
theorem strT_17 : (FLS.drop 1366).take (4 + lenJS.getD 17 0) = strC "TicketGateModel" 339 (lenJS.getD 17 0) (bytJS.getD 17 []) := by decide +kernel
theorem strT_18 : (FLS.drop 1376).take (4 + lenJS.getD 18 0) = strC "TicketGateModel" 344 (lenJS.getD 18 0) (bytJS.getD 18 []) := by decide +kernel
theorem strT_19 : (FLS.drop 1387).take (4 + lenJS.getD 19 0) = strC "TicketGateModel" 349 (lenJS.getD 19 0) (bytJS.getD 19 []) := by decide +kernel
theorem strT_20 : (FLS.drop 1396).take (4 + lenJS.getD 20 0) = strC "TicketGateModel" 354 (lenJS.getD 20 0) (bytJS.getD 20 []) := by decide +kernel
theorem strT_21 : (FLS.drop 1406).take (4 + lenJS.getD 21 0) = strC "TicketGateModel" 359 (lenJS.getD 21 0) (bytJS.getD 21 []) := by decide +kernel
theorem strT_22 : (FLS.drop 1243).take (4 + lenJS.getD 22 0) = strC "TicketGateModel" 364 (lenJS.getD 22 0) (bytJS.getD 22 []) := by decide +kernel
theorem st_exc_23 : Cond.exactly (.string "TicketGate" 81) "java/lang/String" ∈ FLS := List.mem_of_getElem? (i := 550) (by decide +kernel)
theorem st_exc_24 : Cond.exactly (.string "TicketGate" 90) "java/lang/String" ∈ FLS := List.mem_of_getElem? (i := 582) (by decide +kernel)
theorem st_exc_25 : Cond.exactly (.string "TicketGate" 93) "java/lang/String" ∈ FLS := List.mem_of_getElem? (i := 612) (by decide +kernel)
theorem st_exc_26 : Cond.exactly (.string "TicketGate" 180) "java/lang/String" ∈ FLS := List.mem_of_getElem? (i := 689) (by decide +kernel)
theorem st_exc_27 : Cond.exactly (.string "TicketGate" 219) "java/lang/String" ∈ FLS := List.mem_of_getElem? (i := 756) (by decide +kernel)
theorem st_exc_28 : Cond.exactly (.string "TicketGate" 278) "java/lang/String" ∈ FLS := List.mem_of_getElem? (i := 808) (by decide +kernel)
theorem st_exc_29 : Cond.exactly (.string "TicketGate" 294) "java/lang/String" ∈ FLS := List.mem_of_getElem? (i := 838) (by decide +kernel)
theorem st_exc_30 : Cond.exactly (.string "TicketGate" 310) "java/lang/String" ∈ FLS := List.mem_of_getElem? (i := 889) (by decide +kernel)
theorem st_exc_31 : Cond.exactly (.string "TicketGate" 319) "java/lang/String" ∈ FLS := List.mem_of_getElem? (i := 910) (by decide +kernel)
theorem st_exc_32 : Cond.exactly (.string "TicketGate" 330) "java/lang/String" ∈ FLS := List.mem_of_getElem? (i := 706) (by decide +kernel)
theorem st_exc_33 : Cond.exactly (.string "TicketGate" 333) "java/lang/String" ∈ FLS := List.mem_of_getElem? (i := 637) (by decide +kernel)
theorem st_exc_34 : Cond.exactly (.string "TicketGate" 336) "java/lang/String" ∈ FLS := List.mem_of_getElem? (i := 654) (by decide +kernel)
theorem st_exc_35 : Cond.exactly (.string "TicketGate" 339) "java/lang/String" ∈ FLS := List.mem_of_getElem? (i := 670) (by decide +kernel)
theorem st_exc_36 : Cond.exactly (.string "TicketGate" 341) "java/lang/String" ∈ FLS := List.mem_of_getElem? (i := 873) (by decide +kernel)
theorem st_exc_37 : Cond.exactly (.string "TicketGate" 343) "java/lang/String" ∈ FLS := List.mem_of_getElem? (i := 724) (by decide +kernel)
theorem st_exc_38 : Cond.exactly (.string "TicketGate" 345) "java/lang/String" ∈ FLS := List.mem_of_getElem? (i := 797) (by decide +kernel)
theorem st_eq_TicketGate_Parser_45 : Cond.eq (.string "TicketGate$Parser" 45) (.string "TicketGateModel" 304) ∈ FLS := List.mem_of_getElem? (i := 1261) (by decide +kernel)
theorem st_eq_TicketGate_Parser_54 : Cond.eq (.string "TicketGate$Parser" 54) (.string "TicketGateModel" 309) ∈ FLS := List.mem_of_getElem? (i := 1298) (by decide +kernel)
theorem st_eq_TicketGate_Parser_59 : Cond.eq (.string "TicketGate$Parser" 59) (.string "TicketGateModel" 314) ∈ FLS := List.mem_of_getElem? (i := 1307) (by decide +kernel)
theorem st_eq_TicketGate_Parser_64 : Cond.eq (.string "TicketGate$Parser" 64) (.string "TicketGateModel" 319) ∈ FLS := List.mem_of_getElem? (i := 1319) (by decide +kernel)
theorem st_eq_TicketGate_Parser_69 : Cond.eq (.string "TicketGate$Parser" 69) (.string "TicketGateModel" 324) ∈ FLS := List.mem_of_getElem? (i := 1329) (by decide +kernel)
theorem st_eq_TicketGate_Parser_74 : Cond.eq (.string "TicketGate$Parser" 74) (.string "TicketGateModel" 329) ∈ FLS := List.mem_of_getElem? (i := 1353) (by decide +kernel)
theorem st_eq_TicketGate_Parser_79 : Cond.eq (.string "TicketGate$Parser" 79) (.string "TicketGateModel" 334) ∈ FLS := List.mem_of_getElem? (i := 1365) (by decide +kernel)
theorem st_eq_TicketGate_Parser_84 : Cond.eq (.string "TicketGate$Parser" 84) (.string "TicketGateModel" 339) ∈ FLS := List.mem_of_getElem? (i := 1375) (by decide +kernel)
theorem st_eq_TicketGate_Parser_89 : Cond.eq (.string "TicketGate$Parser" 89) (.string "TicketGateModel" 344) ∈ FLS := List.mem_of_getElem? (i := 1386) (by decide +kernel)
theorem st_eq_TicketGate_Parser_94 : Cond.eq (.string "TicketGate$Parser" 94) (.string "TicketGateModel" 349) ∈ FLS := List.mem_of_getElem? (i := 1395) (by decide +kernel)
theorem st_eq_TicketGate_Parser_99 : Cond.eq (.string "TicketGate$Parser" 99) (.string "TicketGateModel" 354) ∈ FLS := List.mem_of_getElem? (i := 1405) (by decide +kernel)
theorem st_eq_TicketGate_Parser_104 : Cond.eq (.string "TicketGate$Parser" 104) (.string "TicketGateModel" 359) ∈ FLS := List.mem_of_getElem? (i := 1414) (by decide +kernel)
theorem st_eq_TicketGate_Parser_113 : Cond.eq (.string "TicketGate$Parser" 113) (.string "TicketGateModel" 364) ∈ FLS := List.mem_of_getElem? (i := 1251) (by decide +kernel)
theorem st_eq_TicketGate_Parser_188 : Cond.eq (.string "TicketGate$Parser" 188) (.string "TicketGateModel" 261) ∈ FLS := List.mem_of_getElem? (i := 1343) (by decide +kernel)
theorem st_eq_TicketGate_Parser_251 : Cond.eq (.string "TicketGate$Parser" 251) (.string "TicketGateModel" 229) ∈ FLS := List.mem_of_getElem? (i := 1270) (by decide +kernel)
theorem st_eq_TicketGate_Parser_253 : Cond.eq (.string "TicketGate$Parser" 253) (.string "TicketGateModel" 235) ∈ FLS := List.mem_of_getElem? (i := 1279) (by decide +kernel)
theorem st_eq_TicketGate_Parser_255 : Cond.eq (.string "TicketGate$Parser" 255) (.string "TicketGateModel" 237) ∈ FLS := List.mem_of_getElem? (i := 1288) (by decide +kernel)
theorem va_eqL {args : Array Value} {s : State} {t u : Term} {a : Nat} (h : (Cond.eq t u).before args s = true) (hu : u.eval args s none [] s = some (.ref a)) : t.eval args s none [] s = some (.ref a) := by
  cases ht : t.eval args s none [] s with
  | none => simp [Cond.before, Cond.holds, Cond.value, ht, hu] at h
  | some w =>
    cases w <;> simp [Cond.before, Cond.holds, Cond.value, ht, hu] at h
    rw [h]
set_option maxRecDepth 100000 in
set_option maxHeartbeats 4000000 in
theorem st_vU {s : State} {args : Array Value} (hs : ∀ c ∈ FLS, c.before args s = true) (hts : ∀ w ∈ lw_tbl, w.before args s = true) {A : Nat → Prop} (hA : ∀ a : Nat, a < s.heap.size → ¬ A a) : ∃ sk sv : Nat → Nat, vU sk sv A s s.heap := by
  obtain ⟨a0, v0, h0, e0⟩ := st_one hs hA "TicketGate" 47 71 (lenJS.getD 0 0) (bytJS.getD 0 []) (by decide) strT_0
  obtain ⟨a1, v1, h1, e1⟩ := st_one hs hA "TicketGate" 53 152 (lenJS.getD 1 0) (bytJS.getD 1 []) (by decide) strT_1
  obtain ⟨a2, v2, h2, e2⟩ := st_one hs hA "TicketGate" 55 221 (lenJS.getD 2 0) (bytJS.getD 2 []) (by decide) strT_2
  obtain ⟨a3, v3, h3, e3⟩ := st_one hs hA "TicketGate" 57 286 (lenJS.getD 3 0) (bytJS.getD 3 []) (by decide) strT_3
  obtain ⟨a4, v4, h4, e4⟩ := st_one hs hA "TicketGate" 59 360 (lenJS.getD 4 0) (bytJS.getD 4 []) (by decide) strT_4
  obtain ⟨a5, v5, h5, e5⟩ := st_one hs hA "TicketGateModel" 46 935 (lenJS.getD 5 0) (bytJS.getD 5 []) (by decide) strT_5
  obtain ⟨a6, v6, h6, e6⟩ := st_one hs hA "TicketGateModel" 229 1262 (lenJS.getD 6 0) (bytJS.getD 6 []) (by decide) strT_6
  obtain ⟨a7, v7, h7, e7⟩ := st_one hs hA "TicketGateModel" 235 1271 (lenJS.getD 7 0) (bytJS.getD 7 []) (by decide) strT_7
  obtain ⟨a8, v8, h8, e8⟩ := st_one hs hA "TicketGateModel" 237 1280 (lenJS.getD 8 0) (bytJS.getD 8 []) (by decide) strT_8
  obtain ⟨a9, v9, h9, e9⟩ := st_one hs hA "TicketGateModel" 261 1330 (lenJS.getD 9 0) (bytJS.getD 9 []) (by decide) strT_9
  obtain ⟨a10, v10, h10, e10⟩ := st_one hs hA "TicketGateModel" 304 1252 (lenJS.getD 10 0) (bytJS.getD 10 []) (by decide) strT_10
  obtain ⟨a11, v11, h11, e11⟩ := st_one hs hA "TicketGateModel" 309 1289 (lenJS.getD 11 0) (bytJS.getD 11 []) (by decide) strT_11
  obtain ⟨a12, v12, h12, e12⟩ := st_one hs hA "TicketGateModel" 314 1299 (lenJS.getD 12 0) (bytJS.getD 12 []) (by decide) strT_12
  obtain ⟨a13, v13, h13, e13⟩ := st_one hs hA "TicketGateModel" 319 1308 (lenJS.getD 13 0) (bytJS.getD 13 []) (by decide) strT_13
  obtain ⟨a14, v14, h14, e14⟩ := st_one hs hA "TicketGateModel" 324 1320 (lenJS.getD 14 0) (bytJS.getD 14 []) (by decide) strT_14
  obtain ⟨a15, v15, h15, e15⟩ := st_one hs hA "TicketGateModel" 329 1344 (lenJS.getD 15 0) (bytJS.getD 15 []) (by decide) strT_15
  obtain ⟨a16, v16, h16, e16⟩ := st_one hs hA "TicketGateModel" 334 1354 (lenJS.getD 16 0) (bytJS.getD 16 []) (by decide) strT_16
  obtain ⟨a17, v17, h17, e17⟩ := st_one hs hA "TicketGateModel" 339 1366 (lenJS.getD 17 0) (bytJS.getD 17 []) (by decide) strT_17
  obtain ⟨a18, v18, h18, e18⟩ := st_one hs hA "TicketGateModel" 344 1376 (lenJS.getD 18 0) (bytJS.getD 18 []) (by decide) strT_18
  obtain ⟨a19, v19, h19, e19⟩ := st_one hs hA "TicketGateModel" 349 1387 (lenJS.getD 19 0) (bytJS.getD 19 []) (by decide) strT_19
  obtain ⟨a20, v20, h20, e20⟩ := st_one hs hA "TicketGateModel" 354 1396 (lenJS.getD 20 0) (bytJS.getD 20 []) (by decide) strT_20
  obtain ⟨a21, v21, h21, e21⟩ := st_one hs hA "TicketGateModel" 359 1406 (lenJS.getD 21 0) (bytJS.getD 21 []) (by decide) strT_21
  obtain ⟨a22, v22, h22, e22⟩ := st_one hs hA "TicketGateModel" 364 1243 (lenJS.getD 22 0) (bytJS.getD 22 []) (by decide) strT_22
  obtain ⟨a23, e23⟩ := st_txt (hs _ st_exc_23)
  obtain ⟨a24, e24⟩ := st_txt (hs _ st_exc_24)
  obtain ⟨a25, e25⟩ := st_txt (hs _ st_exc_25)
  obtain ⟨a26, e26⟩ := st_txt (hs _ st_exc_26)
  obtain ⟨a27, e27⟩ := st_txt (hs _ st_exc_27)
  obtain ⟨a28, e28⟩ := st_txt (hs _ st_exc_28)
  obtain ⟨a29, e29⟩ := st_txt (hs _ st_exc_29)
  obtain ⟨a30, e30⟩ := st_txt (hs _ st_exc_30)
  obtain ⟨a31, e31⟩ := st_txt (hs _ st_exc_31)
  obtain ⟨a32, e32⟩ := st_txt (hs _ st_exc_32)
  obtain ⟨a33, e33⟩ := st_txt (hs _ st_exc_33)
  obtain ⟨a34, e34⟩ := st_txt (hs _ st_exc_34)
  obtain ⟨a35, e35⟩ := st_txt (hs _ st_exc_35)
  obtain ⟨a36, e36⟩ := st_txt (hs _ st_exc_36)
  obtain ⟨a37, e37⟩ := st_txt (hs _ st_exc_37)
  obtain ⟨a38, e38⟩ := st_txt (hs _ st_exc_38)
  have hS : ∀ i : Nat, i < 23 → va_O "java/lang/String" ([a0, a1, a2, a3, a4, a5, a6, a7, a8, a9, a10, a11, a12, a13, a14, a15, a16, a17, a18, a19, a20, a21, a22, a23, a24, a25, a26, a27, a28, a29, a30, a31, a32, a33, a34, a35, a36, a37, a38].getD i 0) A s s.heap ∧ va_OF "java/lang/String" "coder" "B" (.int 0) ([a0, a1, a2, a3, a4, a5, a6, a7, a8, a9, a10, a11, a12, a13, a14, a15, a16, a17, a18, a19, a20, a21, a22, a23, a24, a25, a26, a27, a28, a29, a30, a31, a32, a33, a34, a35, a36, a37, a38].getD i 0) A s s.heap ∧ va_OF "java/lang/String" "value" "[B" (.ref ([v0, v1, v2, v3, v4, v5, v6, v7, v8, v9, v10, v11, v12, v13, v14, v15, v16, v17, v18, v19, v20, v21, v22].getD i 0)) ([a0, a1, a2, a3, a4, a5, a6, a7, a8, a9, a10, a11, a12, a13, a14, a15, a16, a17, a18, a19, a20, a21, a22, a23, a24, a25, a26, a27, a28, a29, a30, a31, a32, a33, a34, a35, a36, a37, a38].getD i 0) A s s.heap ∧ va_T .byte ([v0, v1, v2, v3, v4, v5, v6, v7, v8, v9, v10, v11, v12, v13, v14, v15, v16, v17, v18, v19, v20, v21, v22].getD i 0) (lenJS.getD i 0) (fun j => .int ((bytJS.getD i []).getD j 0)) A s s.heap := fun i hi => match i, hi with
    | 0, _ => h0
    | 1, _ => h1
    | 2, _ => h2
    | 3, _ => h3
    | 4, _ => h4
    | 5, _ => h5
    | 6, _ => h6
    | 7, _ => h7
    | 8, _ => h8
    | 9, _ => h9
    | 10, _ => h10
    | 11, _ => h11
    | 12, _ => h12
    | 13, _ => h13
    | 14, _ => h14
    | 15, _ => h15
    | 16, _ => h16
    | 17, _ => h17
    | 18, _ => h18
    | 19, _ => h19
    | 20, _ => h20
    | 21, _ => h21
    | 22, _ => h22
    | i + 23, h => absurd h (by omega)
  have hI : ∀ i j : Nat, i < 23 → j < 23 → [a0, a1, a2, a3, a4, a5, a6, a7, a8, a9, a10, a11, a12, a13, a14, a15, a16, a17, a18, a19, a20, a21, a22, a23, a24, a25, a26, a27, a28, a29, a30, a31, a32, a33, a34, a35, a36, a37, a38].getD i 0 = [a0, a1, a2, a3, a4, a5, a6, a7, a8, a9, a10, a11, a12, a13, a14, a15, a16, a17, a18, a19, a20, a21, a22, a23, a24, a25, a26, a27, a28, a29, a30, a31, a32, a33, a34, a35, a36, a37, a38].getD j 0 → i = j := fun i j hi hj e => by
    have hi1 := hS i hi
    have hj1 := hS j hj
    rw [← e] at hj1
    have hq := st_apart hi1.2.2.1 hj1.2.2.1 hi1.2.2.2 hj1.2.2.2 (st_len i hi) (st_len j hj)
    exact st_diff i hi j hj hq.1 (fun p hp => Value.int.inj (hq.2 p hp))
  refine ⟨fun i => [a0, a1, a2, a3, a4, a5, a6, a7, a8, a9, a10, a11, a12, a13, a14, a15, a16, a17, a18, a19, a20, a21, a22, a23, a24, a25, a26, a27, a28, a29, a30, a31, a32, a33, a34, a35, a36, a37, a38].getD i 0, fun i => [v0, v1, v2, v3, v4, v5, v6, v7, v8, v9, v10, v11, v12, v13, v14, v15, v16, v17, v18, v19, v20, v21, v22].getD i 0, ⟨fun i hi => hS i hi, fun i j hi hj e => hI i j hi hj e⟩, ?_, va_Zof (hts _ (wst_0)) (hts _ (wg_in wst_1)) (va_eqt (hs _ (List.mem_of_getElem? (i := 4) (by decide +kernel) : Cond.eq (.static "java/lang/String" "COMPACT_STRINGS" "Z") (.int 1) ∈ FLS))) hA, va_Zqof (hts _ (wst_2)) (hts _ (wg_in wst_3)) (hs _ (List.mem_of_getElem? (i := 5) (by decide +kernel) : Cond.isRef (.static "jdk/internal/util/Preconditions" "SIOOBE_FORMATTER" "Ljava/util/function/BiFunction;") ∈ FLS)) hA, vx_Zqof (hts _ (wst_4)) (hts _ (wg_in wst_5)) (hs _ (List.mem_of_getElem? (i := 9) (by decide +kernel) : Cond.isRef (.static "java/lang/Throwable" "UNASSIGNED_STACK" "[Ljava/lang/StackTraceElement;") ∈ FLS)) hA, vx_Zqof (hts _ (wst_6)) (hts _ (wg_in wst_5)) (hs _ (List.mem_of_getElem? (i := 10) (by decide +kernel) : Cond.isRef (.static "java/lang/Throwable" "SUPPRESSED_SENTINEL" "Ljava/util/List;") ∈ FLS)) hA⟩
  refine List.forall_mem_cons.mpr ⟨vk_R.of (hts _ wst_7) e0, List.forall_mem_cons.mpr ⟨vk_R.of (hts _ wst_8) e1, List.forall_mem_cons.mpr ⟨vk_R.of (hts _ wst_9) e2, List.forall_mem_cons.mpr ⟨vk_R.of (hts _ wst_10) e3, List.forall_mem_cons.mpr ⟨vk_R.of (hts _ wst_11) e4, List.forall_mem_cons.mpr ⟨vk_R.of (hts _ wst_12) e23, List.forall_mem_cons.mpr ⟨vk_R.of (hts _ wst_13) e24, List.forall_mem_cons.mpr ⟨vk_R.of (hts _ wst_14) e25, List.forall_mem_cons.mpr ⟨vk_R.of (hts _ wst_15) e26, List.forall_mem_cons.mpr ⟨vk_R.of (hts _ wst_16) e27, List.forall_mem_cons.mpr ⟨vk_R.of (hts _ wst_17) e28, List.forall_mem_cons.mpr ⟨vk_R.of (hts _ wst_18) e29, List.forall_mem_cons.mpr ⟨vk_R.of (hts _ wst_19) e30, List.forall_mem_cons.mpr ⟨vk_R.of (hts _ wst_20) e31, List.forall_mem_cons.mpr ⟨vk_R.of (hts _ wst_21) e32, List.forall_mem_cons.mpr ⟨vk_R.of (hts _ wst_22) e33, List.forall_mem_cons.mpr ⟨vk_R.of (hts _ wst_23) e34, List.forall_mem_cons.mpr ⟨vk_R.of (hts _ wst_24) e35, List.forall_mem_cons.mpr ⟨vk_R.of (hts _ wst_25) e36, List.forall_mem_cons.mpr ⟨vk_R.of (hts _ wst_26) e37, List.forall_mem_cons.mpr ⟨vk_R.of (hts _ wst_27) e38, List.forall_mem_cons.mpr ⟨vk_R.of (hts _ wst_28) e5, List.forall_mem_cons.mpr ⟨vk_R.of (hts _ wst_29) e6, List.forall_mem_cons.mpr ⟨vk_R.of (hts _ wst_30) e7, List.forall_mem_cons.mpr ⟨vk_R.of (hts _ wst_31) e8, List.forall_mem_cons.mpr ⟨vk_R.of (hts _ wst_32) e9, List.forall_mem_cons.mpr ⟨vk_R.of (hts _ wst_33) e10, List.forall_mem_cons.mpr ⟨vk_R.of (hts _ wst_34) e11, List.forall_mem_cons.mpr ⟨vk_R.of (hts _ wst_35) e12, List.forall_mem_cons.mpr ⟨vk_R.of (hts _ wst_36) e13, List.forall_mem_cons.mpr ⟨vk_R.of (hts _ wst_37) e14, List.forall_mem_cons.mpr ⟨vk_R.of (hts _ wst_38) e15, List.forall_mem_cons.mpr ⟨vk_R.of (hts _ wst_39) e16, List.forall_mem_cons.mpr ⟨vk_R.of (hts _ wst_40) e17, List.forall_mem_cons.mpr ⟨vk_R.of (hts _ wst_41) e18, List.forall_mem_cons.mpr ⟨vk_R.of (hts _ wst_42) e19, List.forall_mem_cons.mpr ⟨vk_R.of (hts _ wst_43) e20, List.forall_mem_cons.mpr ⟨vk_R.of (hts _ wst_44) e21, List.forall_mem_cons.mpr ⟨vk_R.of (hts _ wst_45) e22, List.forall_mem_cons.mpr ⟨vk_R.of (hts _ wst_46) (va_eqL (hs _ st_eq_TicketGate_Parser_45) e10), List.forall_mem_cons.mpr ⟨vk_R.of (hts _ wst_47) (va_eqL (hs _ st_eq_TicketGate_Parser_54) e11), List.forall_mem_cons.mpr ⟨vk_R.of (hts _ wst_48) (va_eqL (hs _ st_eq_TicketGate_Parser_59) e12), List.forall_mem_cons.mpr ⟨vk_R.of (hts _ wst_49) (va_eqL (hs _ st_eq_TicketGate_Parser_64) e13), List.forall_mem_cons.mpr ⟨vk_R.of (hts _ wst_50) (va_eqL (hs _ st_eq_TicketGate_Parser_69) e14), List.forall_mem_cons.mpr ⟨vk_R.of (hts _ wst_51) (va_eqL (hs _ st_eq_TicketGate_Parser_74) e15), List.forall_mem_cons.mpr ⟨vk_R.of (hts _ wst_52) (va_eqL (hs _ st_eq_TicketGate_Parser_79) e16), List.forall_mem_cons.mpr ⟨vk_R.of (hts _ wst_53) (va_eqL (hs _ st_eq_TicketGate_Parser_84) e17), List.forall_mem_cons.mpr ⟨vk_R.of (hts _ wst_54) (va_eqL (hs _ st_eq_TicketGate_Parser_89) e18), List.forall_mem_cons.mpr ⟨vk_R.of (hts _ wst_55) (va_eqL (hs _ st_eq_TicketGate_Parser_94) e19), List.forall_mem_cons.mpr ⟨vk_R.of (hts _ wst_56) (va_eqL (hs _ st_eq_TicketGate_Parser_99) e20), List.forall_mem_cons.mpr ⟨vk_R.of (hts _ wst_57) (va_eqL (hs _ st_eq_TicketGate_Parser_104) e21), List.forall_mem_cons.mpr ⟨vk_R.of (hts _ wst_58) (va_eqL (hs _ st_eq_TicketGate_Parser_113) e22), List.forall_mem_cons.mpr ⟨vk_R.of (hts _ wst_59) (va_eqL (hs _ st_eq_TicketGate_Parser_188) e9), List.forall_mem_cons.mpr ⟨vk_R.of (hts _ wst_60) (va_eqL (hs _ st_eq_TicketGate_Parser_251) e6), List.forall_mem_cons.mpr ⟨vk_R.of (hts _ wst_61) (va_eqL (hs _ st_eq_TicketGate_Parser_253) e7), List.forall_mem_cons.mpr ⟨vk_R.of (hts _ wst_62) (va_eqL (hs _ st_eq_TicketGate_Parser_255) e8), fun _ h => absurd h List.not_mem_nil⟩⟩⟩⟩⟩⟩⟩⟩⟩⟩⟩⟩⟩⟩⟩⟩⟩⟩⟩⟩⟩⟩⟩⟩⟩⟩⟩⟩⟩⟩⟩⟩⟩⟩⟩⟩⟩⟩⟩⟩⟩⟩⟩⟩⟩⟩⟩⟩⟩⟩⟩⟩⟩⟩⟩⟩
