/-! The start: what the run stands on at the entry. -/
theorem t1_tb {w : Cond} (h : w ∈ tables_1_1) : w ∈ lw_tbl := (List.mem_append_right _ (List.mem_append_right _ (List.mem_append_left _ h)))
theorem t2_tb {w : Cond} (h : w ∈ tables_1_2) : w ∈ lw_tbl := (List.mem_append_right _ (List.mem_append_right _ (List.mem_append_right _ (List.mem_append_left _ h))))
theorem t3_tb {w : Cond} (h : w ∈ tables_1_3) : w ∈ lw_tbl := (List.mem_append_right _ (List.mem_append_right _ (List.mem_append_right _ (List.mem_append_right _ (List.mem_append_left _ h)))))
theorem t4_tb {w : Cond} (h : w ∈ tables_1_4) : w ∈ lw_tbl := (List.mem_append_right _ (List.mem_append_right _ (List.mem_append_right _ (List.mem_append_right _ (List.mem_append_right _ (List.mem_append_left _ h))))))
theorem t5_tb {w : Cond} (h : w ∈ tables_1_5) : w ∈ lw_tbl := (List.mem_append_right _ (List.mem_append_right _ (List.mem_append_right _ (List.mem_append_right _ (List.mem_append_right _ (List.mem_append_right _ (List.mem_append_left _ h)))))))
theorem t6_tb {w : Cond} (h : w ∈ tables_1_6) : w ∈ lw_tbl := (List.mem_append_right _ (List.mem_append_right _ (List.mem_append_right _ (List.mem_append_right _ (List.mem_append_right _ (List.mem_append_right _ (List.mem_append_right _ (List.mem_append_left _ h))))))))
theorem t7_tb {w : Cond} (h : w ∈ tables_1_7) : w ∈ lw_tbl := (List.mem_append_right _ (List.mem_append_right _ (List.mem_append_right _ (List.mem_append_right _ (List.mem_append_right _ (List.mem_append_right _ (List.mem_append_right _ (List.mem_append_right _ (h)))))))))
theorem wsz_0 : Cond.laysStatic "java/lang/String" "COMPACT_STRINGS" "Z" ∈ lw_tbl := t1_tb (List.mem_of_getElem? (i := 238) rfl)
theorem wsz_1 : Cond.initialized "java/lang/String" ∈ Wg := t1_in (List.mem_of_getElem? (i := 13) rfl) rfl
theorem wsz_2 : Cond.laysStatic "jdk/internal/util/Preconditions" "SIOOBE_FORMATTER" "Ljava/util/function/BiFunction;" ∈ lw_tbl := t2_tb (List.mem_of_getElem? (i := 14) rfl)
theorem wsz_3 : Cond.initialized "jdk/internal/util/Preconditions" ∈ Wg := t1_in (List.mem_of_getElem? (i := 15) rfl) rfl
theorem wsz_4 : Cond.laysStatic "java/lang/Throwable" "UNASSIGNED_STACK" "[Ljava/lang/StackTraceElement;" ∈ lw_tbl := t5_tb (List.mem_of_getElem? (i := 53) rfl)
theorem wsz_5 : Cond.initialized "java/lang/Throwable" ∈ Wg := t1_in (List.mem_of_getElem? (i := 24) rfl) rfl
theorem wsz_6 : Cond.laysStatic "java/lang/Throwable" "SUPPRESSED_SENTINEL" "Ljava/util/List;" ∈ lw_tbl := t5_tb (List.mem_of_getElem? (i := 55) rfl)
theorem wsz_7 : Cond.stringRef RX11 47 "gate 2 5;realm alp 60 300 even;realm bay 40 90 fast 2;realm cob 30 20 slow 3;" ∈ lw_tbl := t1_tb (List.mem_of_getElem? (i := 224) rfl)
theorem wsz_8 : Cond.stringRef RX11 53 "trust alp bay;trust bay cob;trust cob alp;user ann alp 11 slow 1;" ∈ lw_tbl := t2_tb (List.mem_of_getElem? (i := 41) rfl)
theorem wsz_9 : Cond.stringRef RX11 55 "user ben bay 22 fast 4;service brie bay 3;service goat alp 1;" ∈ lw_tbl := t2_tb (List.mem_of_getElem? (i := 42) rfl)
theorem wsz_10 : Cond.stringRef RX11 57 "login ann 11 renewable;refer 0 bay;pass 5;request 0 goat;login ben 22;" ∈ lw_tbl := t2_tb (List.mem_of_getElem? (i := 43) rfl)
theorem wsz_11 : Cond.stringRef RX11 59 "request 3 brie;cheese 4;pass 1;" ∈ lw_tbl := t2_tb (List.mem_of_getElem? (i := 44) rfl)
theorem wsz_12 : Cond.stringRef RX11 81 "the input buffer has no room" ∈ lw_tbl := t5_tb (List.mem_of_getElem? (i := 219) rfl)
theorem wsz_13 : Cond.stringRef RX11 90 "the length is out of range" ∈ lw_tbl := t6_tb (List.mem_of_getElem? (i := 3) rfl)
theorem wsz_14 : Cond.stringRef RX11 93 "the text has an error" ∈ lw_tbl := t6_tb (List.mem_of_getElem? (i := 18) rfl)
theorem wsz_15 : Cond.stringRef RX11 180 "no such index" ∈ lw_tbl := t5_tb (List.mem_of_getElem? (i := 68) rfl)
theorem wsz_16 : Cond.stringRef RX11 278 "the offset is out of range" ∈ lw_tbl := t7_tb (List.mem_of_getElem? (i := 111) rfl)
theorem wsz_17 : Cond.stringRef RX11 219 "the number of minutes is out of range" ∈ lw_tbl := t7_tb (List.mem_of_getElem? (i := 117) rfl)
theorem wsz_18 : Cond.stringRef RX11 330 "no such ticket" ∈ lw_tbl := t5_tb (List.mem_of_getElem? (i := 113) rfl)
theorem wsz_19 : Cond.stringRef RX11 333 "no such realm" ∈ lw_tbl := t5_tb (List.mem_of_getElem? (i := 182) rfl)
theorem wsz_20 : Cond.stringRef RX11 336 "no such user" ∈ lw_tbl := t5_tb (List.mem_of_getElem? (i := 169) rfl)
theorem wsz_21 : Cond.stringRef RX11 339 "no such service" ∈ lw_tbl := t5_tb (List.mem_of_getElem? (i := 195) rfl)
theorem wsz_22 : Cond.stringRef RX11 343 "the password is out of range" ∈ lw_tbl := t7_tb (List.mem_of_getElem? (i := 65) rfl)
theorem wsz_23 : Cond.stringRef RX11 345 "refused" ∈ lw_tbl := t7_tb (List.mem_of_getElem? (i := 71) rfl)
theorem wsz_24 : Cond.stringRef RX1 45 "realm" ∈ lw_tbl := t2_tb (List.mem_of_getElem? (i := 129) rfl)
theorem wsz_25 : Cond.stringRef RX1 54 "trust" ∈ lw_tbl := t2_tb (List.mem_of_getElem? (i := 193) rfl)
theorem wsz_26 : Cond.stringRef RX1 59 "user" ∈ lw_tbl := t2_tb (List.mem_of_getElem? (i := 216) rfl)
theorem wsz_27 : Cond.stringRef RX1 64 "service" ∈ lw_tbl := t2_tb (List.mem_of_getElem? (i := 234) rfl)
theorem wsz_28 : Cond.stringRef RX1 69 "login" ∈ lw_tbl := t3_tb (List.mem_of_getElem? (i := 12) rfl)
theorem wsz_29 : Cond.stringRef RX1 74 "refer" ∈ lw_tbl := t3_tb (List.mem_of_getElem? (i := 64) rfl)
theorem wsz_30 : Cond.stringRef RX1 79 "request" ∈ lw_tbl := t3_tb (List.mem_of_getElem? (i := 102) rfl)
theorem wsz_31 : Cond.stringRef RX1 84 "renew" ∈ lw_tbl := t3_tb (List.mem_of_getElem? (i := 118) rfl)
theorem wsz_32 : Cond.stringRef RX1 89 "cheese" ∈ lw_tbl := t3_tb (List.mem_of_getElem? (i := 135) rfl)
theorem wsz_33 : Cond.stringRef RX1 94 "drop" ∈ lw_tbl := t3_tb (List.mem_of_getElem? (i := 182) rfl)
theorem wsz_34 : Cond.stringRef RX1 99 "sweep" ∈ lw_tbl := t3_tb (List.mem_of_getElem? (i := 190) rfl)
theorem wsz_35 : Cond.stringRef RX1 104 "pass" ∈ lw_tbl := t3_tb (List.mem_of_getElem? (i := 204) rfl)
theorem wsz_36 : Cond.stringRef RX1 113 "gate" ∈ lw_tbl := t2_tb (List.mem_of_getElem? (i := 82) rfl)
theorem wsz_37 : Cond.stringRef RX1 188 "renewable" ∈ lw_tbl := t3_tb (List.mem_of_getElem? (i := 17) rfl)
theorem wsz_38 : Cond.stringRef RX1 251 "fast" ∈ lw_tbl := t2_tb (List.mem_of_getElem? (i := 174) rfl)
theorem wsz_39 : Cond.stringRef RX1 253 "even" ∈ lw_tbl := t2_tb (List.mem_of_getElem? (i := 175) rfl)
theorem wsz_40 : Cond.stringRef RX1 255 "slow" ∈ lw_tbl := t2_tb (List.mem_of_getElem? (i := 176) rfl)
theorem wsz_41 : Cond.stringRef RL 38 " even;" ∈ lw_tbl := t6_tb (List.mem_of_getElem? (i := 209) rfl)
theorem wsz_42 : Cond.stringRef RL 43 " fast " ∈ lw_tbl := t6_tb (List.mem_of_getElem? (i := 216) rfl)
theorem wsz_43 : Cond.stringRef RL 52 ";" ∈ lw_tbl := t6_tb (List.mem_of_getElem? (i := 217) rfl)
theorem wsz_44 : Cond.stringRef RL 58 " slow " ∈ lw_tbl := t7_tb (List.mem_of_getElem? (i := 43) rfl)
theorem wsz_45 : Cond.stringRef RL 64 "gate " ∈ lw_tbl := t6_tb (List.mem_of_getElem? (i := 35) rfl)
theorem wsz_46 : Cond.stringRef RL 72 "realm " ∈ lw_tbl := t6_tb (List.mem_of_getElem? (i := 203) rfl)
theorem wsz_47 : Cond.stringRef RL 82 "trust " ∈ lw_tbl := t7_tb (List.mem_of_getElem? (i := 45) rfl)
theorem wsz_48 : Cond.stringRef RL 84 "user " ∈ lw_tbl := t7_tb (List.mem_of_getElem? (i := 46) rfl)
theorem wsz_49 : Cond.stringRef RL 89 "service " ∈ lw_tbl := t7_tb (List.mem_of_getElem? (i := 50) rfl)
theorem wsz_50 : Cond.laysStatic "java/lang/Integer" "DigitOnes" "[B" ∈ lw_tbl := t6_tb (List.mem_of_getElem? (i := 179) rfl)
theorem wsz_51 : Cond.initialized "java/lang/Integer" ∈ Wg := t1_in (List.mem_of_getElem? (i := 23) rfl) rfl
theorem wsz_52 : Cond.laysStatic "java/lang/Integer" "DigitTens" "[B" ∈ lw_tbl := t6_tb (List.mem_of_getElem? (i := 181) rfl)
def FLS : List Cond := flatC (Cond.and given_1 narrow_1)
def strC (own : String) (k n : Nat) (bs : List Int32) : List Cond := [.exactly (.string own k) "java/lang/String", .eq (.field (.string own k) "java/lang/String" "coder" "B") (.int 0), .arrayOf (.field (.string own k) "java/lang/String" "value" "[B") .byte, .eq (.length (.field (.string own k) "java/lang/String" "value" "[B")) (.int (Int32.ofNat n))] ++ (List.range n).map (fun j => .eq (.elem (.field (.string own k) "java/lang/String" "value" "[B") (.int (Int32.ofNat j))) (.int (bs.getD j 0)))
theorem st_one {s : State} {args : Array Value} (hs : ∀ c ∈ FLS, c.before args s = true) {A : Nat → Prop} (hA : ∀ a : Nat, a < s.heap.size → ¬ A a) (own : String) (k p n : Nat) (bs : List Int32) (hn : n < 2 ^ 31) (h : (FLS.drop p).take (4 + n) = strC own k n bs) : ∃ a v : Nat, (va_O "java/lang/String" a A s s.heap ∧ va_OF "java/lang/String" "coder" "B" (.int 0) a A s s.heap ∧ va_OF "java/lang/String" "value" "[B" (.ref v) a A s s.heap ∧ va_T .byte v n (fun j => .int (bs.getD j 0)) A s s.heap) ∧ (Term.string own k).eval args s none [] s = some (.ref a) := by
  have hc : ∀ c ∈ strC own k n bs, c.before args s = true := fun c hc => hs c (List.mem_of_mem_drop (List.mem_of_mem_take (by rw [h]; exact hc)))
  obtain ⟨adK, adV, h1, h2⟩ := vk_Sof (args := args) (s := s) (N := 1) (tm := fun _ => .string own k) (len := [n]) (byt := [bs]) (A := A)
    (fun i hi => by obtain rfl : i = 0 := by omega
                    exact hn)
    (fun i hi => hc _ (List.mem_append_left _ List.mem_cons_self))
    (fun i hi => hc _ (List.mem_append_left _ (List.mem_cons_of_mem _ List.mem_cons_self)))
    (fun i hi => hc _ (List.mem_append_left _ (List.mem_cons_of_mem _ (List.mem_cons_of_mem _ List.mem_cons_self))))
    (fun i hi => by obtain rfl : i = 0 := by omega
                    exact hc _ (List.mem_append_left _ (List.mem_cons_of_mem _ (List.mem_cons_of_mem _ (List.mem_cons_of_mem _ List.mem_cons_self)))))
    (fun i hi j hj => by obtain rfl : i = 0 := by omega
                         exact hc _ (List.mem_append_right _ (List.mem_map.mpr ⟨j, List.mem_range.mpr hj, rfl⟩)))
    (fun i j hi hj hne => absurd (by omega) hne) hA
  exact ⟨adK 0, adV 0, h1.1 0 (by decide), h2 0 (by decide)⟩
theorem st_txt {s : State} {args : Array Value} {t : Term} (h : (Cond.exactly t "java/lang/String").before args s = true) : ∃ a : Nat, t.eval args s none [] s = some (.ref a) := by
  obtain ⟨a, c, cA, kA, q1, q2, q3, q4, q5, q6, -⟩ := Cond.exactly_spec (args := args) (first := s) (o := none) (s := s) (idx := []) (t := t) (cls := "java/lang/String") h
  exact ⟨a, q1⟩
theorem st_apart {s : State} {A : Nat → Prop} {a v w n n' : Nat} {f f' : Nat → Value} (h1 : va_OF "java/lang/String" "value" "[B" (.ref v) a A s s.heap) (h2 : va_OF "java/lang/String" "value" "[B" (.ref w) a A s s.heap) (t1 : va_T .byte v n f A s s.heap) (t2 : va_T .byte w n' f' A s s.heap) (hn : n < 2 ^ 31) (hn' : n' < 2 ^ 31) : n = n' ∧ ∀ j, j < n → f j = f' j := by
  obtain ⟨cf, k, i, fl, cell, e1, e2, e3, e4, e5, e6⟩ := h1
  obtain ⟨cf', k', i', fl', cell', g1, g2, g3, g4, g5, g6⟩ := h2
  cases Option.some.inj (e1.symm.trans g1)
  cases Option.some.inj (e3.symm.trans g3)
  cases Option.some.inj (e5.symm.trans g5)
  obtain ⟨c1, u1, u2, u3, u4, u5, u6, u7⟩ := t1
  obtain ⟨c2, w1, w2, w3, w4, w5, w6, w7⟩ := t2
  cases Option.some.inj (u1.symm.trans w1)
  have hE := u5.symm.trans w5
  have hI := congrArg Int32.toInt hE
  rw [Int32.toInt_ofNat_of_lt hn, Int32.toInt_ofNat_of_lt hn'] at hI
  have hN : n = n' := by omega
  subst hN
  exact ⟨rfl, fun j hj => Option.some.inj ((u6 j hj).symm.trans (w6 j hj))⟩
theorem st_diff : ∀ i, i < 31 → ∀ j, j < 31 → lenJS.getD i 0 = lenJS.getD j 0 → (∀ p, p < lenJS.getD i 0 → (bytJS.getD i []).getD p 0 = (bytJS.getD j []).getD p 0) → i = j := by decide +kernel
theorem st_len : ∀ i, i < 31 → lenJS.getD i 0 < 2 ^ 31 := by decide +kernel
theorem strT_0 : (FLS.drop 251).take (4 + lenJS.getD 0 0) = strC "TicketGate" 47 (lenJS.getD 0 0) (bytJS.getD 0 []) := by decide +kernel
theorem strT_1 : (FLS.drop 332).take (4 + lenJS.getD 1 0) = strC "TicketGate" 53 (lenJS.getD 1 0) (bytJS.getD 1 []) := by decide +kernel
theorem strT_2 : (FLS.drop 401).take (4 + lenJS.getD 2 0) = strC "TicketGate" 55 (lenJS.getD 2 0) (bytJS.getD 2 []) := by decide +kernel
theorem strT_3 : (FLS.drop 466).take (4 + lenJS.getD 3 0) = strC "TicketGate" 57 (lenJS.getD 3 0) (bytJS.getD 3 []) := by decide +kernel
theorem strT_4 : (FLS.drop 540).take (4 + lenJS.getD 4 0) = strC "TicketGate" 59 (lenJS.getD 4 0) (bytJS.getD 4 []) := by decide +kernel
theorem strT_5 : (FLS.drop 583).take (4 + lenJS.getD 5 0) = strC "TicketGate$Parser" 45 (lenJS.getD 5 0) (bytJS.getD 5 []) := by decide +kernel
theorem strT_6 : (FLS.drop 616).take (4 + lenJS.getD 6 0) = strC "TicketGate$Parser" 54 (lenJS.getD 6 0) (bytJS.getD 6 []) := by decide +kernel
theorem strT_7 : (FLS.drop 625).take (4 + lenJS.getD 7 0) = strC "TicketGate$Parser" 59 (lenJS.getD 7 0) (bytJS.getD 7 []) := by decide +kernel
theorem strT_8 : (FLS.drop 633).take (4 + lenJS.getD 8 0) = strC "TicketGate$Parser" 64 (lenJS.getD 8 0) (bytJS.getD 8 []) := by decide +kernel
theorem strT_9 : (FLS.drop 644).take (4 + lenJS.getD 9 0) = strC "TicketGate$Parser" 69 (lenJS.getD 9 0) (bytJS.getD 9 []) := by decide +kernel
theorem strT_10 : (FLS.drop 666).take (4 + lenJS.getD 10 0) = strC "TicketGate$Parser" 74 (lenJS.getD 10 0) (bytJS.getD 10 []) := by decide +kernel
theorem strT_11 : (FLS.drop 675).take (4 + lenJS.getD 11 0) = strC "TicketGate$Parser" 79 (lenJS.getD 11 0) (bytJS.getD 11 []) := by decide +kernel
theorem strT_12 : (FLS.drop 686).take (4 + lenJS.getD 12 0) = strC "TicketGate$Parser" 84 (lenJS.getD 12 0) (bytJS.getD 12 []) := by decide +kernel
theorem strT_13 : (FLS.drop 695).take (4 + lenJS.getD 13 0) = strC "TicketGate$Parser" 89 (lenJS.getD 13 0) (bytJS.getD 13 []) := by decide +kernel
theorem strT_14 : (FLS.drop 705).take (4 + lenJS.getD 14 0) = strC "TicketGate$Parser" 94 (lenJS.getD 14 0) (bytJS.getD 14 []) := by decide +kernel
theorem strT_15 : (FLS.drop 713).take (4 + lenJS.getD 15 0) = strC "TicketGate$Parser" 99 (lenJS.getD 15 0) (bytJS.getD 15 []) := by decide +kernel
theorem strT_16 : (FLS.drop 722).take (4 + lenJS.getD 16 0) = strC "TicketGate$Parser" 104 (lenJS.getD 16 0) (bytJS.getD 16 []) := by decide +kernel
theorem strT_17 : (FLS.drop 575).take (4 + lenJS.getD 17 0) = strC "TicketGate$Parser" 113 (lenJS.getD 17 0) (bytJS.getD 17 []) := by decide +kernel
theorem strT_18 : (FLS.drop 653).take (4 + lenJS.getD 18 0) = strC "TicketGate$Parser" 188 (lenJS.getD 18 0) (bytJS.getD 18 []) := by decide +kernel
theorem strT_19 : (FLS.drop 592).take (4 + lenJS.getD 19 0) = strC "TicketGate$Parser" 251 (lenJS.getD 19 0) (bytJS.getD 19 []) := by decide +kernel
theorem strT_20 : (FLS.drop 600).take (4 + lenJS.getD 20 0) = strC "TicketGate$Parser" 253 (lenJS.getD 20 0) (bytJS.getD 20 []) := by decide +kernel
theorem strT_21 : (FLS.drop 608).take (4 + lenJS.getD 21 0) = strC "TicketGate$Parser" 255 (lenJS.getD 21 0) (bytJS.getD 21 []) := by decide +kernel
theorem strT_22 : (FLS.drop 923).take (4 + lenJS.getD 22 0) = strC "TicketGateLaw" 38 (lenJS.getD 22 0) (bytJS.getD 22 []) := by decide +kernel
theorem strT_23 : (FLS.drop 933).take (4 + lenJS.getD 23 0) = strC "TicketGateLaw" 43 (lenJS.getD 23 0) (bytJS.getD 23 []) := by decide +kernel
theorem strT_24 : (FLS.drop 943).take (4 + lenJS.getD 24 0) = strC "TicketGateLaw" 52 (lenJS.getD 24 0) (bytJS.getD 24 []) := by decide +kernel
theorem strT_25 : (FLS.drop 955).take (4 + lenJS.getD 25 0) = strC "TicketGateLaw" 58 (lenJS.getD 25 0) (bytJS.getD 25 []) := by decide +kernel
theorem strT_26 : (FLS.drop 904).take (4 + lenJS.getD 26 0) = strC "TicketGateLaw" 64 (lenJS.getD 26 0) (bytJS.getD 26 []) := by decide +kernel
theorem strT_27 : (FLS.drop 913).take (4 + lenJS.getD 27 0) = strC "TicketGateLaw" 72 (lenJS.getD 27 0) (bytJS.getD 27 []) := by decide +kernel
theorem strT_28 : (FLS.drop 965).take (4 + lenJS.getD 28 0) = strC "TicketGateLaw" 82 (lenJS.getD 28 0) (bytJS.getD 28 []) := by decide +kernel
theorem strT_29 : (FLS.drop 975).take (4 + lenJS.getD 29 0) = strC "TicketGateLaw" 84 (lenJS.getD 29 0) (bytJS.getD 29 []) := by decide +kernel
theorem strT_30 : (FLS.drop 984).take (4 + lenJS.getD 30 0) = strC "TicketGateLaw" 89 (lenJS.getD 30 0) (bytJS.getD 30 []) := by decide +kernel
theorem st_exc_31 : Cond.exactly (.string "TicketGate" 81) "java/lang/String" ∈ FLS := List.mem_of_getElem? (i := 817) (by decide +kernel)
theorem st_exc_32 : Cond.exactly (.string "TicketGate" 90) "java/lang/String" ∈ FLS := List.mem_of_getElem? (i := 849) (by decide +kernel)
theorem st_exc_33 : Cond.exactly (.string "TicketGate" 93) "java/lang/String" ∈ FLS := List.mem_of_getElem? (i := 879) (by decide +kernel)
theorem st_exc_34 : Cond.exactly (.string "TicketGate" 180) "java/lang/String" ∈ FLS := List.mem_of_getElem? (i := 730) (by decide +kernel)
theorem st_exc_35 : Cond.exactly (.string "TicketGate" 278) "java/lang/String" ∈ FLS := List.mem_of_getElem? (i := 1039) (by decide +kernel)
theorem st_exc_36 : Cond.exactly (.string "TicketGate" 219) "java/lang/String" ∈ FLS := List.mem_of_getElem? (i := 1069) (by decide +kernel)
theorem st_exc_37 : Cond.exactly (.string "TicketGate" 330) "java/lang/String" ∈ FLS := List.mem_of_getElem? (i := 747) (by decide +kernel)
theorem st_exc_38 : Cond.exactly (.string "TicketGate" 333) "java/lang/String" ∈ FLS := List.mem_of_getElem? (i := 781) (by decide +kernel)
theorem st_exc_39 : Cond.exactly (.string "TicketGate" 336) "java/lang/String" ∈ FLS := List.mem_of_getElem? (i := 765) (by decide +kernel)
theorem st_exc_40 : Cond.exactly (.string "TicketGate" 339) "java/lang/String" ∈ FLS := List.mem_of_getElem? (i := 798) (by decide +kernel)
theorem st_exc_41 : Cond.exactly (.string "TicketGate" 343) "java/lang/String" ∈ FLS := List.mem_of_getElem? (i := 996) (by decide +kernel)
theorem st_exc_42 : Cond.exactly (.string "TicketGate" 345) "java/lang/String" ∈ FLS := List.mem_of_getElem? (i := 1028) (by decide +kernel)
theorem va_eqL {args : Array Value} {s : State} {t u : Term} {a : Nat} (h : (Cond.eq t u).before args s = true) (hu : u.eval args s none [] s = some (.ref a)) : t.eval args s none [] s = some (.ref a) := by
  cases ht : t.eval args s none [] s with
  | none => simp [Cond.before, Cond.holds, Cond.value, ht, hu] at h
  | some w =>
    cases w <;> simp [Cond.before, Cond.holds, Cond.value, ht, hu] at h
    rw [h]
set_option maxRecDepth 100000 in
set_option maxHeartbeats 4000000 in
theorem st_vU {s : State} {args : Array Value} (hs : ∀ c ∈ FLS, c.before args s = true) (hts : ∀ w ∈ lw_tbl, w.before args s = true) {A : Nat → Prop} (hA : ∀ a : Nat, a < s.heap.size → ¬ A a) : ∃ sk sv : Nat → Nat, vU sk sv A s s.heap := by
  obtain ⟨a0, v0, h0, e0⟩ := st_one hs hA "TicketGate" 47 251 (lenJS.getD 0 0) (bytJS.getD 0 []) (by decide) strT_0
  obtain ⟨a1, v1, h1, e1⟩ := st_one hs hA "TicketGate" 53 332 (lenJS.getD 1 0) (bytJS.getD 1 []) (by decide) strT_1
  obtain ⟨a2, v2, h2, e2⟩ := st_one hs hA "TicketGate" 55 401 (lenJS.getD 2 0) (bytJS.getD 2 []) (by decide) strT_2
  obtain ⟨a3, v3, h3, e3⟩ := st_one hs hA "TicketGate" 57 466 (lenJS.getD 3 0) (bytJS.getD 3 []) (by decide) strT_3
  obtain ⟨a4, v4, h4, e4⟩ := st_one hs hA "TicketGate" 59 540 (lenJS.getD 4 0) (bytJS.getD 4 []) (by decide) strT_4
  obtain ⟨a5, v5, h5, e5⟩ := st_one hs hA "TicketGate$Parser" 45 583 (lenJS.getD 5 0) (bytJS.getD 5 []) (by decide) strT_5
  obtain ⟨a6, v6, h6, e6⟩ := st_one hs hA "TicketGate$Parser" 54 616 (lenJS.getD 6 0) (bytJS.getD 6 []) (by decide) strT_6
  obtain ⟨a7, v7, h7, e7⟩ := st_one hs hA "TicketGate$Parser" 59 625 (lenJS.getD 7 0) (bytJS.getD 7 []) (by decide) strT_7
  obtain ⟨a8, v8, h8, e8⟩ := st_one hs hA "TicketGate$Parser" 64 633 (lenJS.getD 8 0) (bytJS.getD 8 []) (by decide) strT_8
  obtain ⟨a9, v9, h9, e9⟩ := st_one hs hA "TicketGate$Parser" 69 644 (lenJS.getD 9 0) (bytJS.getD 9 []) (by decide) strT_9
  obtain ⟨a10, v10, h10, e10⟩ := st_one hs hA "TicketGate$Parser" 74 666 (lenJS.getD 10 0) (bytJS.getD 10 []) (by decide) strT_10
  obtain ⟨a11, v11, h11, e11⟩ := st_one hs hA "TicketGate$Parser" 79 675 (lenJS.getD 11 0) (bytJS.getD 11 []) (by decide) strT_11
  obtain ⟨a12, v12, h12, e12⟩ := st_one hs hA "TicketGate$Parser" 84 686 (lenJS.getD 12 0) (bytJS.getD 12 []) (by decide) strT_12
  obtain ⟨a13, v13, h13, e13⟩ := st_one hs hA "TicketGate$Parser" 89 695 (lenJS.getD 13 0) (bytJS.getD 13 []) (by decide) strT_13
  obtain ⟨a14, v14, h14, e14⟩ := st_one hs hA "TicketGate$Parser" 94 705 (lenJS.getD 14 0) (bytJS.getD 14 []) (by decide) strT_14
  obtain ⟨a15, v15, h15, e15⟩ := st_one hs hA "TicketGate$Parser" 99 713 (lenJS.getD 15 0) (bytJS.getD 15 []) (by decide) strT_15
  obtain ⟨a16, v16, h16, e16⟩ := st_one hs hA "TicketGate$Parser" 104 722 (lenJS.getD 16 0) (bytJS.getD 16 []) (by decide) strT_16
  obtain ⟨a17, v17, h17, e17⟩ := st_one hs hA "TicketGate$Parser" 113 575 (lenJS.getD 17 0) (bytJS.getD 17 []) (by decide) strT_17
  obtain ⟨a18, v18, h18, e18⟩ := st_one hs hA "TicketGate$Parser" 188 653 (lenJS.getD 18 0) (bytJS.getD 18 []) (by decide) strT_18
  obtain ⟨a19, v19, h19, e19⟩ := st_one hs hA "TicketGate$Parser" 251 592 (lenJS.getD 19 0) (bytJS.getD 19 []) (by decide) strT_19
  obtain ⟨a20, v20, h20, e20⟩ := st_one hs hA "TicketGate$Parser" 253 600 (lenJS.getD 20 0) (bytJS.getD 20 []) (by decide) strT_20
  obtain ⟨a21, v21, h21, e21⟩ := st_one hs hA "TicketGate$Parser" 255 608 (lenJS.getD 21 0) (bytJS.getD 21 []) (by decide) strT_21
  obtain ⟨a22, v22, h22, e22⟩ := st_one hs hA "TicketGateLaw" 38 923 (lenJS.getD 22 0) (bytJS.getD 22 []) (by decide) strT_22
  obtain ⟨a23, v23, h23, e23⟩ := st_one hs hA "TicketGateLaw" 43 933 (lenJS.getD 23 0) (bytJS.getD 23 []) (by decide) strT_23
  obtain ⟨a24, v24, h24, e24⟩ := st_one hs hA "TicketGateLaw" 52 943 (lenJS.getD 24 0) (bytJS.getD 24 []) (by decide) strT_24
  obtain ⟨a25, v25, h25, e25⟩ := st_one hs hA "TicketGateLaw" 58 955 (lenJS.getD 25 0) (bytJS.getD 25 []) (by decide) strT_25
  obtain ⟨a26, v26, h26, e26⟩ := st_one hs hA "TicketGateLaw" 64 904 (lenJS.getD 26 0) (bytJS.getD 26 []) (by decide) strT_26
  obtain ⟨a27, v27, h27, e27⟩ := st_one hs hA "TicketGateLaw" 72 913 (lenJS.getD 27 0) (bytJS.getD 27 []) (by decide) strT_27
  obtain ⟨a28, v28, h28, e28⟩ := st_one hs hA "TicketGateLaw" 82 965 (lenJS.getD 28 0) (bytJS.getD 28 []) (by decide) strT_28
  obtain ⟨a29, v29, h29, e29⟩ := st_one hs hA "TicketGateLaw" 84 975 (lenJS.getD 29 0) (bytJS.getD 29 []) (by decide) strT_29
  obtain ⟨a30, v30, h30, e30⟩ := st_one hs hA "TicketGateLaw" 89 984 (lenJS.getD 30 0) (bytJS.getD 30 []) (by decide) strT_30
  obtain ⟨a31, e31⟩ := st_txt (hs _ st_exc_31)
  obtain ⟨a32, e32⟩ := st_txt (hs _ st_exc_32)
  obtain ⟨a33, e33⟩ := st_txt (hs _ st_exc_33)
  obtain ⟨a34, e34⟩ := st_txt (hs _ st_exc_34)
  obtain ⟨a35, e35⟩ := st_txt (hs _ st_exc_35)
  obtain ⟨a36, e36⟩ := st_txt (hs _ st_exc_36)
  obtain ⟨a37, e37⟩ := st_txt (hs _ st_exc_37)
  obtain ⟨a38, e38⟩ := st_txt (hs _ st_exc_38)
  obtain ⟨a39, e39⟩ := st_txt (hs _ st_exc_39)
  obtain ⟨a40, e40⟩ := st_txt (hs _ st_exc_40)
  obtain ⟨a41, e41⟩ := st_txt (hs _ st_exc_41)
  obtain ⟨a42, e42⟩ := st_txt (hs _ st_exc_42)
  have hS : ∀ i : Nat, i < 31 → va_O "java/lang/String" ([a0, a1, a2, a3, a4, a5, a6, a7, a8, a9, a10, a11, a12, a13, a14, a15, a16, a17, a18, a19, a20, a21, a22, a23, a24, a25, a26, a27, a28, a29, a30, a31, a32, a33, a34, a35, a36, a37, a38, a39, a40, a41, a42].getD i 0) A s s.heap ∧ va_OF "java/lang/String" "coder" "B" (.int 0) ([a0, a1, a2, a3, a4, a5, a6, a7, a8, a9, a10, a11, a12, a13, a14, a15, a16, a17, a18, a19, a20, a21, a22, a23, a24, a25, a26, a27, a28, a29, a30, a31, a32, a33, a34, a35, a36, a37, a38, a39, a40, a41, a42].getD i 0) A s s.heap ∧ va_OF "java/lang/String" "value" "[B" (.ref ([v0, v1, v2, v3, v4, v5, v6, v7, v8, v9, v10, v11, v12, v13, v14, v15, v16, v17, v18, v19, v20, v21, v22, v23, v24, v25, v26, v27, v28, v29, v30].getD i 0)) ([a0, a1, a2, a3, a4, a5, a6, a7, a8, a9, a10, a11, a12, a13, a14, a15, a16, a17, a18, a19, a20, a21, a22, a23, a24, a25, a26, a27, a28, a29, a30, a31, a32, a33, a34, a35, a36, a37, a38, a39, a40, a41, a42].getD i 0) A s s.heap ∧ va_T .byte ([v0, v1, v2, v3, v4, v5, v6, v7, v8, v9, v10, v11, v12, v13, v14, v15, v16, v17, v18, v19, v20, v21, v22, v23, v24, v25, v26, v27, v28, v29, v30].getD i 0) (lenJS.getD i 0) (fun j => .int ((bytJS.getD i []).getD j 0)) A s s.heap := fun i hi => match i, hi with
    | 0, _ => h0
    | 1, _ => h1
    | 2, _ => h2
    | 3, _ => h3
    | 4, _ => h4
    | 5, _ => h5
    | 6, _ => h6
    | 7, _ => h7
    | 8, _ => h8
    | 9, _ => h9
    | 10, _ => h10
    | 11, _ => h11
    | 12, _ => h12
    | 13, _ => h13
    | 14, _ => h14
    | 15, _ => h15
    | 16, _ => h16
    | 17, _ => h17
    | 18, _ => h18
    | 19, _ => h19
    | 20, _ => h20
    | 21, _ => h21
    | 22, _ => h22
    | 23, _ => h23
    | 24, _ => h24
    | 25, _ => h25
    | 26, _ => h26
    | 27, _ => h27
    | 28, _ => h28
    | 29, _ => h29
    | 30, _ => h30
    | i + 31, h => absurd h (by omega)
  have hI : ∀ i j : Nat, i < 31 → j < 31 → [a0, a1, a2, a3, a4, a5, a6, a7, a8, a9, a10, a11, a12, a13, a14, a15, a16, a17, a18, a19, a20, a21, a22, a23, a24, a25, a26, a27, a28, a29, a30, a31, a32, a33, a34, a35, a36, a37, a38, a39, a40, a41, a42].getD i 0 = [a0, a1, a2, a3, a4, a5, a6, a7, a8, a9, a10, a11, a12, a13, a14, a15, a16, a17, a18, a19, a20, a21, a22, a23, a24, a25, a26, a27, a28, a29, a30, a31, a32, a33, a34, a35, a36, a37, a38, a39, a40, a41, a42].getD j 0 → i = j := fun i j hi hj e => by
    have hi1 := hS i hi
    have hj1 := hS j hj
    rw [← e] at hj1
    have hq := st_apart hi1.2.2.1 hj1.2.2.1 hi1.2.2.2 hj1.2.2.2 (st_len i hi) (st_len j hj)
    exact st_diff i hi j hj hq.1 (fun p hp => Value.int.inj (hq.2 p hp))
  refine ⟨fun i => [a0, a1, a2, a3, a4, a5, a6, a7, a8, a9, a10, a11, a12, a13, a14, a15, a16, a17, a18, a19, a20, a21, a22, a23, a24, a25, a26, a27, a28, a29, a30, a31, a32, a33, a34, a35, a36, a37, a38, a39, a40, a41, a42].getD i 0, fun i => [v0, v1, v2, v3, v4, v5, v6, v7, v8, v9, v10, v11, v12, v13, v14, v15, v16, v17, v18, v19, v20, v21, v22, v23, v24, v25, v26, v27, v28, v29, v30].getD i 0, ⟨fun i hi => hS i hi, fun i j hi hj e => hI i j hi hj e⟩, ?_, va_Zof (hts _ (wsz_0)) (hts _ (wg_in wsz_1)) (va_eqt (hs _ (List.mem_of_getElem? (i := 4) (by decide +kernel) : Cond.eq (.static "java/lang/String" "COMPACT_STRINGS" "Z") (.int 1) ∈ FLS))) hA, va_Zqof (hts _ (wsz_2)) (hts _ (wg_in wsz_3)) (hs _ (List.mem_of_getElem? (i := 5) (by decide +kernel) : Cond.isRef (.static "jdk/internal/util/Preconditions" "SIOOBE_FORMATTER" "Ljava/util/function/BiFunction;") ∈ FLS)) hA, vx_Zqof (hts _ (wsz_4)) (hts _ (wg_in wsz_5)) (hs _ (List.mem_of_getElem? (i := 9) (by decide +kernel) : Cond.isRef (.static "java/lang/Throwable" "UNASSIGNED_STACK" "[Ljava/lang/StackTraceElement;") ∈ FLS)) hA, vx_Zqof (hts _ (wsz_6)) (hts _ (wg_in wsz_5)) (hs _ (List.mem_of_getElem? (i := 10) (by decide +kernel) : Cond.isRef (.static "java/lang/Throwable" "SUPPRESSED_SENTINEL" "Ljava/util/List;") ∈ FLS)) hA⟩
  refine List.forall_mem_cons.mpr ⟨vk_R.of (hts _ wsz_7) e0, List.forall_mem_cons.mpr ⟨vk_R.of (hts _ wsz_8) e1, List.forall_mem_cons.mpr ⟨vk_R.of (hts _ wsz_9) e2, List.forall_mem_cons.mpr ⟨vk_R.of (hts _ wsz_10) e3, List.forall_mem_cons.mpr ⟨vk_R.of (hts _ wsz_11) e4, List.forall_mem_cons.mpr ⟨vk_R.of (hts _ wsz_12) e31, List.forall_mem_cons.mpr ⟨vk_R.of (hts _ wsz_13) e32, List.forall_mem_cons.mpr ⟨vk_R.of (hts _ wsz_14) e33, List.forall_mem_cons.mpr ⟨vk_R.of (hts _ wsz_15) e34, List.forall_mem_cons.mpr ⟨vk_R.of (hts _ wsz_16) e35, List.forall_mem_cons.mpr ⟨vk_R.of (hts _ wsz_17) e36, List.forall_mem_cons.mpr ⟨vk_R.of (hts _ wsz_18) e37, List.forall_mem_cons.mpr ⟨vk_R.of (hts _ wsz_19) e38, List.forall_mem_cons.mpr ⟨vk_R.of (hts _ wsz_20) e39, List.forall_mem_cons.mpr ⟨vk_R.of (hts _ wsz_21) e40, List.forall_mem_cons.mpr ⟨vk_R.of (hts _ wsz_22) e41, List.forall_mem_cons.mpr ⟨vk_R.of (hts _ wsz_23) e42, List.forall_mem_cons.mpr ⟨vk_R.of (hts _ wsz_24) e5, List.forall_mem_cons.mpr ⟨vk_R.of (hts _ wsz_25) e6, List.forall_mem_cons.mpr ⟨vk_R.of (hts _ wsz_26) e7, List.forall_mem_cons.mpr ⟨vk_R.of (hts _ wsz_27) e8, List.forall_mem_cons.mpr ⟨vk_R.of (hts _ wsz_28) e9, List.forall_mem_cons.mpr ⟨vk_R.of (hts _ wsz_29) e10, List.forall_mem_cons.mpr ⟨vk_R.of (hts _ wsz_30) e11, List.forall_mem_cons.mpr ⟨vk_R.of (hts _ wsz_31) e12, List.forall_mem_cons.mpr ⟨vk_R.of (hts _ wsz_32) e13, List.forall_mem_cons.mpr ⟨vk_R.of (hts _ wsz_33) e14, List.forall_mem_cons.mpr ⟨vk_R.of (hts _ wsz_34) e15, List.forall_mem_cons.mpr ⟨vk_R.of (hts _ wsz_35) e16, List.forall_mem_cons.mpr ⟨vk_R.of (hts _ wsz_36) e17, List.forall_mem_cons.mpr ⟨vk_R.of (hts _ wsz_37) e18, List.forall_mem_cons.mpr ⟨vk_R.of (hts _ wsz_38) e19, List.forall_mem_cons.mpr ⟨vk_R.of (hts _ wsz_39) e20, List.forall_mem_cons.mpr ⟨vk_R.of (hts _ wsz_40) e21, List.forall_mem_cons.mpr ⟨vk_R.of (hts _ wsz_41) e22, List.forall_mem_cons.mpr ⟨vk_R.of (hts _ wsz_42) e23, List.forall_mem_cons.mpr ⟨vk_R.of (hts _ wsz_43) e24, List.forall_mem_cons.mpr ⟨vk_R.of (hts _ wsz_44) e25, List.forall_mem_cons.mpr ⟨vk_R.of (hts _ wsz_45) e26, List.forall_mem_cons.mpr ⟨vk_R.of (hts _ wsz_46) e27, List.forall_mem_cons.mpr ⟨vk_R.of (hts _ wsz_47) e28, List.forall_mem_cons.mpr ⟨vk_R.of (hts _ wsz_48) e29, List.forall_mem_cons.mpr ⟨vk_R.of (hts _ wsz_49) e30, fun _ h => absurd h List.not_mem_nil⟩⟩⟩⟩⟩⟩⟩⟩⟩⟩⟩⟩⟩⟩⟩⟩⟩⟩⟩⟩⟩⟩⟩⟩⟩⟩⟩⟩⟩⟩⟩⟩⟩⟩⟩⟩⟩⟩⟩⟩⟩⟩⟩
theorem dgO_rows : ∀ j, j < 100 → Cond.eq (.elem (.static "java/lang/Integer" "DigitOnes" "[B") (.int (Int32.ofNat j))) (.int (nI (48 + j % 10))) ∈ FLS := by
  have h : (FLS.drop 14).take 100 = (List.range 100).map (fun j => Cond.eq (.elem (.static "java/lang/Integer" "DigitOnes" "[B") (.int (Int32.ofNat j))) (.int (nI (48 + j % 10)))) := by decide +kernel
  intro j hj
  exact List.mem_of_mem_drop (List.mem_of_mem_take (by rw [h]; exact List.mem_map.mpr ⟨j, List.mem_range.mpr hj, rfl⟩))
theorem dgO_st {s : State} {args : Array Value} (hs : ∀ c ∈ FLS, c.before args s = true) (hts : ∀ w ∈ lw_tbl, w.before args s = true) {A : Nat → Prop} (hA : ∀ a : Nat, a < s.heap.size → ¬ A a) : ∃ t : Nat, va_Z "java/lang/Integer" "DigitOnes" "[B" (.ref t) A s s.heap ∧ va_T .byte t 100 (fun j => .int (nI (48 + j % 10))) A s s.heap := by
  obtain ⟨t, h1, h2⟩ := va_Tof (args := args) (s := s) (tm := .static "java/lang/Integer" "DigitOnes" "[B") (ty := .byte) (N := 100) (f := fun j => .int (nI (48 + j % 10))) (by decide) (hs _ (List.mem_of_getElem? (i := 12) (by decide +kernel))) (va_eqt (hs _ (List.mem_of_getElem? (i := 13) (by decide +kernel) : Cond.eq (.length (.static "java/lang/Integer" "DigitOnes" "[B")) (.int (Int32.ofNat 100)) ∈ FLS))) (fun j hj => va_eqt (hs _ (dgO_rows j hj))) hA
  exact ⟨t, va_Zof (hts _ wsz_50) (hts _ (wg_in wsz_51)) h1 hA, h2⟩
theorem dgT_rows : ∀ j, j < 100 → Cond.eq (.elem (.static "java/lang/Integer" "DigitTens" "[B") (.int (Int32.ofNat j))) (.int (nI (48 + j / 10))) ∈ FLS := by
  have h : (FLS.drop 117).take 100 = (List.range 100).map (fun j => Cond.eq (.elem (.static "java/lang/Integer" "DigitTens" "[B") (.int (Int32.ofNat j))) (.int (nI (48 + j / 10)))) := by decide +kernel
  intro j hj
  exact List.mem_of_mem_drop (List.mem_of_mem_take (by rw [h]; exact List.mem_map.mpr ⟨j, List.mem_range.mpr hj, rfl⟩))
theorem dgT_st {s : State} {args : Array Value} (hs : ∀ c ∈ FLS, c.before args s = true) (hts : ∀ w ∈ lw_tbl, w.before args s = true) {A : Nat → Prop} (hA : ∀ a : Nat, a < s.heap.size → ¬ A a) : ∃ t : Nat, va_Z "java/lang/Integer" "DigitTens" "[B" (.ref t) A s s.heap ∧ va_T .byte t 100 (fun j => .int (nI (48 + j / 10))) A s s.heap := by
  obtain ⟨t, h1, h2⟩ := va_Tof (args := args) (s := s) (tm := .static "java/lang/Integer" "DigitTens" "[B") (ty := .byte) (N := 100) (f := fun j => .int (nI (48 + j / 10))) (by decide) (hs _ (List.mem_of_getElem? (i := 115) (by decide +kernel))) (va_eqt (hs _ (List.mem_of_getElem? (i := 116) (by decide +kernel) : Cond.eq (.length (.static "java/lang/Integer" "DigitTens" "[B")) (.int (Int32.ofNat 100)) ∈ FLS))) (fun j hj => va_eqt (hs _ (dgT_rows j hj))) hA
  exact ⟨t, va_Zof (hts _ wsz_52) (hts _ (wg_in wsz_51)) h1 hA, h2⟩
