/-! The face. -/
abbrev wX11 (ad : Nat → Nat) (c9 : Nat → ClassId) (nextPast : Int32) (pastCount : Int32) (i_count : Int32) (i_cells : Nat → Int32) (o_count : Int32) (o_cells : Nat → Int32) (p_start : Int32) (p_end : Int32) (p_kind : Int32) (p_value : Int32) (p_error : Int32) (p_errorAt : Int32) (p_d_time : Int32) (p_d_tolerance : Int32) (p_d_seed : Int32) (p_d_madeTickets : Int32) (p_d_cheesesOfText : Int32) (p_d_R_rows : Int32) (p_d_R_cells : Nat → Int32) (p_d_U_rows : Int32) (p_d_U_cells : Nat → Int32) (p_d_S_rows : Int32) (p_d_S_cells : Nat → Int32) (p_d_T_rows : Int32) (p_d_T_cells : Nat → Int32) (p_d_E_rows : Int32) (p_d_E_cells : Nat → Int32) (s_time : Int32) (s_tolerance : Int32) (s_seed : Int32) (s_madeTickets : Int32) (s_cheesesOfText : Int32) (s_R_rows : Int32) (s_R_cells : Nat → Int32) (s_U_rows : Int32) (s_U_cells : Nat → Int32) (s_S_rows : Int32) (s_S_cells : Nat → Int32) (s_T_rows : Int32) (s_T_cells : Nat → Int32) (s_E_rows : Int32) (s_E_cells : Nat → Int32) (sl : Nat → Option SV) (asl : Nat → Nat → Nat) (pa : Nat → Option SV) (apa : Nat → Nat → Nat) : va_W := [(ad 0, .inr (12, [.ref (ad 1), .ref (ad 3), .ref (ad 5), .ref (ad 17), .ref (ad 28), .ref (ad 30), .int nextPast, .int pastCount])), (ad 1, .inr (2, [.ref (ad 2), .int i_count])), (ad 2, .inl (c9 0, 600, .inl i_cells)), (ad 3, .inr (2, [.ref (ad 4), .int o_count])), (ad 4, .inl (c9 0, 64, .inl o_cells)), (ad 5, .inr (3, [.ref (ad 1), .ref (ad 6), .int p_start, .int p_end, .int p_kind, .int p_value, .int p_error, .int p_errorAt])), (ad 6, .inr (7, [.ref (ad 7), .ref (ad 9), .ref (ad 11), .ref (ad 13), .ref (ad 15), .int p_d_time, .int p_d_tolerance, .int p_d_seed, .int p_d_madeTickets, .int p_d_cheesesOfText])), (ad 7, .inr (4, [.int 5, .int 5, .ref (ad 8), .int p_d_R_rows])), (ad 8, .inl (c9 0, 25, .inl p_d_R_cells)), (ad 9, .inr (9, [.int 6, .int 5, .ref (ad 10), .int p_d_U_rows])), (ad 10, .inl (c9 0, 30, .inl p_d_U_cells)), (ad 11, .inr (5, [.int 6, .int 3, .ref (ad 12), .int p_d_S_rows])), (ad 12, .inl (c9 0, 18, .inl p_d_S_cells)), (ad 13, .inr (8, [.int 24, .int 10, .ref (ad 14), .int p_d_T_rows])), (ad 14, .inl (c9 0, 240, .inl p_d_T_cells)), (ad 15, .inr (10, [.int 30, .int 4, .ref (ad 16), .int p_d_E_rows])), (ad 16, .inl (c9 0, 120, .inl p_d_E_cells)), (ad 17, .inr (7, [.ref (ad 18), .ref (ad 20), .ref (ad 22), .ref (ad 24), .ref (ad 26), .int s_time, .int s_tolerance, .int s_seed, .int s_madeTickets, .int s_cheesesOfText])), (ad 18, .inr (4, [.int 5, .int 5, .ref (ad 19), .int s_R_rows])), (ad 19, .inl (c9 0, 25, .inl s_R_cells)), (ad 20, .inr (9, [.int 6, .int 5, .ref (ad 21), .int s_U_rows])), (ad 21, .inl (c9 0, 30, .inl s_U_cells)), (ad 22, .inr (5, [.int 6, .int 3, .ref (ad 23), .int s_S_rows])), (ad 23, .inl (c9 0, 18, .inl s_S_cells)), (ad 24, .inr (8, [.int 24, .int 10, .ref (ad 25), .int s_T_rows])), (ad 25, .inl (c9 0, 240, .inl s_T_cells)), (ad 26, .inr (10, [.int 30, .int 4, .ref (ad 27), .int s_E_rows])), (ad 27, .inl (c9 0, 120, .inl s_E_cells)), (ad 28, .inr (6, [.ref (ad 29)])), (ad 29, .inl (c9 3, 2, .inr (.inr (.inr (.inr (rowsO sl asl)))))), (ad 30, .inr (6, [.ref (ad 31)])), (ad 31, .inl (c9 3, 8, .inr (.inr (.inr (.inr (rowsO pa apa))))))]
theorem wx_0 : Cond.laysFinal RX11 "TicketGate" "input" "LTicketGate$Bytes;" ∈ Wg := t4_in (List.mem_of_getElem? (i := 15) rfl) rfl
theorem wx_1 : Cond.laysFinal RX11 "TicketGate" "output" "LTicketGate$Bytes;" ∈ Wg := t4_in (List.mem_of_getElem? (i := 17) rfl) rfl
theorem wx_2 : Cond.laysFinal RX11 "TicketGate" "parser" "LTicketGate$Parser;" ∈ Wg := t4_in (List.mem_of_getElem? (i := 19) rfl) rfl
theorem wx_3 : Cond.laysFinal RX11 "TicketGate" "state" "LTicketGate$State;" ∈ Wg := t4_in (List.mem_of_getElem? (i := 21) rfl) rfl
theorem wx_4 : Cond.laysFinal RX11 "TicketGate" "slots" "LTicketGate$Shelf;" ∈ Wg := t4_in (List.mem_of_getElem? (i := 23) rfl) rfl
theorem wx_5 : Cond.laysFinal RX11 "TicketGate" "past" "LTicketGate$Shelf;" ∈ Wg := t4_in (List.mem_of_getElem? (i := 25) rfl) rfl
theorem wx_6 : Cond.lays RX11 "TicketGate" "nextPast" "I" ∈ Wg := t4_in (List.mem_of_getElem? (i := 27) rfl) rfl
theorem wx_7 : Cond.lays RX11 "TicketGate" "pastCount" "I" ∈ Wg := t4_in (List.mem_of_getElem? (i := 29) rfl) rfl
theorem wx_8 : Cond.fieldLink RX11 14 "TicketGate" "input" "LTicketGate$Bytes;" ∈ Wg := t4_in (List.mem_of_getElem? (i := 7) rfl) rfl
theorem wx_9 : Cond.methodLink RX11 75 yX0_size ∈ Wg := t5_in (List.mem_of_getElem? (i := 206) rfl) rfl
theorem wx_10 : Cond.instanceMethod yX0_size ∈ Wg := t5_in (List.mem_of_getElem? (i := 207) rfl) rfl
theorem wx_11 : Cond.selects RX0 yX0_size yX0_size ∈ Wg := t5_in (List.mem_of_getElem? (i := 208) rfl) rfl
theorem wx_12 : Cond.initialized RX0 ∈ Wg := t1_in (List.mem_of_getElem? (i := 2) rfl) rfl
theorem wx_13 : Cond.code yX0_size cX0_size 1 (some .int) ∈ Wg := t5_in (List.mem_of_getElem? (i := 209) rfl) rfl
theorem wx_14 : Cond.methodLink RX11 85 yX0_addFour ∈ Wg := t5_in (List.mem_of_getElem? (i := 226) rfl) rfl
theorem wx_15 : Cond.instanceMethod yX0_addFour ∈ Wg := t5_in (List.mem_of_getElem? (i := 227) rfl) rfl
theorem wx_16 : Cond.selects RX0 yX0_addFour yX0_addFour ∈ Wg := t5_in (List.mem_of_getElem? (i := 228) rfl) rfl
theorem wx_17 : Cond.code yX0_addFour cX0_addFour 2 none ∈ Wg := t5_in (List.mem_of_getElem? (i := 229) rfl) rfl
theorem wx_18 : Cond.classLink RX11 79 "java/lang/IllegalStateException" ∈ Wg := t5_in (List.mem_of_getElem? (i := 210) rfl) rfl
theorem wx_19 : Cond.initialized "java/lang/IllegalStateException" ∈ Wg := t1_in (List.mem_of_getElem? (i := 28) rfl) rfl
theorem wx_20 : Cond.classLink RX11 88 "java/lang/IllegalArgumentException" ∈ Wg := t5_in (List.mem_of_getElem? (i := 234) rfl) rfl
theorem wx_21 : Cond.initialized "java/lang/IllegalArgumentException" ∈ Wg := t1_in (List.mem_of_getElem? (i := 27) rfl) rfl
theorem wx_22 : Cond.methodLink RX11 72 yX0_cut ∈ Wg := t4_in (List.mem_of_getElem? (i := 3) rfl) rfl
theorem wx_23 : Cond.instanceMethod yX0_cut ∈ Wg := t4_in (List.mem_of_getElem? (i := 4) rfl) rfl
theorem wx_24 : Cond.selects RX0 yX0_cut yX0_cut ∈ Wg := t4_in (List.mem_of_getElem? (i := 5) rfl) rfl
theorem wx_25 : Cond.code yX0_cut cX0_cut 2 none ∈ Wg := t4_in (List.mem_of_getElem? (i := 6) rfl) rfl
theorem wx_26 : Cond.fieldLink RX11 26 "TicketGate" "parser" "LTicketGate$Parser;" ∈ Wg := t4_in (List.mem_of_getElem? (i := 9) rfl) rfl
theorem wx_27 : Cond.methodLink RX11 61 yX1_run ∈ Wg := t2_in (List.mem_of_getElem? (i := 45) rfl) rfl
theorem wx_28 : Cond.instanceMethod yX1_run ∈ Wg := t2_in (List.mem_of_getElem? (i := 46) rfl) rfl
theorem wx_29 : Cond.selects RX1 yX1_run yX1_run ∈ Wg := t2_in (List.mem_of_getElem? (i := 47) rfl) rfl
theorem wx_30 : Cond.initialized RX1 ∈ Wg := t1_in (List.mem_of_getElem? (i := 4) rfl) rfl
theorem wx_31 : Cond.code yX1_run cX1_run 2 (some .boolean) ∈ Wg := t2_in (List.mem_of_getElem? (i := 48) rfl) rfl
theorem wx_32 : Cond.methodLink RX11 95 yX11_remember ∈ Wg := t6_in (List.mem_of_getElem? (i := 19) rfl) rfl
theorem wx_33 : Cond.instanceMethod yX11_remember ∈ Wg := t6_in (List.mem_of_getElem? (i := 21) rfl) rfl
theorem wx_34 : Cond.selects RX11 yX11_remember yX11_remember ∈ Wg := p3_in (q := (⟨"TicketGate", "remember", "()V"⟩, 8)) (List.mem_of_getElem? (i := 8) rfl)
theorem wx_35 : Cond.initialized RX11 ∈ Wg := t1_in (List.mem_of_getElem? (i := 1) rfl) rfl
theorem wx_36 : Cond.code yX11_remember cX11_remember 1 none ∈ Wg := t6_in (List.mem_of_getElem? (i := 22) rfl) rfl
theorem wx_37 : Cond.fieldLink RX11 33 "TicketGate" "state" "LTicketGate$State;" ∈ Wg := t4_in (List.mem_of_getElem? (i := 10) rfl) rfl
theorem wx_38 : Cond.laysFinal RX1 "TicketGate$Parser" "text" "LTicketGate$Bytes;" ∈ Wg := t1_in (List.mem_of_getElem? (i := 192) rfl) rfl
theorem wx_39 : Cond.laysFinal RX1 "TicketGate$Parser" "draft" "LTicketGate$State;" ∈ Wg := t1_in (List.mem_of_getElem? (i := 194) rfl) rfl
theorem wx_40 : Cond.lays RX1 "TicketGate$Parser" "start" "I" ∈ Wg := t1_in (List.mem_of_getElem? (i := 196) rfl) rfl
theorem wx_41 : Cond.lays RX1 "TicketGate$Parser" "end" "I" ∈ Wg := t1_in (List.mem_of_getElem? (i := 198) rfl) rfl
theorem wx_42 : Cond.lays RX1 "TicketGate$Parser" "kind" "I" ∈ Wg := t1_in (List.mem_of_getElem? (i := 200) rfl) rfl
theorem wx_43 : Cond.lays RX1 "TicketGate$Parser" "value" "I" ∈ Wg := t1_in (List.mem_of_getElem? (i := 202) rfl) rfl
theorem wx_44 : Cond.lays RX1 "TicketGate$Parser" "error" "I" ∈ Wg := t1_in (List.mem_of_getElem? (i := 204) rfl) rfl
theorem wx_45 : Cond.lays RX1 "TicketGate$Parser" "errorAt" "I" ∈ Wg := t1_in (List.mem_of_getElem? (i := 206) rfl) rfl
theorem wx_46 : Cond.methodLink RX11 68 yX5_copyFrom ∈ Wg := t3_in (List.mem_of_getElem? (i := 217) rfl) rfl
theorem wx_47 : Cond.instanceMethod yX5_copyFrom ∈ Wg := t3_in (List.mem_of_getElem? (i := 218) rfl) rfl
theorem wx_48 : Cond.selects RX5 yX5_copyFrom yX5_copyFrom ∈ Wg := t3_in (List.mem_of_getElem? (i := 219) rfl) rfl
theorem wx_49 : Cond.initialized RX5 ∈ Wg := t1_in (List.mem_of_getElem? (i := 5) rfl) rfl
theorem wx_50 : Cond.code yX5_copyFrom cX5_copyFrom 2 none ∈ Wg := t3_in (List.mem_of_getElem? (i := 220) rfl) rfl
theorem wx_51 : Cond.laysFinal RX5 "TicketGate$State" "realms" "LTicketGate$Realms;" ∈ Wg := t1_in (List.mem_of_getElem? (i := 161) rfl) rfl
theorem wx_52 : Cond.laysFinal RX5 "TicketGate$State" "users" "LTicketGate$Users;" ∈ Wg := t1_in (List.mem_of_getElem? (i := 163) rfl) rfl
theorem wx_53 : Cond.laysFinal RX5 "TicketGate$State" "services" "LTicketGate$Services;" ∈ Wg := t1_in (List.mem_of_getElem? (i := 165) rfl) rfl
theorem wx_54 : Cond.laysFinal RX5 "TicketGate$State" "tickets" "LTicketGate$Tickets;" ∈ Wg := t1_in (List.mem_of_getElem? (i := 167) rfl) rfl
theorem wx_55 : Cond.laysFinal RX5 "TicketGate$State" "uses" "LTicketGate$Uses;" ∈ Wg := t1_in (List.mem_of_getElem? (i := 169) rfl) rfl
theorem wx_56 : Cond.lays RX5 "TicketGate$State" "time" "I" ∈ Wg := t1_in (List.mem_of_getElem? (i := 171) rfl) rfl
theorem wx_57 : Cond.lays RX5 "TicketGate$State" "tolerance" "I" ∈ Wg := t1_in (List.mem_of_getElem? (i := 173) rfl) rfl
theorem wx_58 : Cond.lays RX5 "TicketGate$State" "seed" "I" ∈ Wg := t1_in (List.mem_of_getElem? (i := 175) rfl) rfl
theorem wx_59 : Cond.lays RX5 "TicketGate$State" "madeTickets" "I" ∈ Wg := t1_in (List.mem_of_getElem? (i := 177) rfl) rfl
theorem wx_60 : Cond.lays RX5 "TicketGate$State" "cheesesOfText" "I" ∈ Wg := t1_in (List.mem_of_getElem? (i := 179) rfl) rfl
theorem wx_61 : Cond.laysFinal RX7 "TicketGate$Table" "limit" "I" ∈ Wg := t1_in (List.mem_of_getElem? (i := 121) rfl) rfl
theorem wx_62 : Cond.laysFinal RX7 "TicketGate$Table" "width" "I" ∈ Wg := t1_in (List.mem_of_getElem? (i := 122) rfl) rfl
theorem wx_63 : Cond.laysFinal RX7 "TicketGate$Table" "cells" "[I" ∈ Wg := t1_in (List.mem_of_getElem? (i := 123) rfl) rfl
theorem wx_64 : Cond.lays RX7 "TicketGate$Table" "rows" "I" ∈ Wg := t1_in (List.mem_of_getElem? (i := 124) rfl) rfl
theorem wx_65 : Cond.methodLink RX11 102 ⟨"TicketGate$Tickets", "size", "()I"⟩ ∈ Wg := t5_in (List.mem_of_getElem? (i := 2) rfl) rfl
theorem wx_66 : Cond.sameMethod "TicketGate$Tickets" "TicketGate$Table" "size" "()I" ∈ Wg := t3_in (List.mem_of_getElem? (i := 200) rfl) rfl
theorem wx_67 : Cond.selects RX7 ⟨"TicketGate$Tickets", "size", "()I"⟩ yX6_size ∈ Wg := t3_in (List.mem_of_getElem? (i := 201) rfl) rfl
theorem wx_68 : Cond.instanceMethod yX6_size ∈ Wg := t3_in (List.mem_of_getElem? (i := 152) rfl) rfl
theorem wx_69 : Cond.initialized RX6 ∈ Wg := t1_in (List.mem_of_getElem? (i := 6) rfl) rfl
theorem wx_70 : Cond.code yX6_size cX6_size 1 (some .int) ∈ Wg := t3_in (List.mem_of_getElem? (i := 153) rfl) rfl
theorem wx_71 : Cond.laysFinal RX2 "TicketGate$Table" "limit" "I" ∈ Wg := t1_in (List.mem_of_getElem? (i := 84) rfl) rfl
theorem wx_72 : Cond.laysFinal RX2 "TicketGate$Table" "width" "I" ∈ Wg := t1_in (List.mem_of_getElem? (i := 86) rfl) rfl
theorem wx_73 : Cond.laysFinal RX2 "TicketGate$Table" "cells" "[I" ∈ Wg := t1_in (List.mem_of_getElem? (i := 88) rfl) rfl
theorem wx_74 : Cond.lays RX2 "TicketGate$Table" "rows" "I" ∈ Wg := t1_in (List.mem_of_getElem? (i := 90) rfl) rfl
theorem wx_75 : Cond.methodLink RX11 122 ⟨"TicketGate$Realms", "size", "()I"⟩ ∈ Wg := t4_in (List.mem_of_getElem? (i := 41) rfl) rfl
theorem wx_76 : Cond.sameMethod "TicketGate$Realms" "TicketGate$Table" "size" "()I" ∈ Wg := t4_in (List.mem_of_getElem? (i := 42) rfl) rfl
theorem wx_77 : Cond.selects RX2 ⟨"TicketGate$Realms", "size", "()I"⟩ yX6_size ∈ Wg := t4_in (List.mem_of_getElem? (i := 43) rfl) rfl
theorem wx_78 : Cond.laysFinal RX3 "TicketGate$Table" "limit" "I" ∈ Wg := t1_in (List.mem_of_getElem? (i := 110) rfl) rfl
theorem wx_79 : Cond.laysFinal RX3 "TicketGate$Table" "width" "I" ∈ Wg := t1_in (List.mem_of_getElem? (i := 111) rfl) rfl
theorem wx_80 : Cond.laysFinal RX3 "TicketGate$Table" "cells" "[I" ∈ Wg := t1_in (List.mem_of_getElem? (i := 112) rfl) rfl
theorem wx_81 : Cond.lays RX3 "TicketGate$Table" "rows" "I" ∈ Wg := t1_in (List.mem_of_getElem? (i := 113) rfl) rfl
theorem wx_82 : Cond.methodLink RX11 136 ⟨"TicketGate$Services", "size", "()I"⟩ ∈ Wg := t4_in (List.mem_of_getElem? (i := 48) rfl) rfl
theorem wx_83 : Cond.sameMethod "TicketGate$Services" "TicketGate$Table" "size" "()I" ∈ Wg := t4_in (List.mem_of_getElem? (i := 49) rfl) rfl
theorem wx_84 : Cond.selects RX3 ⟨"TicketGate$Services", "size", "()I"⟩ yX6_size ∈ Wg := t4_in (List.mem_of_getElem? (i := 50) rfl) rfl
theorem wx_85 : Cond.methodLink RX11 332 ⟨"TicketGate$Realms", "has", "(I)Z"⟩ ∈ Wg := t5_in (List.mem_of_getElem? (i := 179) rfl) rfl
theorem wx_86 : Cond.sameMethod "TicketGate$Realms" "TicketGate$Table" "has" "(I)Z" ∈ Wg := t5_in (List.mem_of_getElem? (i := 180) rfl) rfl
theorem wx_87 : Cond.selects RX2 ⟨"TicketGate$Realms", "has", "(I)Z"⟩ yX6_has ∈ Wg := t5_in (List.mem_of_getElem? (i := 181) rfl) rfl
theorem wx_88 : Cond.instanceMethod yX6_has ∈ Wg := t5_in (List.mem_of_getElem? (i := 24) rfl) rfl
theorem wx_89 : Cond.code yX6_has cX6_has 2 (some .boolean) ∈ Wg := t5_in (List.mem_of_getElem? (i := 25) rfl) rfl
theorem wx_90 : Cond.classLink RX11 178 "java/lang/IndexOutOfBoundsException" ∈ Wg := t5_in (List.mem_of_getElem? (i := 26) rfl) rfl
theorem wx_91 : Cond.initialized "java/lang/IndexOutOfBoundsException" ∈ Wg := t1_in (List.mem_of_getElem? (i := 30) rfl) rfl
theorem wx_92 : Cond.methodLink RX11 147 yX11_checkRealm ∈ Wg := t5_in (List.mem_of_getElem? (i := 175) rfl) rfl
theorem wx_93 : Cond.instanceMethod yX11_checkRealm ∈ Wg := t5_in (List.mem_of_getElem? (i := 177) rfl) rfl
theorem wx_94 : Cond.selects RX11 yX11_checkRealm yX11_checkRealm ∈ Wg := p3_in (q := (⟨"TicketGate", "checkRealm", "(I)V"⟩, 8)) (List.mem_of_getElem? (i := 6) rfl)
theorem wx_95 : Cond.code yX11_checkRealm cX11_checkRealm 2 none ∈ Wg := t5_in (List.mem_of_getElem? (i := 178) rfl) rfl
theorem wx_96 : Cond.methodLink RX11 150 ⟨"TicketGate$Realms", "get", "(II)I"⟩ ∈ Wg := t5_in (List.mem_of_getElem? (i := 183) rfl) rfl
theorem wx_97 : Cond.sameMethod "TicketGate$Realms" "TicketGate$Table" "get" "(II)I" ∈ Wg := t2_in (List.mem_of_getElem? (i := 209) rfl) rfl
theorem wx_98 : Cond.selects RX2 ⟨"TicketGate$Realms", "get", "(II)I"⟩ yX6_get ∈ Wg := t2_in (List.mem_of_getElem? (i := 211) rfl) rfl
theorem wx_99 : Cond.instanceMethod yX6_get ∈ Wg := t2_in (List.mem_of_getElem? (i := 155) rfl) rfl
theorem wx_100 : Cond.code yX6_get cX6_get 5 (some .int) ∈ Wg := t2_in (List.mem_of_getElem? (i := 163) rfl) rfl
theorem wx_101 : Cond.laysFinal RX8 "TicketGate$Table" "limit" "I" ∈ Wg := t1_in (List.mem_of_getElem? (i := 99) rfl) rfl
theorem wx_102 : Cond.laysFinal RX8 "TicketGate$Table" "width" "I" ∈ Wg := t1_in (List.mem_of_getElem? (i := 100) rfl) rfl
theorem wx_103 : Cond.laysFinal RX8 "TicketGate$Table" "cells" "[I" ∈ Wg := t1_in (List.mem_of_getElem? (i := 101) rfl) rfl
theorem wx_104 : Cond.lays RX8 "TicketGate$Table" "rows" "I" ∈ Wg := t1_in (List.mem_of_getElem? (i := 102) rfl) rfl
theorem wx_105 : Cond.methodLink RX11 335 ⟨"TicketGate$Users", "has", "(I)Z"⟩ ∈ Wg := t5_in (List.mem_of_getElem? (i := 166) rfl) rfl
theorem wx_106 : Cond.sameMethod "TicketGate$Users" "TicketGate$Table" "has" "(I)Z" ∈ Wg := t5_in (List.mem_of_getElem? (i := 167) rfl) rfl
theorem wx_107 : Cond.selects RX8 ⟨"TicketGate$Users", "has", "(I)Z"⟩ yX6_has ∈ Wg := t5_in (List.mem_of_getElem? (i := 168) rfl) rfl
theorem wx_108 : Cond.methodLink RX11 163 yX11_checkUser ∈ Wg := t5_in (List.mem_of_getElem? (i := 162) rfl) rfl
theorem wx_109 : Cond.instanceMethod yX11_checkUser ∈ Wg := t5_in (List.mem_of_getElem? (i := 164) rfl) rfl
theorem wx_110 : Cond.selects RX11 yX11_checkUser yX11_checkUser ∈ Wg := p3_in (q := (⟨"TicketGate", "checkUser", "(I)V"⟩, 8)) (List.mem_of_getElem? (i := 5) rfl)
theorem wx_111 : Cond.code yX11_checkUser cX11_checkUser 2 none ∈ Wg := t5_in (List.mem_of_getElem? (i := 165) rfl) rfl
theorem wx_112 : Cond.methodLink RX11 166 ⟨"TicketGate$Users", "get", "(II)I"⟩ ∈ Wg := t5_in (List.mem_of_getElem? (i := 170) rfl) rfl
theorem wx_113 : Cond.sameMethod "TicketGate$Users" "TicketGate$Table" "get" "(II)I" ∈ Wg := t3_in (List.mem_of_getElem? (i := 23) rfl) rfl
theorem wx_114 : Cond.selects RX8 ⟨"TicketGate$Users", "get", "(II)I"⟩ yX6_get ∈ Wg := t3_in (List.mem_of_getElem? (i := 24) rfl) rfl
theorem wx_115 : Cond.methodLink RX11 338 ⟨"TicketGate$Services", "has", "(I)Z"⟩ ∈ Wg := t5_in (List.mem_of_getElem? (i := 192) rfl) rfl
theorem wx_116 : Cond.sameMethod "TicketGate$Services" "TicketGate$Table" "has" "(I)Z" ∈ Wg := t5_in (List.mem_of_getElem? (i := 193) rfl) rfl
theorem wx_117 : Cond.selects RX3 ⟨"TicketGate$Services", "has", "(I)Z"⟩ yX6_has ∈ Wg := t5_in (List.mem_of_getElem? (i := 194) rfl) rfl
theorem wx_118 : Cond.methodLink RX11 170 yX11_checkService ∈ Wg := t5_in (List.mem_of_getElem? (i := 188) rfl) rfl
theorem wx_119 : Cond.instanceMethod yX11_checkService ∈ Wg := t5_in (List.mem_of_getElem? (i := 190) rfl) rfl
theorem wx_120 : Cond.selects RX11 yX11_checkService yX11_checkService ∈ Wg := p3_in (q := (⟨"TicketGate", "checkService", "(I)V"⟩, 8)) (List.mem_of_getElem? (i := 7) rfl)
theorem wx_121 : Cond.code yX11_checkService cX11_checkService 2 none ∈ Wg := t5_in (List.mem_of_getElem? (i := 191) rfl) rfl
theorem wx_122 : Cond.methodLink RX11 173 ⟨"TicketGate$Services", "get", "(II)I"⟩ ∈ Wg := t5_in (List.mem_of_getElem? (i := 196) rfl) rfl
theorem wx_123 : Cond.sameMethod "TicketGate$Services" "TicketGate$Table" "get" "(II)I" ∈ Wg := t3_in (List.mem_of_getElem? (i := 112) rfl) rfl
theorem wx_124 : Cond.selects RX3 ⟨"TicketGate$Services", "get", "(II)I"⟩ yX6_get ∈ Wg := t3_in (List.mem_of_getElem? (i := 113) rfl) rfl
theorem wx_125 : Cond.methodLink RX11 174 ⟨"TicketGate$Tickets", "has", "(I)Z"⟩ ∈ Wg := t5_in (List.mem_of_getElem? (i := 20) rfl) rfl
theorem wx_126 : Cond.sameMethod "TicketGate$Tickets" "TicketGate$Table" "has" "(I)Z" ∈ Wg := t5_in (List.mem_of_getElem? (i := 21) rfl) rfl
theorem wx_127 : Cond.selects RX7 ⟨"TicketGate$Tickets", "has", "(I)Z"⟩ yX6_has ∈ Wg := t5_in (List.mem_of_getElem? (i := 23) rfl) rfl
theorem wx_128 : Cond.methodLink RX11 183 ⟨"TicketGate$Tickets", "get", "(II)I"⟩ ∈ Wg := t5_in (List.mem_of_getElem? (i := 94) rfl) rfl
theorem wx_129 : Cond.sameMethod "TicketGate$Tickets" "TicketGate$Table" "get" "(II)I" ∈ Wg := t3_in (List.mem_of_getElem? (i := 60) rfl) rfl
theorem wx_130 : Cond.selects RX7 ⟨"TicketGate$Tickets", "get", "(II)I"⟩ yX6_get ∈ Wg := t3_in (List.mem_of_getElem? (i := 61) rfl) rfl
theorem wx_131 : Cond.selects RX7 ⟨"TicketGate$Table", "get", "(II)I"⟩ yX6_get ∈ Wg := t2_in (List.mem_of_getElem? (i := 159) rfl) rfl
theorem wx_132 : Cond.methodLink RX11 327 ⟨"TicketGate$Tickets", "rowWith", "(II)I"⟩ ∈ Wg := t5_in (List.mem_of_getElem? (i := 103) rfl) rfl
theorem wx_133 : Cond.sameMethod "TicketGate$Tickets" "TicketGate$Table" "rowWith" "(II)I" ∈ Wg := t3_in (List.mem_of_getElem? (i := 74) rfl) rfl
theorem wx_134 : Cond.selects RX7 ⟨"TicketGate$Tickets", "rowWith", "(II)I"⟩ yX6_rowWith ∈ Wg := t3_in (List.mem_of_getElem? (i := 75) rfl) rfl
theorem wx_135 : Cond.instanceMethod yX6_rowWith ∈ Wg := t2_in (List.mem_of_getElem? (i := 152) rfl) rfl
theorem wx_136 : Cond.code yX6_rowWith cX6_rowWith 4 (some .int) ∈ Wg := t2_in (List.mem_of_getElem? (i := 153) rfl) rfl
theorem wx_137 : Cond.classLink RX11 292 "java/util/NoSuchElementException" ∈ Wg := t5_in (List.mem_of_getElem? (i := 104) rfl) rfl
theorem wx_138 : Cond.initialized "java/util/NoSuchElementException" ∈ Wg := t1_in (List.mem_of_getElem? (i := 31) rfl) rfl
theorem wx_139 : Cond.methodLink RX11 184 yX11_rowOf ∈ Wg := t5_in (List.mem_of_getElem? (i := 99) rfl) rfl
theorem wx_140 : Cond.instanceMethod yX11_rowOf ∈ Wg := t5_in (List.mem_of_getElem? (i := 101) rfl) rfl
theorem wx_141 : Cond.selects RX11 yX11_rowOf yX11_rowOf ∈ Wg := p3_in (q := (⟨"TicketGate", "rowOf", "(I)I"⟩, 8)) (List.mem_of_getElem? (i := 4) rfl)
theorem wx_142 : Cond.code yX11_rowOf cX11_rowOf 3 (some .int) ∈ Wg := t5_in (List.mem_of_getElem? (i := 102) rfl) rfl
theorem wx_143 : Cond.methodLink RX11 187 yX7_canBeRenewed ∈ Wg := t5_in (List.mem_of_getElem? (i := 152) rfl) rfl
theorem wx_144 : Cond.instanceMethod yX7_canBeRenewed ∈ Wg := t3_in (List.mem_of_getElem? (i := 99) rfl) rfl
theorem wx_145 : Cond.selects RX7 yX7_canBeRenewed yX7_canBeRenewed ∈ Wg := t3_in (List.mem_of_getElem? (i := 100) rfl) rfl
theorem wx_146 : Cond.initialized RX7 ∈ Wg := t1_in (List.mem_of_getElem? (i := 10) rfl) rfl
theorem wx_147 : Cond.code yX7_canBeRenewed cX7_canBeRenewed 2 (some .boolean) ∈ Wg := t3_in (List.mem_of_getElem? (i := 101) rfl) rfl
theorem wx_148 : Cond.methodLink RX11 190 yX7_isAlive ∈ Wg := t5_in (List.mem_of_getElem? (i := 157) rfl) rfl
theorem wx_149 : Cond.instanceMethod yX7_isAlive ∈ Wg := t3_in (List.mem_of_getElem? (i := 81) rfl) rfl
theorem wx_150 : Cond.selects RX7 yX7_isAlive yX7_isAlive ∈ Wg := t3_in (List.mem_of_getElem? (i := 82) rfl) rfl
theorem wx_151 : Cond.code yX7_isAlive cX7_isAlive 3 (some .boolean) ∈ Wg := t3_in (List.mem_of_getElem? (i := 83) rfl) rfl
theorem wx_152 : Cond.methodLink RX11 216 yX7_countAlive ∈ Wg := t5_in (List.mem_of_getElem? (i := 12) rfl) rfl
theorem wx_153 : Cond.instanceMethod yX7_countAlive ∈ Wg := t5_in (List.mem_of_getElem? (i := 13) rfl) rfl
theorem wx_154 : Cond.selects RX7 yX7_countAlive yX7_countAlive ∈ Wg := t5_in (List.mem_of_getElem? (i := 14) rfl) rfl
theorem wx_155 : Cond.code yX7_countAlive cX7_countAlive 4 (some .int) ∈ Wg := t5_in (List.mem_of_getElem? (i := 15) rfl) rfl
theorem wx_156 : Cond.laysFinal RX9 "TicketGate$Table" "limit" "I" ∈ Wg := t1_in (List.mem_of_getElem? (i := 132) rfl) rfl
theorem wx_157 : Cond.laysFinal RX9 "TicketGate$Table" "width" "I" ∈ Wg := t1_in (List.mem_of_getElem? (i := 133) rfl) rfl
theorem wx_158 : Cond.laysFinal RX9 "TicketGate$Table" "cells" "[I" ∈ Wg := t1_in (List.mem_of_getElem? (i := 134) rfl) rfl
theorem wx_159 : Cond.lays RX9 "TicketGate$Table" "rows" "I" ∈ Wg := t1_in (List.mem_of_getElem? (i := 135) rfl) rfl
theorem wx_160 : Cond.methodLink RX11 229 ⟨"TicketGate$Uses", "size", "()I"⟩ ∈ Wg := t5_in (List.mem_of_getElem? (i := 7) rfl) rfl
theorem wx_161 : Cond.sameMethod "TicketGate$Uses" "TicketGate$Table" "size" "()I" ∈ Wg := t3_in (List.mem_of_getElem? (i := 149) rfl) rfl
theorem wx_162 : Cond.selects RX9 ⟨"TicketGate$Uses", "size", "()I"⟩ yX6_size ∈ Wg := t3_in (List.mem_of_getElem? (i := 151) rfl) rfl
theorem wx_163 : Cond.selects RX3 ⟨"TicketGate$Table", "get", "(II)I"⟩ yX6_get ∈ Wg := t2_in (List.mem_of_getElem? (i := 158) rfl) rfl
theorem wx_164 : Cond.methodLink RX11 235 ⟨"TicketGate$Services", "sumOf", "(I)I"⟩ ∈ Wg := t4_in (List.mem_of_getElem? (i := 55) rfl) rfl
theorem wx_165 : Cond.sameMethod "TicketGate$Services" "TicketGate$Table" "sumOf" "(I)I" ∈ Wg := t4_in (List.mem_of_getElem? (i := 56) rfl) rfl
theorem wx_166 : Cond.selects RX3 ⟨"TicketGate$Services", "sumOf", "(I)I"⟩ yX6_sumOf ∈ Wg := t4_in (List.mem_of_getElem? (i := 58) rfl) rfl
theorem wx_167 : Cond.instanceMethod yX6_sumOf ∈ Wg := t4_in (List.mem_of_getElem? (i := 59) rfl) rfl
theorem wx_168 : Cond.code yX6_sumOf cX6_sumOf 4 (some .int) ∈ Wg := t4_in (List.mem_of_getElem? (i := 60) rfl) rfl
theorem wx_169 : Cond.selects RX8 ⟨"TicketGate$Table", "get", "(II)I"⟩ yX6_get ∈ Wg := t2_in (List.mem_of_getElem? (i := 160) rfl) rfl
theorem wx_170 : Cond.methodLink RX11 238 ⟨"TicketGate$Users", "sumOf", "(I)I"⟩ ∈ Wg := t4_in (List.mem_of_getElem? (i := 61) rfl) rfl
theorem wx_171 : Cond.sameMethod "TicketGate$Users" "TicketGate$Table" "sumOf" "(I)I" ∈ Wg := t4_in (List.mem_of_getElem? (i := 62) rfl) rfl
theorem wx_172 : Cond.selects RX8 ⟨"TicketGate$Users", "sumOf", "(I)I"⟩ yX6_sumOf ∈ Wg := t4_in (List.mem_of_getElem? (i := 63) rfl) rfl
theorem wx_173 : Cond.methodLink RX11 239 yX7_countLifeErrors ∈ Wg := t4_in (List.mem_of_getElem? (i := 68) rfl) rfl
theorem wx_174 : Cond.instanceMethod yX7_countLifeErrors ∈ Wg := t4_in (List.mem_of_getElem? (i := 69) rfl) rfl
theorem wx_175 : Cond.selects RX7 yX7_countLifeErrors yX7_countLifeErrors ∈ Wg := t4_in (List.mem_of_getElem? (i := 70) rfl) rfl
theorem wx_176 : Cond.code yX7_countLifeErrors cX7_countLifeErrors 4 (some .int) ∈ Wg := t4_in (List.mem_of_getElem? (i := 71) rfl) rfl
theorem wx_177 : Cond.methodLink RX11 198 yX11_checkPassword ∈ Wg := t7_in (List.mem_of_getElem? (i := 61) rfl) rfl
theorem wx_178 : Cond.instanceMethod yX11_checkPassword ∈ Wg := t7_in (List.mem_of_getElem? (i := 63) rfl) rfl
theorem wx_179 : Cond.selects RX11 yX11_checkPassword yX11_checkPassword ∈ Wg := p3_in (q := (⟨"TicketGate", "checkPassword", "(I)V"⟩, 8)) (List.mem_of_getElem? (i := 9) rfl)
theorem wx_180 : Cond.code yX11_checkPassword cX11_checkPassword 2 none ∈ Wg := t7_in (List.mem_of_getElem? (i := 64) rfl) rfl
theorem wx_181 : Cond.methodLink RX11 201 yX5_whyNoLogin ∈ Wg := t7_in (List.mem_of_getElem? (i := 66) rfl) rfl
theorem wx_182 : Cond.instanceMethod yX5_whyNoLogin ∈ Wg := t3_in (List.mem_of_getElem? (i := 19) rfl) rfl
theorem wx_183 : Cond.selects RX5 yX5_whyNoLogin yX5_whyNoLogin ∈ Wg := t3_in (List.mem_of_getElem? (i := 20) rfl) rfl
theorem wx_184 : Cond.code yX5_whyNoLogin cX5_whyNoLogin 3 (some .int) ∈ Wg := t3_in (List.mem_of_getElem? (i := 21) rfl) rfl
theorem wx_185 : Cond.methodLink RX11 249 yX11_checkAllowed ∈ Wg := t7_in (List.mem_of_getElem? (i := 67) rfl) rfl
theorem wx_186 : Cond.instanceMethod yX11_checkAllowed ∈ Wg := t7_in (List.mem_of_getElem? (i := 69) rfl) rfl
theorem wx_187 : Cond.selects RX11 yX11_checkAllowed yX11_checkAllowed ∈ Wg := p3_in (q := (⟨"TicketGate", "checkAllowed", "(I)V"⟩, 8)) (List.mem_of_getElem? (i := 10) rfl)
theorem wx_188 : Cond.code yX11_checkAllowed cX11_checkAllowed 2 none ∈ Wg := t7_in (List.mem_of_getElem? (i := 70) rfl) rfl
theorem wx_189 : Cond.methodLink RX11 252 yX5_makeLogin ∈ Wg := t7_in (List.mem_of_getElem? (i := 72) rfl) rfl
theorem wx_190 : Cond.instanceMethod yX5_makeLogin ∈ Wg := t3_in (List.mem_of_getElem? (i := 37) rfl) rfl
theorem wx_191 : Cond.selects RX5 yX5_makeLogin yX5_makeLogin ∈ Wg := t3_in (List.mem_of_getElem? (i := 38) rfl) rfl
theorem wx_192 : Cond.code yX5_makeLogin cX5_makeLogin 4 (some .int) ∈ Wg := t3_in (List.mem_of_getElem? (i := 39) rfl) rfl
theorem wx_193 : Cond.methodLink RX11 204 yX5_whyNoReferral ∈ Wg := t7_in (List.mem_of_getElem? (i := 77) rfl) rfl
theorem wx_194 : Cond.instanceMethod yX5_whyNoReferral ∈ Wg := t3_in (List.mem_of_getElem? (i := 77) rfl) rfl
theorem wx_195 : Cond.selects RX5 yX5_whyNoReferral yX5_whyNoReferral ∈ Wg := t3_in (List.mem_of_getElem? (i := 78) rfl) rfl
theorem wx_196 : Cond.code yX5_whyNoReferral cX5_whyNoReferral 3 (some .int) ∈ Wg := t3_in (List.mem_of_getElem? (i := 79) rfl) rfl
theorem wx_197 : Cond.methodLink RX11 256 yX5_makeReferral ∈ Wg := t7_in (List.mem_of_getElem? (i := 78) rfl) rfl
theorem wx_198 : Cond.instanceMethod yX5_makeReferral ∈ Wg := t3_in (List.mem_of_getElem? (i := 91) rfl) rfl
theorem wx_199 : Cond.selects RX5 yX5_makeReferral yX5_makeReferral ∈ Wg := t3_in (List.mem_of_getElem? (i := 92) rfl) rfl
theorem wx_200 : Cond.code yX5_makeReferral cX5_makeReferral 4 (some .int) ∈ Wg := t3_in (List.mem_of_getElem? (i := 93) rfl) rfl
theorem wx_201 : Cond.methodLink RX11 207 yX5_whyNoRequest ∈ Wg := t7_in (List.mem_of_getElem? (i := 83) rfl) rfl
theorem wx_202 : Cond.instanceMethod yX5_whyNoRequest ∈ Wg := t3_in (List.mem_of_getElem? (i := 108) rfl) rfl
theorem wx_203 : Cond.selects RX5 yX5_whyNoRequest yX5_whyNoRequest ∈ Wg := t3_in (List.mem_of_getElem? (i := 109) rfl) rfl
theorem wx_204 : Cond.code yX5_whyNoRequest cX5_whyNoRequest 3 (some .int) ∈ Wg := t3_in (List.mem_of_getElem? (i := 110) rfl) rfl
theorem wx_205 : Cond.methodLink RX11 259 yX5_makeRequest ∈ Wg := t7_in (List.mem_of_getElem? (i := 84) rfl) rfl
theorem wx_206 : Cond.instanceMethod yX5_makeRequest ∈ Wg := t3_in (List.mem_of_getElem? (i := 115) rfl) rfl
theorem wx_207 : Cond.selects RX5 yX5_makeRequest yX5_makeRequest ∈ Wg := t3_in (List.mem_of_getElem? (i := 116) rfl) rfl
theorem wx_208 : Cond.code yX5_makeRequest cX5_makeRequest 5 (some .int) ∈ Wg := t3_in (List.mem_of_getElem? (i := 117) rfl) rfl
theorem wx_209 : Cond.methodLink RX11 210 yX5_whyNoRenewal ∈ Wg := t7_in (List.mem_of_getElem? (i := 89) rfl) rfl
theorem wx_210 : Cond.instanceMethod yX5_whyNoRenewal ∈ Wg := t3_in (List.mem_of_getElem? (i := 124) rfl) rfl
theorem wx_211 : Cond.selects RX5 yX5_whyNoRenewal yX5_whyNoRenewal ∈ Wg := t3_in (List.mem_of_getElem? (i := 125) rfl) rfl
theorem wx_212 : Cond.code yX5_whyNoRenewal cX5_whyNoRenewal 2 (some .int) ∈ Wg := t3_in (List.mem_of_getElem? (i := 126) rfl) rfl
theorem wx_213 : Cond.methodLink RX11 262 yX5_makeRenewal ∈ Wg := t7_in (List.mem_of_getElem? (i := 90) rfl) rfl
theorem wx_214 : Cond.instanceMethod yX5_makeRenewal ∈ Wg := t3_in (List.mem_of_getElem? (i := 132) rfl) rfl
theorem wx_215 : Cond.selects RX5 yX5_makeRenewal yX5_makeRenewal ∈ Wg := t3_in (List.mem_of_getElem? (i := 133) rfl) rfl
theorem wx_216 : Cond.code yX5_makeRenewal cX5_makeRenewal 3 (some .int) ∈ Wg := t3_in (List.mem_of_getElem? (i := 134) rfl) rfl
theorem wx_217 : Cond.methodLink RX11 213 yX5_whyNoCheese ∈ Wg := t7_in (List.mem_of_getElem? (i := 95) rfl) rfl
theorem wx_218 : Cond.instanceMethod yX5_whyNoCheese ∈ Wg := t3_in (List.mem_of_getElem? (i := 141) rfl) rfl
theorem wx_219 : Cond.selects RX5 yX5_whyNoCheese yX5_whyNoCheese ∈ Wg := t3_in (List.mem_of_getElem? (i := 142) rfl) rfl
theorem wx_220 : Cond.code yX5_whyNoCheese cX5_whyNoCheese 6 (some .int) ∈ Wg := t3_in (List.mem_of_getElem? (i := 143) rfl) rfl
theorem wx_221 : Cond.methodLink RX11 265 yX5_giveCheese ∈ Wg := t7_in (List.mem_of_getElem? (i := 96) rfl) rfl
theorem wx_222 : Cond.instanceMethod yX5_giveCheese ∈ Wg := t3_in (List.mem_of_getElem? (i := 158) rfl) rfl
theorem wx_223 : Cond.selects RX5 yX5_giveCheese yX5_giveCheese ∈ Wg := t3_in (List.mem_of_getElem? (i := 159) rfl) rfl
theorem wx_224 : Cond.code yX5_giveCheese cX5_giveCheese 5 (some .int) ∈ Wg := t3_in (List.mem_of_getElem? (i := 160) rfl) rfl
theorem wx_225 : Cond.methodLink RX11 268 ⟨"TicketGate$Tickets", "removeRow", "(I)V"⟩ ∈ Wg := t7_in (List.mem_of_getElem? (i := 101) rfl) rfl
theorem wx_226 : Cond.sameMethod "TicketGate$Tickets" "TicketGate$Table" "removeRow" "(I)V" ∈ Wg := t3_in (List.mem_of_getElem? (i := 188) rfl) rfl
theorem wx_227 : Cond.selects RX7 ⟨"TicketGate$Tickets", "removeRow", "(I)V"⟩ yX6_removeRow ∈ Wg := t3_in (List.mem_of_getElem? (i := 189) rfl) rfl
theorem wx_228 : Cond.instanceMethod yX6_removeRow ∈ Wg := t3_in (List.mem_of_getElem? (i := 172) rfl) rfl
theorem wx_229 : Cond.code yX6_removeRow cX6_removeRow 4 none ∈ Wg := t3_in (List.mem_of_getElem? (i := 173) rfl) rfl
theorem wx_230 : Cond.methodLink RX11 271 yX7_removeDead ∈ Wg := t7_in (List.mem_of_getElem? (i := 106) rfl) rfl
theorem wx_231 : Cond.instanceMethod yX7_removeDead ∈ Wg := t3_in (List.mem_of_getElem? (i := 196) rfl) rfl
theorem wx_232 : Cond.selects RX7 yX7_removeDead yX7_removeDead ∈ Wg := t3_in (List.mem_of_getElem? (i := 197) rfl) rfl
theorem wx_233 : Cond.code yX7_removeDead cX7_removeDead 4 (some .int) ∈ Wg := t3_in (List.mem_of_getElem? (i := 198) rfl) rfl
theorem wx_234 : Cond.methodLink RX11 274 ⟨"TicketGate$Users", "set", "(III)V"⟩ ∈ Wg := t7_in (List.mem_of_getElem? (i := 112) rfl) rfl
theorem wx_235 : Cond.sameMethod "TicketGate$Users" "TicketGate$Table" "set" "(III)V" ∈ Wg := t2_in (List.mem_of_getElem? (i := 232) rfl) rfl
theorem wx_236 : Cond.selects RX8 ⟨"TicketGate$Users", "set", "(III)V"⟩ yX6_set ∈ Wg := t2_in (List.mem_of_getElem? (i := 233) rfl) rfl
theorem wx_237 : Cond.instanceMethod yX6_set ∈ Wg := t2_in (List.mem_of_getElem? (i := 191) rfl) rfl
theorem wx_238 : Cond.code yX6_set cX6_set 5 none ∈ Wg := t2_in (List.mem_of_getElem? (i := 192) rfl) rfl
theorem wx_239 : Cond.methodLink RX11 245 yX11_validTickets ∈ Wg := t7_in (List.mem_of_getElem? (i := 118) rfl) rfl
theorem wx_240 : Cond.instanceMethod yX11_validTickets ∈ Wg := t5_in (List.mem_of_getElem? (i := 9) rfl) rfl
theorem wx_241 : Cond.selects RX11 yX11_validTickets yX11_validTickets ∈ Wg := t5_in (List.mem_of_getElem? (i := 10) rfl) rfl
theorem wx_242 : Cond.code yX11_validTickets cX11_validTickets 1 (some .int) ∈ Wg := t5_in (List.mem_of_getElem? (i := 11) rfl) rfl
theorem wx_243 : Cond.methodLink RX11 280 yX5_letPass ∈ Wg := t7_in (List.mem_of_getElem? (i := 119) rfl) rfl
theorem wx_244 : Cond.instanceMethod yX5_letPass ∈ Wg := t3_in (List.mem_of_getElem? (i := 210) rfl) rfl
theorem wx_245 : Cond.selects RX5 yX5_letPass yX5_letPass ∈ Wg := t3_in (List.mem_of_getElem? (i := 211) rfl) rfl
theorem wx_246 : Cond.code yX5_letPass cX5_letPass 2 none ∈ Wg := t3_in (List.mem_of_getElem? (i := 212) rfl) rfl
theorem wx_247 : Cond.methodLink RX11 324 Lib.Math.min.name ∈ Wg := t6_in (List.mem_of_getElem? (i := 29) rfl) rfl
theorem wx_248 : Cond.static Lib.Math.min.name ∈ Wg := t2_in (List.mem_of_getElem? (i := 76) rfl) rfl
theorem wx_249 : Cond.initialized "java/lang/Math" ∈ Wg := t1_in (List.mem_of_getElem? (i := 3) rfl) rfl
theorem wx_250 : Cond.code Lib.Math.min.name Lib.Math.min.code 2 (some .int) ∈ Wg := t2_in (List.mem_of_getElem? (i := 77) rfl) rfl
theorem wx_251 : Cond.methodLink RX11 303 yX4_put ∈ Wg := t6_in (List.mem_of_getElem? (i := 23) rfl) rfl
theorem wx_252 : Cond.instanceMethod yX4_put ∈ Wg := t6_in (List.mem_of_getElem? (i := 24) rfl) rfl
theorem wx_253 : Cond.selects RX4 yX4_put yX4_put ∈ Wg := t6_in (List.mem_of_getElem? (i := 25) rfl) rfl
theorem wx_254 : Cond.initialized RX4 ∈ Wg := t1_in (List.mem_of_getElem? (i := 12) rfl) rfl
theorem wx_255 : Cond.code yX4_put cX4_put 4 none ∈ Wg := t6_in (List.mem_of_getElem? (i := 26) rfl) rfl
theorem wx_256 : Cond.fieldLink RX11 44 "TicketGate" "past" "LTicketGate$Shelf;" ∈ Wg := t4_in (List.mem_of_getElem? (i := 12) rfl) rfl
theorem wx_257 : Cond.fieldLink RX11 321 "TicketGate" "nextPast" "I" ∈ Wg := t4_in (List.mem_of_getElem? (i := 13) rfl) rfl
theorem wx_258 : Cond.fieldLink RX11 316 "TicketGate" "pastCount" "I" ∈ Wg := t4_in (List.mem_of_getElem? (i := 14) rfl) rfl
theorem layx_X11 : ∀ k, k < 8 → u_lay RX11 TX11 k ∈ Wg := fun k hk => match k, hk with
  | 0, _ => wx_0
  | 1, _ => wx_1
  | 2, _ => wx_2
  | 3, _ => wx_3
  | 4, _ => wx_4
  | 5, _ => wx_5
  | 6, _ => wx_6
  | 7, _ => wx_7
  | k + 8, h => absurd h (by omega)
theorem layx_X1 : ∀ k, k < 8 → u_lay RX1 TX1 k ∈ Wg := fun k hk => match k, hk with
  | 0, _ => wx_38
  | 1, _ => wx_39
  | 2, _ => wx_40
  | 3, _ => wx_41
  | 4, _ => wx_42
  | 5, _ => wx_43
  | 6, _ => wx_44
  | 7, _ => wx_45
  | k + 8, h => absurd h (by omega)
theorem layx_X5 : ∀ k, k < 10 → u_lay RX5 TX5 k ∈ Wg := fun k hk => match k, hk with
  | 0, _ => wx_51
  | 1, _ => wx_52
  | 2, _ => wx_53
  | 3, _ => wx_54
  | 4, _ => wx_55
  | 5, _ => wx_56
  | 6, _ => wx_57
  | 7, _ => wx_58
  | 8, _ => wx_59
  | 9, _ => wx_60
  | k + 10, h => absurd h (by omega)
theorem layx_X7 : ∀ k, k < 4 → u_lay RX7 TX7 k ∈ Wg := fun k hk => match k, hk with
  | 0, _ => wx_61
  | 1, _ => wx_62
  | 2, _ => wx_63
  | 3, _ => wx_64
  | k + 4, h => absurd h (by omega)
theorem layx_X2 : ∀ k, k < 4 → u_lay RX2 TX2 k ∈ Wg := fun k hk => match k, hk with
  | 0, _ => wx_71
  | 1, _ => wx_72
  | 2, _ => wx_73
  | 3, _ => wx_74
  | k + 4, h => absurd h (by omega)
theorem layx_X3 : ∀ k, k < 4 → u_lay RX3 TX3 k ∈ Wg := fun k hk => match k, hk with
  | 0, _ => wx_78
  | 1, _ => wx_79
  | 2, _ => wx_80
  | 3, _ => wx_81
  | k + 4, h => absurd h (by omega)
theorem layx_X8 : ∀ k, k < 4 → u_lay RX8 TX8 k ∈ Wg := fun k hk => match k, hk with
  | 0, _ => wx_101
  | 1, _ => wx_102
  | 2, _ => wx_103
  | 3, _ => wx_104
  | k + 4, h => absurd h (by omega)
theorem layx_X9 : ∀ k, k < 4 → u_lay RX9 TX9 k ∈ Wg := fun k hk => match k, hk with
  | 0, _ => wx_156
  | 1, _ => wx_157
  | 2, _ => wx_158
  | 3, _ => wx_159
  | k + 4, h => absurd h (by omega)
def f_X11_remember (nextPast : Int32) (pastCount : Int32) (s_time : Int32) (s_tolerance : Int32) (s_seed : Int32) (s_madeTickets : Int32) (s_cheesesOfText : Int32) (s_R_rows : Int32) (s_R_cells : Nat → Int32) (s_U_rows : Int32) (s_U_cells : Nat → Int32) (s_S_rows : Int32) (s_S_cells : Nat → Int32) (s_T_rows : Int32) (s_T_cells : Nat → Int32) (s_E_rows : Int32) (s_E_cells : Nat → Int32) (pa : Nat → Option SV) : Option (Nat × Int32 × Int32 × (Nat → Option SV)) :=
  if nextPast < 0 ∨ 8 ≤ nextPast.toNatClampNeg then none else some (0, irm (nextPast + 1) 8, imin 8 (pastCount + 1), (va_up pa nextPast.toNatClampNeg (some (s_time, s_tolerance, s_seed, s_madeTickets, s_cheesesOfText, s_R_rows, s_R_cells, s_U_rows, s_U_cells, s_S_rows, s_S_cells, s_T_rows, s_T_cells, s_E_rows, s_E_cells))))
set_option maxRecDepth 100000 in
set_option maxHeartbeats 4000000 in
theorem c_X11_remember (l : Launch) {G : (Nat → Prop) → State → Heap → Prop} (hG : vG G) (hl0 : l.stackTraces = false) (D : va_G) (c9 : Nat → ClassId) (sk sv : Nat → Nat) (hGU : ∀ (A : Nat → Prop) (U : State) (H : Heap), G A U H → vU sk sv A U H) (ad : Nat → Nat) (nextPast : Int32) (pastCount : Int32) (i_count : Int32) (i_cells : Nat → Int32) (o_count : Int32) (o_cells : Nat → Int32) (p_start : Int32) (p_end : Int32) (p_kind : Int32) (p_value : Int32) (p_error : Int32) (p_errorAt : Int32) (p_d_time : Int32) (p_d_tolerance : Int32) (p_d_seed : Int32) (p_d_madeTickets : Int32) (p_d_cheesesOfText : Int32) (p_d_R_rows : Int32) (p_d_R_cells : Nat → Int32) (p_d_U_rows : Int32) (p_d_U_cells : Nat → Int32) (p_d_S_rows : Int32) (p_d_S_cells : Nat → Int32) (p_d_T_rows : Int32) (p_d_T_cells : Nat → Int32) (p_d_E_rows : Int32) (p_d_E_cells : Nat → Int32) (s_time : Int32) (s_tolerance : Int32) (s_seed : Int32) (s_madeTickets : Int32) (s_cheesesOfText : Int32) (s_R_rows : Int32) (s_R_cells : Nat → Int32) (s_U_rows : Int32) (s_U_cells : Nat → Int32) (s_S_rows : Int32) (s_S_cells : Nat → Int32) (s_T_rows : Int32) (s_T_cells : Nat → Int32) (s_E_rows : Int32) (s_E_cells : Nat → Int32) (sl : Nat → Option SV) (asl : Nat → Nat → Nat) (pa : Nat → Option SV) (apa : Nat → Nat → Nat) {F0 : va_W} {o : Nat × Int32 × Int32 × (Nat → Option SV)} (hf : f_X11_remember nextPast pastCount s_time s_tolerance s_seed s_madeTickets s_cheesesOfText s_R_rows s_R_cells s_U_rows s_U_cells s_S_rows s_S_cells s_T_rows s_T_cells s_E_rows s_E_cells pa = some o) : mTv (S := Nat → Nat → Nat) l yX11_remember (wq yX11_remember cX11_remember 1 none) { frames := 5, cells := 11, slots := 463, locals := 125 } G D (tyA c9) [.ref (ad 0)] ((wX11 ad c9 nextPast pastCount i_count i_cells o_count o_cells p_start p_end p_kind p_value p_error p_errorAt p_d_time p_d_tolerance p_d_seed p_d_madeTickets p_d_cheesesOfText p_d_R_rows p_d_R_cells p_d_U_rows p_d_U_cells p_d_S_rows p_d_S_cells p_d_T_rows p_d_T_cells p_d_E_rows p_d_E_cells s_time s_tolerance s_seed s_madeTickets s_cheesesOfText s_R_rows s_R_cells s_U_rows s_U_cells s_S_rows s_S_cells s_T_rows s_T_cells s_E_rows s_E_cells sl asl pa apa) ++ (optA c9 (List.range 8) pa apa ++ (optA c9 (List.range 2) sl asl ++ F0))) 11 463 o.1 (fun _ => True) (fun apa2 => (wX11 ad c9 o.2.1 o.2.2.1 i_count i_cells o_count o_cells p_start p_end p_kind p_value p_error p_errorAt p_d_time p_d_tolerance p_d_seed p_d_madeTickets p_d_cheesesOfText p_d_R_rows p_d_R_cells p_d_U_rows p_d_U_cells p_d_S_rows p_d_S_cells p_d_T_rows p_d_T_cells p_d_E_rows p_d_E_cells s_time s_tolerance s_seed s_madeTickets s_cheesesOfText s_R_rows s_R_cells s_U_rows s_U_cells s_S_rows s_S_cells s_T_rows s_T_cells s_E_rows s_E_cells sl asl o.2.2.2 apa2) ++ (optA c9 (List.range 8) o.2.2.2 apa2 ++ (optA c9 (List.range 2) sl asl ++ F0))) := by
  unfold f_X11_remember at hf
  split at hf
  · cases hf
  rename_i hin
  obtain rfl := Option.some.inj hf
  have hin : vp_in nextPast 8 := hin
  refine mTv_of hG (cc := cX11_remember) (maxL := 1) (by decide) rfl (Nat.le_of_ble_eq_true rfl) ?_
  intro p e s m args below meth c A hnt X
  have X : vX p s m args meth c cX11_remember 1 none RX11 (wq yX11_remember cX11_remember 1 none) D (tyA c9) G A := X
  refine v_eq (lv2 := [(0, .ref (ad 0))]) rfl rfl rfl rfl ?_
  refine v_aload_n X dX11_remember_0 0 rfl rfl 1 rfl ?_
  refine v_get X (C := RX11) (T := TX11) (N := 8) (ci := 12) (v := _) dX11_remember_1 (lay_of layx_X11) 0 rfl rfl 5 (by decide) (mw wx_256) rfl rfl 4 rfl ?_
  refine v_aload_n X dX11_remember_4 0 rfl rfl 5 rfl ?_
  refine v_get X (C := RX11) (T := TX11) (N := 8) (ci := 12) (v := _) dX11_remember_5 (lay_of layx_X11) 0 rfl rfl 6 (by decide) (mw wx_257) rfl rfl 8 rfl ?_
  refine v_aload_n X dX11_remember_8 0 rfl rfl 9 rfl ?_
  refine v_get X (C := RX11) (T := TX11) (N := 8) (ci := 12) (v := _) dX11_remember_9 (lay_of layx_X11) 0 rfl rfl 3 (by decide) (mw wx_37) rfl rfl 12 rfl ?_
  refine v_perm (ws' := (([((ad 30), .inr (6, [.ref (ad 31)])), ((ad 31), .inl (c9 3, 8, .inr (.inr (.inr (.inr (rowsO pa apa))))))]) ++ (wX5 (fun k => ad ([17, 18, 19, 20, 21, 22, 23, 24, 25, 26, 27].getD k 0)) c9 s_time s_tolerance s_seed s_madeTickets s_cheesesOfText s_R_rows s_R_cells s_U_rows s_U_cells s_S_rows s_S_cells s_T_rows s_T_cells s_E_rows s_E_cells))) (F' := optA c9 (List.range 8) pa apa ++ ((optA c9 (List.range 2) sl asl ++ F0) ++ [((ad 0), .inr (12, [.ref (ad 1), .ref (ad 3), .ref (ad 5), .ref (ad 17), .ref (ad 28), .ref (ad 30), .int nextPast, .int pastCount])), ((ad 1), .inr (2, [.ref (ad 2), .int i_count])), ((ad 2), .inl (c9 0, 600, .inl i_cells)), ((ad 3), .inr (2, [.ref (ad 4), .int o_count])), ((ad 4), .inl (c9 0, 64, .inl o_cells)), ((ad 5), .inr (3, [.ref (ad 1), .ref (ad 6), .int p_start, .int p_end, .int p_kind, .int p_value, .int p_error, .int p_errorAt])), ((ad 6), .inr (7, [.ref (ad 7), .ref (ad 9), .ref (ad 11), .ref (ad 13), .ref (ad 15), .int p_d_time, .int p_d_tolerance, .int p_d_seed, .int p_d_madeTickets, .int p_d_cheesesOfText])), ((ad 7), .inr (4, [.int 5, .int 5, .ref (ad 8), .int p_d_R_rows])), ((ad 8), .inl (c9 0, 25, .inl p_d_R_cells)), ((ad 9), .inr (9, [.int 6, .int 5, .ref (ad 10), .int p_d_U_rows])), ((ad 10), .inl (c9 0, 30, .inl p_d_U_cells)), ((ad 11), .inr (5, [.int 6, .int 3, .ref (ad 12), .int p_d_S_rows])), ((ad 12), .inl (c9 0, 18, .inl p_d_S_cells)), ((ad 13), .inr (8, [.int 24, .int 10, .ref (ad 14), .int p_d_T_rows])), ((ad 14), .inl (c9 0, 240, .inl p_d_T_cells)), ((ad 15), .inr (10, [.int 30, .int 4, .ref (ad 16), .int p_d_E_rows])), ((ad 16), .inl (c9 0, 120, .inl p_d_E_cells)), ((ad 28), .inr (6, [.ref (ad 29)])), ((ad 29), .inl (c9 3, 2, .inr (.inr (.inr (.inr (rowsO sl asl))))))])) (((perm_is (ws' := (([((ad 30), .inr (6, [.ref (ad 31)])), ((ad 31), .inl (c9 3, 8, .inr (.inr (.inr (.inr (rowsO pa apa))))))]) ++ (wX5 (fun k => ad ([17, 18, 19, 20, 21, 22, 23, 24, 25, 26, 27].getD k 0)) c9 s_time s_tolerance s_seed s_madeTickets s_cheesesOfText s_R_rows s_R_cells s_U_rows s_U_cells s_S_rows s_S_cells s_T_rows s_T_cells s_E_rows s_E_cells)) ++ [((ad 0), .inr (12, [.ref (ad 1), .ref (ad 3), .ref (ad 5), .ref (ad 17), .ref (ad 28), .ref (ad 30), .int nextPast, .int pastCount])), ((ad 1), .inr (2, [.ref (ad 2), .int i_count])), ((ad 2), .inl (c9 0, 600, .inl i_cells)), ((ad 3), .inr (2, [.ref (ad 4), .int o_count])), ((ad 4), .inl (c9 0, 64, .inl o_cells)), ((ad 5), .inr (3, [.ref (ad 1), .ref (ad 6), .int p_start, .int p_end, .int p_kind, .int p_value, .int p_error, .int p_errorAt])), ((ad 6), .inr (7, [.ref (ad 7), .ref (ad 9), .ref (ad 11), .ref (ad 13), .ref (ad 15), .int p_d_time, .int p_d_tolerance, .int p_d_seed, .int p_d_madeTickets, .int p_d_cheesesOfText])), ((ad 7), .inr (4, [.int 5, .int 5, .ref (ad 8), .int p_d_R_rows])), ((ad 8), .inl (c9 0, 25, .inl p_d_R_cells)), ((ad 9), .inr (9, [.int 6, .int 5, .ref (ad 10), .int p_d_U_rows])), ((ad 10), .inl (c9 0, 30, .inl p_d_U_cells)), ((ad 11), .inr (5, [.int 6, .int 3, .ref (ad 12), .int p_d_S_rows])), ((ad 12), .inl (c9 0, 18, .inl p_d_S_cells)), ((ad 13), .inr (8, [.int 24, .int 10, .ref (ad 14), .int p_d_T_rows])), ((ad 14), .inl (c9 0, 240, .inl p_d_T_cells)), ((ad 15), .inr (10, [.int 30, .int 4, .ref (ad 16), .int p_d_E_rows])), ((ad 16), .inl (c9 0, 120, .inl p_d_E_cells)), ((ad 28), .inr (6, [.ref (ad 29)])), ((ad 29), .inl (c9 3, 2, .inr (.inr (.inr (.inr (rowsO sl asl))))))]) [30, 31, 17, 18, 19, 20, 21, 22, 23, 24, 25, 26, 27, 0, 1, 2, 3, 4, 5, 6, 7, 8, 9, 10, 11, 12, 13, 14, 15, 16, 28, 29] rfl 32 rfl (by decide)).append_right _).trans perm_move) ?_
  refine v_ncallV X (S := Nat → Nat → Nat) (C := RX4) (ci := 6) (T := TX4) (As := [.int nextPast, .ref (ad 17)]) (rest := []) (ws' := fun apa2 => (([((ad 30), .inr (6, [.ref (ad 31)])), ((ad 31), .inl (c9 3, 8, .inr (.inr (.inr (.inr (rowsO (va_up pa nextPast.toNatClampNeg (some (s_time, s_tolerance, s_seed, s_madeTickets, s_cheesesOfText, s_R_rows, s_R_cells, s_U_rows, s_U_cells, s_S_rows, s_S_cells, s_T_rows, s_T_cells, s_E_rows, s_E_cells))) apa2))))))]) ++ (wX5 (fun k => ad ([17, 18, 19, 20, 21, 22, 23, 24, 25, 26, 27].getD k 0)) c9 s_time s_tolerance s_seed s_madeTickets s_cheesesOfText s_R_rows s_R_cells s_U_rows s_U_cells s_S_rows s_S_cells s_T_rows s_T_cells s_E_rows s_E_cells))) (F' := fun apa2 => optA c9 (List.range 8) (va_up pa nextPast.toNatClampNeg (some (s_time, s_tolerance, s_seed, s_madeTickets, s_cheesesOfText, s_R_rows, s_R_cells, s_U_rows, s_U_cells, s_S_rows, s_S_cells, s_T_rows, s_T_cells, s_E_rows, s_E_cells))) apa2 ++ ((optA c9 (List.range 2) sl asl ++ F0) ++ [((ad 0), .inr (12, [.ref (ad 1), .ref (ad 3), .ref (ad 5), .ref (ad 17), .ref (ad 28), .ref (ad 30), .int nextPast, .int pastCount])), ((ad 1), .inr (2, [.ref (ad 2), .int i_count])), ((ad 2), .inl (c9 0, 600, .inl i_cells)), ((ad 3), .inr (2, [.ref (ad 4), .int o_count])), ((ad 4), .inl (c9 0, 64, .inl o_cells)), ((ad 5), .inr (3, [.ref (ad 1), .ref (ad 6), .int p_start, .int p_end, .int p_kind, .int p_value, .int p_error, .int p_errorAt])), ((ad 6), .inr (7, [.ref (ad 7), .ref (ad 9), .ref (ad 11), .ref (ad 13), .ref (ad 15), .int p_d_time, .int p_d_tolerance, .int p_d_seed, .int p_d_madeTickets, .int p_d_cheesesOfText])), ((ad 7), .inr (4, [.int 5, .int 5, .ref (ad 8), .int p_d_R_rows])), ((ad 8), .inl (c9 0, 25, .inl p_d_R_cells)), ((ad 9), .inr (9, [.int 6, .int 5, .ref (ad 10), .int p_d_U_rows])), ((ad 10), .inl (c9 0, 30, .inl p_d_U_cells)), ((ad 11), .inr (5, [.int 6, .int 3, .ref (ad 12), .int p_d_S_rows])), ((ad 12), .inl (c9 0, 18, .inl p_d_S_cells)), ((ad 13), .inr (8, [.int 24, .int 10, .ref (ad 14), .int p_d_T_rows])), ((ad 14), .inl (c9 0, 240, .inl p_d_T_cells)), ((ad 15), .inr (10, [.int 30, .int 4, .ref (ad 16), .int p_d_E_rows])), ((ad 16), .inl (c9 0, 120, .inl p_d_E_cells)), ((ad 28), .inr (6, [.ref (ad 29)])), ((ad 29), .inl (c9 3, 2, .inr (.inr (.inr (.inr (rowsO sl asl))))))])) (c_X4_put l hG D c9 (ad 30) (ad 31) 8 (by decide) nextPast hin pa apa (fun k => ad ([17, 18, 19, 20, 21, 22, 23, 24, 25, 26, 27].getD k 0)) s_time s_tolerance s_seed s_madeTickets s_cheesesOfText s_R_rows s_R_cells s_U_rows s_U_cells s_S_rows s_S_cells s_T_rows s_T_cells s_E_rows s_E_cells ((optA c9 (List.range 2) sl asl ++ F0) ++ [((ad 0), .inr (12, [.ref (ad 1), .ref (ad 3), .ref (ad 5), .ref (ad 17), .ref (ad 28), .ref (ad 30), .int nextPast, .int pastCount])), ((ad 1), .inr (2, [.ref (ad 2), .int i_count])), ((ad 2), .inl (c9 0, 600, .inl i_cells)), ((ad 3), .inr (2, [.ref (ad 4), .int o_count])), ((ad 4), .inl (c9 0, 64, .inl o_cells)), ((ad 5), .inr (3, [.ref (ad 1), .ref (ad 6), .int p_start, .int p_end, .int p_kind, .int p_value, .int p_error, .int p_errorAt])), ((ad 6), .inr (7, [.ref (ad 7), .ref (ad 9), .ref (ad 11), .ref (ad 13), .ref (ad 15), .int p_d_time, .int p_d_tolerance, .int p_d_seed, .int p_d_madeTickets, .int p_d_cheesesOfText])), ((ad 7), .inr (4, [.int 5, .int 5, .ref (ad 8), .int p_d_R_rows])), ((ad 8), .inl (c9 0, 25, .inl p_d_R_cells)), ((ad 9), .inr (9, [.int 6, .int 5, .ref (ad 10), .int p_d_U_rows])), ((ad 10), .inl (c9 0, 30, .inl p_d_U_cells)), ((ad 11), .inr (5, [.int 6, .int 3, .ref (ad 12), .int p_d_S_rows])), ((ad 12), .inl (c9 0, 18, .inl p_d_S_cells)), ((ad 13), .inr (8, [.int 24, .int 10, .ref (ad 14), .int p_d_T_rows])), ((ad 14), .inl (c9 0, 240, .inl p_d_T_cells)), ((ad 15), .inr (10, [.int 30, .int 4, .ref (ad 16), .int p_d_E_rows])), ((ad 16), .inl (c9 0, 120, .inl p_d_E_cells)), ((ad 28), .inr (6, [.ref (ad 29)])), ((ad 29), .inl (c9 3, 2, .inr (.inr (.inr (.inr (rowsO sl asl))))))])) 2 (gV wx_251 wx_252 wx_253 wx_254 wx_255) rfl rfl rfl ⟨rfl, pd_X4_put⟩ ⟨Nat.le_of_ble_eq_true rfl, Nat.le_of_ble_eq_true rfl⟩ 0 rfl rfl rfl rfl (Nat.le_of_ble_eq_true rfl) ⟨(by first | exact Nat.le_of_ble_eq_true rfl | omega), (by first | exact Nat.le_of_ble_eq_true rfl | omega)⟩ (fun _ => rfl) dX11_remember_12 15 rfl (fun apa2 _ => ?_)
  refine v_perm (ws' := (wX11 ad c9 nextPast pastCount i_count i_cells o_count o_cells p_start p_end p_kind p_value p_error p_errorAt p_d_time p_d_tolerance p_d_seed p_d_madeTickets p_d_cheesesOfText p_d_R_rows p_d_R_cells p_d_U_rows p_d_U_cells p_d_S_rows p_d_S_cells p_d_T_rows p_d_T_cells p_d_E_rows p_d_E_cells s_time s_tolerance s_seed s_madeTickets s_cheesesOfText s_R_rows s_R_cells s_U_rows s_U_cells s_S_rows s_S_cells s_T_rows s_T_cells s_E_rows s_E_cells sl asl (va_up pa nextPast.toNatClampNeg (some (s_time, s_tolerance, s_seed, s_madeTickets, s_cheesesOfText, s_R_rows, s_R_cells, s_U_rows, s_U_cells, s_S_rows, s_S_cells, s_T_rows, s_T_cells, s_E_rows, s_E_cells))) apa2)) (F' := (optA c9 (List.range 8) (va_up pa nextPast.toNatClampNeg (some (s_time, s_tolerance, s_seed, s_madeTickets, s_cheesesOfText, s_R_rows, s_R_cells, s_U_rows, s_U_cells, s_S_rows, s_S_cells, s_T_rows, s_T_cells, s_E_rows, s_E_cells))) apa2 ++ (optA c9 (List.range 2) sl asl ++ F0))) (((perm_is (ws' := (([((ad 30), .inr (6, [.ref (ad 31)])), ((ad 31), .inl (c9 3, 8, .inr (.inr (.inr (.inr (rowsO (va_up pa nextPast.toNatClampNeg (some (s_time, s_tolerance, s_seed, s_madeTickets, s_cheesesOfText, s_R_rows, s_R_cells, s_U_rows, s_U_cells, s_S_rows, s_S_cells, s_T_rows, s_T_cells, s_E_rows, s_E_cells))) apa2))))))]) ++ (wX5 (fun k => ad ([17, 18, 19, 20, 21, 22, 23, 24, 25, 26, 27].getD k 0)) c9 s_time s_tolerance s_seed s_madeTickets s_cheesesOfText s_R_rows s_R_cells s_U_rows s_U_cells s_S_rows s_S_cells s_T_rows s_T_cells s_E_rows s_E_cells)) ++ [((ad 0), .inr (12, [.ref (ad 1), .ref (ad 3), .ref (ad 5), .ref (ad 17), .ref (ad 28), .ref (ad 30), .int nextPast, .int pastCount])), ((ad 1), .inr (2, [.ref (ad 2), .int i_count])), ((ad 2), .inl (c9 0, 600, .inl i_cells)), ((ad 3), .inr (2, [.ref (ad 4), .int o_count])), ((ad 4), .inl (c9 0, 64, .inl o_cells)), ((ad 5), .inr (3, [.ref (ad 1), .ref (ad 6), .int p_start, .int p_end, .int p_kind, .int p_value, .int p_error, .int p_errorAt])), ((ad 6), .inr (7, [.ref (ad 7), .ref (ad 9), .ref (ad 11), .ref (ad 13), .ref (ad 15), .int p_d_time, .int p_d_tolerance, .int p_d_seed, .int p_d_madeTickets, .int p_d_cheesesOfText])), ((ad 7), .inr (4, [.int 5, .int 5, .ref (ad 8), .int p_d_R_rows])), ((ad 8), .inl (c9 0, 25, .inl p_d_R_cells)), ((ad 9), .inr (9, [.int 6, .int 5, .ref (ad 10), .int p_d_U_rows])), ((ad 10), .inl (c9 0, 30, .inl p_d_U_cells)), ((ad 11), .inr (5, [.int 6, .int 3, .ref (ad 12), .int p_d_S_rows])), ((ad 12), .inl (c9 0, 18, .inl p_d_S_cells)), ((ad 13), .inr (8, [.int 24, .int 10, .ref (ad 14), .int p_d_T_rows])), ((ad 14), .inl (c9 0, 240, .inl p_d_T_cells)), ((ad 15), .inr (10, [.int 30, .int 4, .ref (ad 16), .int p_d_E_rows])), ((ad 16), .inl (c9 0, 120, .inl p_d_E_cells)), ((ad 28), .inr (6, [.ref (ad 29)])), ((ad 29), .inl (c9 3, 2, .inr (.inr (.inr (.inr (rowsO sl asl))))))]) [30, 31, 17, 18, 19, 20, 21, 22, 23, 24, 25, 26, 27, 0, 1, 2, 3, 4, 5, 6, 7, 8, 9, 10, 11, 12, 13, 14, 15, 16, 28, 29] rfl 32 rfl (by decide)).append_right _).trans perm_move).symm ?_
  refine v_aload_n X dX11_remember_15 0 rfl rfl 16 rfl ?_
  refine v_aload_n X dX11_remember_16 0 rfl rfl 17 rfl ?_
  refine v_get X (C := RX11) (T := TX11) (N := 8) (ci := 12) (v := _) dX11_remember_17 (lay_of layx_X11) 0 rfl rfl 6 (by decide) (mw wx_257) rfl rfl 20 rfl ?_
  refine v_iconst X dX11_remember_20 ic_1 21 rfl ?_
  refine v_iadd X dX11_remember_21 22 rfl ?_
  refine v_bipush X dX11_remember_22 bp_8 24 rfl ?_
  refine v_irem X dX11_remember_24 (by decide) 25 rfl ?_
  refine v_put X (C := RX11) (T := TX11) (N := 8) (ci := 12) (ty := tyX11 6) (ws' := (wX11 ad c9 (irm (nextPast + 1) 8) pastCount i_count i_cells o_count o_cells p_start p_end p_kind p_value p_error p_errorAt p_d_time p_d_tolerance p_d_seed p_d_madeTickets p_d_cheesesOfText p_d_R_rows p_d_R_cells p_d_U_rows p_d_U_cells p_d_S_rows p_d_S_cells p_d_T_rows p_d_T_cells p_d_E_rows p_d_E_cells s_time s_tolerance s_seed s_madeTickets s_cheesesOfText s_R_rows s_R_cells s_U_rows s_U_cells s_S_rows s_S_cells s_T_rows s_T_cells s_E_rows s_E_cells sl asl (va_up pa nextPast.toNatClampNeg (some (s_time, s_tolerance, s_seed, s_madeTickets, s_cheesesOfText, s_R_rows, s_R_cells, s_U_rows, s_U_cells, s_S_rows, s_S_cells, s_T_rows, s_T_cells, s_E_rows, s_E_cells))) apa2)) dX11_remember_25 (lay_of layx_X11) 0 rfl rfl 6 (by decide) tyX11 tyX11_ok nmX11 (mw wx_257) rfl rfl (tyX11_ok 6 (by decide)) rfl rfl (Nat.le_of_ble_eq_true rfl) rfl 28 rfl ?_
  refine v_aload_n X dX11_remember_28 0 rfl rfl 29 rfl ?_
  refine v_bipush X dX11_remember_29 bp_8 31 rfl ?_
  refine v_aload_n X dX11_remember_31 0 rfl rfl 32 rfl ?_
  refine v_get X (C := RX11) (T := TX11) (N := 8) (ci := 12) (v := _) dX11_remember_32 (lay_of layx_X11) 0 rfl rfl 7 (by decide) (mw wx_258) rfl rfl 35 rfl ?_
  refine v_iconst X dX11_remember_35 ic_1 36 rfl ?_
  refine v_iadd X dX11_remember_36 37 rfl ?_
  refine v_mmin X dX11_remember_37 (mw wx_247) (mw wx_248) (mw wx_249) (mw wx_250) (Nat.le_of_ble_eq_true rfl) (Nat.le_of_ble_eq_true rfl) (by first | exact Nat.le_of_ble_eq_true rfl | omega) (by first | exact Nat.le_of_ble_eq_true rfl | omega) 40 rfl ?_
  refine v_put X (C := RX11) (T := TX11) (N := 8) (ci := 12) (ty := tyX11 7) (ws' := (wX11 ad c9 (irm (nextPast + 1) 8) (imin 8 (pastCount + 1)) i_count i_cells o_count o_cells p_start p_end p_kind p_value p_error p_errorAt p_d_time p_d_tolerance p_d_seed p_d_madeTickets p_d_cheesesOfText p_d_R_rows p_d_R_cells p_d_U_rows p_d_U_cells p_d_S_rows p_d_S_cells p_d_T_rows p_d_T_cells p_d_E_rows p_d_E_cells s_time s_tolerance s_seed s_madeTickets s_cheesesOfText s_R_rows s_R_cells s_U_rows s_U_cells s_S_rows s_S_cells s_T_rows s_T_cells s_E_rows s_E_cells sl asl (va_up pa nextPast.toNatClampNeg (some (s_time, s_tolerance, s_seed, s_madeTickets, s_cheesesOfText, s_R_rows, s_R_cells, s_U_rows, s_U_cells, s_S_rows, s_S_cells, s_T_rows, s_T_cells, s_E_rows, s_E_cells))) apa2)) dX11_remember_40 (lay_of layx_X11) 0 rfl rfl 7 (by decide) tyX11 tyX11_ok nmX11 (mw wx_258) rfl rfl (tyX11_ok 7 (by decide)) rfl rfl (Nat.le_of_ble_eq_true rfl) rfl 43 rfl ?_
  exact v_tvret X apa2 trivial rfl rfl (by first | exact Nat.le_of_ble_eq_true rfl | omega) (by first | exact Nat.le_of_ble_eq_true rfl | omega) dX11_remember_43
theorem pd_X11_remember : yX11_remember.cls ≠ "java/lang/invoke/MethodHandle" ∧ yX11_remember.cls ≠ "java/lang/invoke/VarHandle" ∧ (parseMethodDescriptor yX11_remember.desc).map (fun d => d.parameters.length) = some 0 := by decide +kernel
