/-! The Hand: its acts as one, its questions, its beginning. -/
theorem whv_0 : Cond.fieldLink RX12 35 "TicketGateLaw$Hand" "ticket" "[[I" ∈ Wg := t4_in (List.mem_of_getElem? (i := 151) rfl) rfl
theorem whv_1 : Cond.laysFinal RX12 "TicketGateLaw$Hand" "tolerance" "I" ∈ Wg := t4_in (List.mem_of_getElem? (i := 156) rfl) rfl
theorem whv_2 : Cond.laysFinal RX12 "TicketGateLaw$Hand" "life" "[I" ∈ Wg := t4_in (List.mem_of_getElem? (i := 158) rfl) rfl
theorem whv_3 : Cond.laysFinal RX12 "TicketGateLaw$Hand" "again" "[I" ∈ Wg := t4_in (List.mem_of_getElem? (i := 160) rfl) rfl
theorem whv_4 : Cond.laysFinal RX12 "TicketGateLaw$Hand" "fast" "[I" ∈ Wg := t4_in (List.mem_of_getElem? (i := 162) rfl) rfl
theorem whv_5 : Cond.laysFinal RX12 "TicketGateLaw$Hand" "home" "[I" ∈ Wg := t4_in (List.mem_of_getElem? (i := 164) rfl) rfl
theorem whv_6 : Cond.laysFinal RX12 "TicketGateLaw$Hand" "own" "[I" ∈ Wg := t4_in (List.mem_of_getElem? (i := 166) rfl) rfl
theorem whv_7 : Cond.laysFinal RX12 "TicketGateLaw$Hand" "had" "[I" ∈ Wg := t4_in (List.mem_of_getElem? (i := 168) rfl) rfl
theorem whv_8 : Cond.laysFinal RX12 "TicketGateLaw$Hand" "place" "[I" ∈ Wg := t4_in (List.mem_of_getElem? (i := 170) rfl) rfl
theorem whv_9 : Cond.laysFinal RX12 "TicketGateLaw$Hand" "left" "[I" ∈ Wg := t4_in (List.mem_of_getElem? (i := 172) rfl) rfl
theorem whv_10 : Cond.lays RX12 "TicketGateLaw$Hand" "ticket" "[[I" ∈ Wg := t4_in (List.mem_of_getElem? (i := 174) rfl) rfl
theorem whv_11 : Cond.lays RX12 "TicketGateLaw$Hand" "use" "[[I" ∈ Wg := t4_in (List.mem_of_getElem? (i := 176) rfl) rfl
theorem whv_12 : Cond.lays RX12 "TicketGateLaw$Hand" "seed" "I" ∈ Wg := t4_in (List.mem_of_getElem? (i := 178) rfl) rfl
theorem whv_13 : Cond.lays RX12 "TicketGateLaw$Hand" "time" "I" ∈ Wg := t4_in (List.mem_of_getElem? (i := 180) rfl) rfl
theorem whv_14 : Cond.lays RX12 "TicketGateLaw$Hand" "next" "I" ∈ Wg := t4_in (List.mem_of_getElem? (i := 182) rfl) rfl
theorem whv_15 : Cond.arrayClass .int ∈ Wg := t1_in (List.mem_of_getElem? (i := 57) rfl) rfl
theorem whv_16 : Cond.methodLink RX12 127 yX11_ticketAt ∈ Wg := t5_in (List.mem_of_getElem? (i := 16) rfl) rfl
theorem whv_17 : Cond.instanceMethod yX11_ticketAt ∈ Wg := t5_in (List.mem_of_getElem? (i := 17) rfl) rfl
theorem whv_18 : Cond.selects RX11 yX11_ticketAt yX11_ticketAt ∈ Wg := t5_in (List.mem_of_getElem? (i := 18) rfl) rfl
theorem whv_19 : Cond.initialized RX11 ∈ Wg := t1_in (List.mem_of_getElem? (i := 1) rfl) rfl
theorem whv_20 : Cond.code yX11_ticketAt cX11_ticketAt 2 (some .int) ∈ Wg := t5_in (List.mem_of_getElem? (i := 19) rfl) rfl
theorem whv_21 : Cond.methodLink RX12 130 yX11_kindOf ∈ Wg := t5_in (List.mem_of_getElem? (i := 95) rfl) rfl
theorem whv_22 : Cond.instanceMethod yX11_kindOf ∈ Wg := t5_in (List.mem_of_getElem? (i := 96) rfl) rfl
theorem whv_23 : Cond.selects RX11 yX11_kindOf yX11_kindOf ∈ Wg := t5_in (List.mem_of_getElem? (i := 97) rfl) rfl
theorem whv_24 : Cond.code yX11_kindOf cX11_kindOf 2 (some .int) ∈ Wg := t5_in (List.mem_of_getElem? (i := 98) rfl) rfl
theorem whv_25 : Cond.methodLink RX12 133 yX11_ownerOf ∈ Wg := t5_in (List.mem_of_getElem? (i := 120) rfl) rfl
theorem whv_26 : Cond.instanceMethod yX11_ownerOf ∈ Wg := t5_in (List.mem_of_getElem? (i := 121) rfl) rfl
theorem whv_27 : Cond.selects RX11 yX11_ownerOf yX11_ownerOf ∈ Wg := t5_in (List.mem_of_getElem? (i := 122) rfl) rfl
theorem whv_28 : Cond.code yX11_ownerOf cX11_ownerOf 2 (some .int) ∈ Wg := t5_in (List.mem_of_getElem? (i := 123) rfl) rfl
theorem whv_29 : Cond.methodLink RX12 136 yX11_realmOf ∈ Wg := t5_in (List.mem_of_getElem? (i := 124) rfl) rfl
theorem whv_30 : Cond.instanceMethod yX11_realmOf ∈ Wg := t5_in (List.mem_of_getElem? (i := 125) rfl) rfl
theorem whv_31 : Cond.selects RX11 yX11_realmOf yX11_realmOf ∈ Wg := t5_in (List.mem_of_getElem? (i := 126) rfl) rfl
theorem whv_32 : Cond.code yX11_realmOf cX11_realmOf 2 (some .int) ∈ Wg := t5_in (List.mem_of_getElem? (i := 127) rfl) rfl
theorem whv_33 : Cond.methodLink RX12 139 yX11_serviceOf ∈ Wg := t5_in (List.mem_of_getElem? (i := 128) rfl) rfl
theorem whv_34 : Cond.instanceMethod yX11_serviceOf ∈ Wg := t5_in (List.mem_of_getElem? (i := 129) rfl) rfl
theorem whv_35 : Cond.selects RX11 yX11_serviceOf yX11_serviceOf ∈ Wg := t5_in (List.mem_of_getElem? (i := 130) rfl) rfl
theorem whv_36 : Cond.code yX11_serviceOf cX11_serviceOf 2 (some .int) ∈ Wg := t5_in (List.mem_of_getElem? (i := 131) rfl) rfl
theorem whv_37 : Cond.methodLink RX12 142 yX11_startOf ∈ Wg := t5_in (List.mem_of_getElem? (i := 132) rfl) rfl
theorem whv_38 : Cond.instanceMethod yX11_startOf ∈ Wg := t5_in (List.mem_of_getElem? (i := 133) rfl) rfl
theorem whv_39 : Cond.selects RX11 yX11_startOf yX11_startOf ∈ Wg := t5_in (List.mem_of_getElem? (i := 134) rfl) rfl
theorem whv_40 : Cond.code yX11_startOf cX11_startOf 2 (some .int) ∈ Wg := t5_in (List.mem_of_getElem? (i := 135) rfl) rfl
theorem whv_41 : Cond.methodLink RX12 145 yX11_endOf ∈ Wg := t5_in (List.mem_of_getElem? (i := 136) rfl) rfl
theorem whv_42 : Cond.instanceMethod yX11_endOf ∈ Wg := t5_in (List.mem_of_getElem? (i := 137) rfl) rfl
theorem whv_43 : Cond.selects RX11 yX11_endOf yX11_endOf ∈ Wg := t5_in (List.mem_of_getElem? (i := 138) rfl) rfl
theorem whv_44 : Cond.code yX11_endOf cX11_endOf 2 (some .int) ∈ Wg := t5_in (List.mem_of_getElem? (i := 139) rfl) rfl
theorem whv_45 : Cond.methodLink RX12 148 yX11_lastEndOf ∈ Wg := t5_in (List.mem_of_getElem? (i := 140) rfl) rfl
theorem whv_46 : Cond.instanceMethod yX11_lastEndOf ∈ Wg := t5_in (List.mem_of_getElem? (i := 141) rfl) rfl
theorem whv_47 : Cond.selects RX11 yX11_lastEndOf yX11_lastEndOf ∈ Wg := t5_in (List.mem_of_getElem? (i := 142) rfl) rfl
theorem whv_48 : Cond.code yX11_lastEndOf cX11_lastEndOf 2 (some .int) ∈ Wg := t5_in (List.mem_of_getElem? (i := 143) rfl) rfl
theorem whv_49 : Cond.methodLink RX12 151 yX11_keyOf ∈ Wg := t5_in (List.mem_of_getElem? (i := 144) rfl) rfl
theorem whv_50 : Cond.instanceMethod yX11_keyOf ∈ Wg := t5_in (List.mem_of_getElem? (i := 145) rfl) rfl
theorem whv_51 : Cond.selects RX11 yX11_keyOf yX11_keyOf ∈ Wg := t5_in (List.mem_of_getElem? (i := 146) rfl) rfl
theorem whv_52 : Cond.code yX11_keyOf cX11_keyOf 2 (some .int) ∈ Wg := t5_in (List.mem_of_getElem? (i := 147) rfl) rfl
theorem whv_53 : Cond.methodLink RX12 154 yX11_isRenewable ∈ Wg := t5_in (List.mem_of_getElem? (i := 148) rfl) rfl
theorem whv_54 : Cond.instanceMethod yX11_isRenewable ∈ Wg := t5_in (List.mem_of_getElem? (i := 149) rfl) rfl
theorem whv_55 : Cond.selects RX11 yX11_isRenewable yX11_isRenewable ∈ Wg := t5_in (List.mem_of_getElem? (i := 150) rfl) rfl
theorem whv_56 : Cond.code yX11_isRenewable cX11_isRenewable 2 (some .boolean) ∈ Wg := t5_in (List.mem_of_getElem? (i := 151) rfl) rfl
theorem whv_57 : Cond.methodLink RX12 158 yX11_isValid ∈ Wg := t5_in (List.mem_of_getElem? (i := 153) rfl) rfl
theorem whv_58 : Cond.instanceMethod yX11_isValid ∈ Wg := t5_in (List.mem_of_getElem? (i := 154) rfl) rfl
theorem whv_59 : Cond.selects RX11 yX11_isValid yX11_isValid ∈ Wg := t5_in (List.mem_of_getElem? (i := 155) rfl) rfl
theorem whv_60 : Cond.code yX11_isValid cX11_isValid 2 (some .boolean) ∈ Wg := t5_in (List.mem_of_getElem? (i := 156) rfl) rfl
theorem whv_61 : Cond.fieldLink RX12 67 "TicketGateLaw$Hand" "time" "I" ∈ Wg := t4_in (List.mem_of_getElem? (i := 154) rfl) rfl
theorem whv_62 : Cond.methodLink RX12 112 yX11_time ∈ Wg := t4_in (List.mem_of_getElem? (i := 230) rfl) rfl
theorem whv_63 : Cond.instanceMethod yX11_time ∈ Wg := t4_in (List.mem_of_getElem? (i := 231) rfl) rfl
theorem whv_64 : Cond.selects RX11 yX11_time yX11_time ∈ Wg := t4_in (List.mem_of_getElem? (i := 232) rfl) rfl
theorem whv_65 : Cond.code yX11_time cX11_time 1 (some .int) ∈ Wg := t4_in (List.mem_of_getElem? (i := 233) rfl) rfl
theorem whv_66 : Cond.methodLink RX12 116 yX11_seed ∈ Wg := t4_in (List.mem_of_getElem? (i := 234) rfl) rfl
theorem whv_67 : Cond.instanceMethod yX11_seed ∈ Wg := t4_in (List.mem_of_getElem? (i := 235) rfl) rfl
theorem whv_68 : Cond.selects RX11 yX11_seed yX11_seed ∈ Wg := t4_in (List.mem_of_getElem? (i := 236) rfl) rfl
theorem whv_69 : Cond.code yX11_seed cX11_seed 1 (some .int) ∈ Wg := t4_in (List.mem_of_getElem? (i := 237) rfl) rfl
theorem whv_70 : Cond.fieldLink RX12 52 "TicketGateLaw$Hand" "seed" "I" ∈ Wg := t4_in (List.mem_of_getElem? (i := 153) rfl) rfl
theorem whv_71 : Cond.methodLink RX12 118 yX11_ticketCount ∈ Wg := t4_in (List.mem_of_getElem? (i := 238) rfl) rfl
theorem whv_72 : Cond.instanceMethod yX11_ticketCount ∈ Wg := t4_in (List.mem_of_getElem? (i := 239) rfl) rfl
theorem whv_73 : Cond.selects RX11 yX11_ticketCount yX11_ticketCount ∈ Wg := t5_in (List.mem_of_getElem? (i := 0) rfl) rfl
theorem whv_74 : Cond.code yX11_ticketCount cX11_ticketCount 1 (some .int) ∈ Wg := t5_in (List.mem_of_getElem? (i := 1) rfl) rfl
theorem whv_75 : Cond.methodLink RX12 121 yX11_useCount ∈ Wg := t5_in (List.mem_of_getElem? (i := 3) rfl) rfl
theorem whv_76 : Cond.instanceMethod yX11_useCount ∈ Wg := t5_in (List.mem_of_getElem? (i := 4) rfl) rfl
theorem whv_77 : Cond.selects RX11 yX11_useCount yX11_useCount ∈ Wg := t5_in (List.mem_of_getElem? (i := 5) rfl) rfl
theorem whv_78 : Cond.code yX11_useCount cX11_useCount 1 (some .int) ∈ Wg := t5_in (List.mem_of_getElem? (i := 6) rfl) rfl
theorem whv_79 : Cond.fieldLink RX12 39 "TicketGateLaw$Hand" "use" "[[I" ∈ Wg := t4_in (List.mem_of_getElem? (i := 152) rfl) rfl
theorem whv_80 : Cond.methodLink RX12 124 yX11_validTickets ∈ Wg := t5_in (List.mem_of_getElem? (i := 8) rfl) rfl
theorem whv_81 : Cond.instanceMethod yX11_validTickets ∈ Wg := t5_in (List.mem_of_getElem? (i := 9) rfl) rfl
theorem whv_82 : Cond.selects RX11 yX11_validTickets yX11_validTickets ∈ Wg := t5_in (List.mem_of_getElem? (i := 10) rfl) rfl
theorem whv_83 : Cond.code yX11_validTickets cX11_validTickets 1 (some .int) ∈ Wg := t5_in (List.mem_of_getElem? (i := 11) rfl) rfl
theorem whv_84 : Cond.methodLink RX12 109 yX12_valid ∈ Wg := t4_in (List.mem_of_getElem? (i := 222) rfl) rfl
theorem whv_85 : Cond.instanceMethod yX12_valid ∈ Wg := t4_in (List.mem_of_getElem? (i := 223) rfl) rfl
theorem whv_86 : Cond.selects RX12 yX12_valid yX12_valid ∈ Wg := t4_in (List.mem_of_getElem? (i := 224) rfl) rfl
theorem whv_87 : Cond.initialized RX12 ∈ Wg := t1_in (List.mem_of_getElem? (i := 29) rfl) rfl
theorem whv_88 : Cond.code yX12_valid cX12_valid 6 (some .int) ∈ Wg := t4_in (List.mem_of_getElem? (i := 225) rfl) rfl
theorem whv_89 : Cond.methodLink RX12 161 yX11_cheesesOf ∈ Wg := t5_in (List.mem_of_getElem? (i := 158) rfl) rfl
theorem whv_90 : Cond.instanceMethod yX11_cheesesOf ∈ Wg := t5_in (List.mem_of_getElem? (i := 159) rfl) rfl
theorem whv_91 : Cond.selects RX11 yX11_cheesesOf yX11_cheesesOf ∈ Wg := t5_in (List.mem_of_getElem? (i := 160) rfl) rfl
theorem whv_92 : Cond.code yX11_cheesesOf cX11_cheesesOf 2 (some .int) ∈ Wg := t5_in (List.mem_of_getElem? (i := 161) rfl) rfl
theorem whv_93 : Cond.fieldLink RX12 25 "TicketGateLaw$Hand" "had" "[I" ∈ Wg := t4_in (List.mem_of_getElem? (i := 148) rfl) rfl
theorem whv_94 : Cond.methodLink RX12 164 yX11_clockOf ∈ Wg := t5_in (List.mem_of_getElem? (i := 171) rfl) rfl
theorem whv_95 : Cond.instanceMethod yX11_clockOf ∈ Wg := t5_in (List.mem_of_getElem? (i := 172) rfl) rfl
theorem whv_96 : Cond.selects RX11 yX11_clockOf yX11_clockOf ∈ Wg := t5_in (List.mem_of_getElem? (i := 173) rfl) rfl
theorem whv_97 : Cond.code yX11_clockOf cX11_clockOf 2 (some .int) ∈ Wg := t5_in (List.mem_of_getElem? (i := 174) rfl) rfl
theorem whv_98 : Cond.fieldLink RX12 16 "TicketGateLaw$Hand" "fast" "[I" ∈ Wg := t4_in (List.mem_of_getElem? (i := 145) rfl) rfl
theorem whv_99 : Cond.methodLink RX12 167 yX11_cheesesLeft ∈ Wg := t5_in (List.mem_of_getElem? (i := 184) rfl) rfl
theorem whv_100 : Cond.instanceMethod yX11_cheesesLeft ∈ Wg := t5_in (List.mem_of_getElem? (i := 185) rfl) rfl
theorem whv_101 : Cond.selects RX11 yX11_cheesesLeft yX11_cheesesLeft ∈ Wg := t5_in (List.mem_of_getElem? (i := 186) rfl) rfl
theorem whv_102 : Cond.code yX11_cheesesLeft cX11_cheesesLeft 2 (some .int) ∈ Wg := t5_in (List.mem_of_getElem? (i := 187) rfl) rfl
theorem whv_103 : Cond.fieldLink RX12 31 "TicketGateLaw$Hand" "left" "[I" ∈ Wg := t4_in (List.mem_of_getElem? (i := 150) rfl) rfl
theorem layhv_X12 : ∀ k, k < 14 → u_lay RX12 TX12 k ∈ Wg := fun k hk => match k, hk with
  | 0, _ => whv_1
  | 1, _ => whv_2
  | 2, _ => whv_3
  | 3, _ => whv_4
  | 4, _ => whv_5
  | 5, _ => whv_6
  | 6, _ => whv_7
  | 7, _ => whv_8
  | 8, _ => whv_9
  | 9, _ => whv_10
  | 10, _ => whv_11
  | 11, _ => whv_12
  | 12, _ => whv_13
  | 13, _ => whv_14
  | k + 14, h => absurd h (by omega)
set_option maxRecDepth 100000 in
set_option maxHeartbeats 1000000 in
theorem x_sw {p : Program} {l : Launch} {e : Env} {s : State} {m : MethodId} {args : Array Value} {below : List Frame} {meth : Method} {c : Code} {A : Nat → Prop} {G : (Nat → Prop) → State → Heap → Prop} (hG : vG G) (D : va_G) (c9 : Nat → ClassId) {sk sv : Nat → Nat} (hGU : ∀ (A : Nat → Prop) (U : State) (H : Heap), G A U H → vU sk sv A U H) (hGV : ∀ (A : Nat → Prop) (U : State) (H : Heap), G A U H → vV A U H) (X : vX p s m args meth c cX12_acts 11 (some .int) RX12 (wq yX12_acts cX12_acts 11 (some .int)) D (tyA c9) G A) {ha : Nat → Nat} {ta ua : Nat} {h : FH} {R S : List (Nat × Row)} {F0 : va_W} {bs Ls : Nat} {xs : Nat → Int32} (hGS : ∀ (A : Nat → Prop) (U : State) (H : Heap), G A U H → va_T .int bs Ls (fun j => .int (xs j)) A U H) (hLs : Ls < 2 ^ 31) {n : Nat} {o : HA} (hn : n < 2 ^ 31) (hl : R.length ≤ 24) (hl2 : S.length ≤ 30) (hhm : ∀ u, u < 3 → vp_in (FH.home h u) 3) {at9 a8 : Nat} {g : Row} {cells slots : Nat} (hcc : cells ≤ 1) (hss : slots ≤ 10) (hrow : 7 ≤ n % 32 → n % 32 < 25 → R[at9]? = some (a8, g) ∧ rowOK g) (ho : hActG (scel xs Ls 4) h (R.map Prod.snd) (S.map Prod.snd) n at9 g = o) : vW p l e { frames := 3, cells := 40, slots := 1300, locals := 77 } s m args below meth c 11 D A (wHF c9 R S F0) cells slots (MQ below (qJ D (tyA c9) A o.1 (fun (u : HS) => u.2.2.1.map Prod.snd = o.2.2.1 ∧ u.2.2.2.map Prod.snd = o.2.2.2) (fun (u : HS) => wH ha c9 u.1 u.2.1 o.2.1 u.2.2.1 u.2.2.2 ++ wHF c9 u.2.2.1 u.2.2.2 F0)) args s 40 1300 A) [((ha 0), .inr (13, [.int (FH.tol h), .ref (ha 1), .ref (ha 2), .ref (ha 3), .ref (ha 4), .ref (ha 5), .ref (ha 6), .ref (ha 7), .ref (ha 8), .ref ta, .ref ua, .int (FH.seed h), .int (FH.time h), .int (FH.next h)])), ((ha 1), .inl (c9 0, 3, .inl (FH.life h))), ((ha 2), .inl (c9 0, 3, .inl (FH.again h))), ((ha 3), .inl (c9 0, 3, .inl (FH.fast h))), ((ha 4), .inl (c9 0, 3, .inl (FH.home h))), ((ha 5), .inl (c9 0, 3, .inl (FH.own h))), ((ha 6), .inl (c9 0, 3, .inl (FH.had h))), ((ha 7), .inl (c9 0, 2, .inl (FH.place h))), ((ha 8), .inl (c9 0, 2, .inl (FH.left h))), (ta, .inl (c9 4, R.length, .inr (.inr (.inr (.inr (outF R)))))), (ua, .inl (c9 4, S.length, .inr (.inr (.inr (.inr (outF S))))))] 102 [(8, .ref a8), (7, .int (nI at9)), (5, .int (nI (n / 32 / 16))), (4, .int (nI (n / 32 % 3))), (3, .int (nI (n / 32))), (2, .int (nI n)), (1, .ref bs), (0, .ref (ha 0))] [] := by
  refine v_iload_n X dX12_acts_102 5 rfl rfl 103 rfl ?_
  refine v_bipush X dX12_acts_103 bp_32 105 rfl ?_
  refine v_irem X dX12_acts_105 (by decide) 106 rfl ?_
  rw [show irm (nI n) 32 = nI (n % 32) from irm_nI (by omega) (by decide) (by decide)]
  have hk : n % 32 = 0 ∨ n % 32 = 1 ∨ n % 32 = 2 ∨ n % 32 = 3 ∨ n % 32 = 4 ∨ n % 32 = 5 ∨ n % 32 = 6 ∨ n % 32 = 7 ∨ n % 32 = 8 ∨ n % 32 = 9 ∨ n % 32 = 10 ∨ n % 32 = 11 ∨ n % 32 = 12 ∨ n % 32 = 13 ∨ n % 32 = 14 ∨ n % 32 = 15 ∨ n % 32 = 16 ∨ n % 32 = 17 ∨ n % 32 = 18 ∨ n % 32 = 19 ∨ n % 32 = 20 ∨ n % 32 = 21 ∨ n % 32 = 22 ∨ n % 32 = 23 ∨ n % 32 = 24 ∨ n % 32 = 25 ∨ n % 32 = 26 ∨ n % 32 = 27 ∨ n % 32 = 28 ∨ n % 32 = 29 ∨ n % 32 = 30 ∨ n % 32 = 31 := by omega
  have e_login : 0 ≤ n % 32 → n % 32 < 7 → hLogin h (R.map Prod.snd) (S.map Prod.snd) (n / 32 % 3) (n / 32 / 16) = o := fun h1 h2 => by rw [← ho]; unfold hActG; rw [if_pos h2]
  have e_refer : 7 ≤ n % 32 → n % 32 < 11 → hRefer (scel xs Ls 4) h (R.map Prod.snd) (S.map Prod.snd) g (n / 32 / 16) = o := fun h1 h2 => by rw [← ho]; unfold hActG; rw [if_neg (by omega), if_pos h2]
  have e_request : 11 ≤ n % 32 → n % 32 < 15 → hRequest h (R.map Prod.snd) (S.map Prod.snd) g (n / 32 / 16) = o := fun h1 h2 => by rw [← ho]; unfold hActG; rw [if_neg (by omega), if_neg (by omega), if_pos h2]
  have e_renew : 15 ≤ n % 32 → n % 32 < 18 → hRenew h (R.map Prod.snd) (S.map Prod.snd) at9 g = o := fun h1 h2 => by rw [← ho]; unfold hActG; rw [if_neg (by omega), if_neg (by omega), if_neg (by omega), if_pos h2]
  have e_cheese : 18 ≤ n % 32 → n % 32 < 24 → hCheese h (R.map Prod.snd) (S.map Prod.snd) g = o := fun h1 h2 => by rw [← ho]; unfold hActG; rw [if_neg (by omega), if_neg (by omega), if_neg (by omega), if_neg (by omega), if_pos h2]
  have e_drop : 24 ≤ n % 32 → n % 32 < 25 → hDrop h (R.map Prod.snd) (S.map Prod.snd) at9 = o := fun h1 h2 => by rw [← ho]; unfold hActG; rw [if_neg (by omega), if_neg (by omega), if_neg (by omega), if_neg (by omega), if_neg (by omega), if_pos h2]
  have e_sweep : 25 ≤ n % 32 → n % 32 < 26 → hSweep h (R.map Prod.snd) (S.map Prod.snd) = o := fun h1 h2 => by rw [← ho]; unfold hActG; rw [if_neg (by omega), if_neg (by omega), if_neg (by omega), if_neg (by omega), if_neg (by omega), if_neg (by omega), if_pos h2]
  have e_clock : 26 ≤ n % 32 → n % 32 < 27 → hClock h (R.map Prod.snd) (S.map Prod.snd) (n / 32 % 3) (n / 32 / 16) = o := fun h1 h2 => by rw [← ho]; unfold hActG; rw [if_neg (by omega), if_neg (by omega), if_neg (by omega), if_neg (by omega), if_neg (by omega), if_neg (by omega), if_neg (by omega), if_pos h2]
  have e_pass : 27 ≤ n % 32 → n % 32 < 32 → hPass h (R.map Prod.snd) (S.map Prod.snd) n = o := fun h1 h2 => by rw [← ho]; unfold hActG; rw [if_neg (by omega), if_neg (by omega), if_neg (by omega), if_neg (by omega), if_neg (by omega), if_neg (by omega), if_neg (by omega), if_neg (by omega)]
  rcases hk with hk | hk | hk | hk | hk | hk | hk | hk | hk | hk | hk | hk | hk | hk | hk | hk | hk | hk | hk | hk | hk | hk | hk | hk | hk | hk | hk | hk | hk | hk | hk | hk
  · rw [hk]
    refine v_tsw X dX12_acts_106 (by decide) (by decide) (show _ = some (122 : Int) from rfl) (show ((106 : Nat) : Int) + 122 = ((228 : Nat) : Int) from rfl) ?_
    exact x_login hG D c9 hGU hGV X hGS hLs hn hl hl2 hhm hcc hss (e_login (by omega) (by omega))
  · rw [hk]
    refine v_tsw X dX12_acts_106 (by decide) (by decide) (show _ = some (122 : Int) from rfl) (show ((106 : Nat) : Int) + 122 = ((228 : Nat) : Int) from rfl) ?_
    exact x_login hG D c9 hGU hGV X hGS hLs hn hl hl2 hhm hcc hss (e_login (by omega) (by omega))
  · rw [hk]
    refine v_tsw X dX12_acts_106 (by decide) (by decide) (show _ = some (122 : Int) from rfl) (show ((106 : Nat) : Int) + 122 = ((228 : Nat) : Int) from rfl) ?_
    exact x_login hG D c9 hGU hGV X hGS hLs hn hl hl2 hhm hcc hss (e_login (by omega) (by omega))
  · rw [hk]
    refine v_tsw X dX12_acts_106 (by decide) (by decide) (show _ = some (122 : Int) from rfl) (show ((106 : Nat) : Int) + 122 = ((228 : Nat) : Int) from rfl) ?_
    exact x_login hG D c9 hGU hGV X hGS hLs hn hl hl2 hhm hcc hss (e_login (by omega) (by omega))
  · rw [hk]
    refine v_tsw X dX12_acts_106 (by decide) (by decide) (show _ = some (122 : Int) from rfl) (show ((106 : Nat) : Int) + 122 = ((228 : Nat) : Int) from rfl) ?_
    exact x_login hG D c9 hGU hGV X hGS hLs hn hl hl2 hhm hcc hss (e_login (by omega) (by omega))
  · rw [hk]
    refine v_tsw X dX12_acts_106 (by decide) (by decide) (show _ = some (122 : Int) from rfl) (show ((106 : Nat) : Int) + 122 = ((228 : Nat) : Int) from rfl) ?_
    exact x_login hG D c9 hGU hGV X hGS hLs hn hl hl2 hhm hcc hss (e_login (by omega) (by omega))
  · rw [hk]
    refine v_tsw X dX12_acts_106 (by decide) (by decide) (show _ = some (122 : Int) from rfl) (show ((106 : Nat) : Int) + 122 = ((228 : Nat) : Int) from rfl) ?_
    exact x_login hG D c9 hGU hGV X hGS hLs hn hl hl2 hhm hcc hss (e_login (by omega) (by omega))
  · rw [hk]
    refine v_tsw X dX12_acts_106 (by decide) (by decide) (show _ = some (223 : Int) from rfl) (show ((106 : Nat) : Int) + 223 = ((329 : Nat) : Int) from rfl) ?_
    exact x_refer hG D c9 hGU hGV X hGS hLs hn hl hl2 hhm (hrow (by omega) (by omega)).1 (hrow (by omega) (by omega)).2 hcc hss (e_refer (by omega) (by omega))
  · rw [hk]
    refine v_tsw X dX12_acts_106 (by decide) (by decide) (show _ = some (223 : Int) from rfl) (show ((106 : Nat) : Int) + 223 = ((329 : Nat) : Int) from rfl) ?_
    exact x_refer hG D c9 hGU hGV X hGS hLs hn hl hl2 hhm (hrow (by omega) (by omega)).1 (hrow (by omega) (by omega)).2 hcc hss (e_refer (by omega) (by omega))
  · rw [hk]
    refine v_tsw X dX12_acts_106 (by decide) (by decide) (show _ = some (223 : Int) from rfl) (show ((106 : Nat) : Int) + 223 = ((329 : Nat) : Int) from rfl) ?_
    exact x_refer hG D c9 hGU hGV X hGS hLs hn hl hl2 hhm (hrow (by omega) (by omega)).1 (hrow (by omega) (by omega)).2 hcc hss (e_refer (by omega) (by omega))
  · rw [hk]
    refine v_tsw X dX12_acts_106 (by decide) (by decide) (show _ = some (223 : Int) from rfl) (show ((106 : Nat) : Int) + 223 = ((329 : Nat) : Int) from rfl) ?_
    exact x_refer hG D c9 hGU hGV X hGS hLs hn hl hl2 hhm (hrow (by omega) (by omega)).1 (hrow (by omega) (by omega)).2 hcc hss (e_refer (by omega) (by omega))
  · rw [hk]
    refine v_tsw X dX12_acts_106 (by decide) (by decide) (show _ = some (274 : Int) from rfl) (show ((106 : Nat) : Int) + 274 = ((380 : Nat) : Int) from rfl) ?_
    exact x_request hG D c9 hGU hGV X hGS hLs hn hl hl2 hhm (hrow (by omega) (by omega)).1 (hrow (by omega) (by omega)).2 hcc hss (e_request (by omega) (by omega))
  · rw [hk]
    refine v_tsw X dX12_acts_106 (by decide) (by decide) (show _ = some (274 : Int) from rfl) (show ((106 : Nat) : Int) + 274 = ((380 : Nat) : Int) from rfl) ?_
    exact x_request hG D c9 hGU hGV X hGS hLs hn hl hl2 hhm (hrow (by omega) (by omega)).1 (hrow (by omega) (by omega)).2 hcc hss (e_request (by omega) (by omega))
  · rw [hk]
    refine v_tsw X dX12_acts_106 (by decide) (by decide) (show _ = some (274 : Int) from rfl) (show ((106 : Nat) : Int) + 274 = ((380 : Nat) : Int) from rfl) ?_
    exact x_request hG D c9 hGU hGV X hGS hLs hn hl hl2 hhm (hrow (by omega) (by omega)).1 (hrow (by omega) (by omega)).2 hcc hss (e_request (by omega) (by omega))
  · rw [hk]
    refine v_tsw X dX12_acts_106 (by decide) (by decide) (show _ = some (274 : Int) from rfl) (show ((106 : Nat) : Int) + 274 = ((380 : Nat) : Int) from rfl) ?_
    exact x_request hG D c9 hGU hGV X hGS hLs hn hl hl2 hhm (hrow (by omega) (by omega)).1 (hrow (by omega) (by omega)).2 hcc hss (e_request (by omega) (by omega))
  · rw [hk]
    refine v_tsw X dX12_acts_106 (by decide) (by decide) (show _ = some (329 : Int) from rfl) (show ((106 : Nat) : Int) + 329 = ((435 : Nat) : Int) from rfl) ?_
    exact x_renew hG D c9 hGU hGV X hGS hLs hn hl hl2 hhm (hrow (by omega) (by omega)).1 (hrow (by omega) (by omega)).2 hcc hss (e_renew (by omega) (by omega))
  · rw [hk]
    refine v_tsw X dX12_acts_106 (by decide) (by decide) (show _ = some (329 : Int) from rfl) (show ((106 : Nat) : Int) + 329 = ((435 : Nat) : Int) from rfl) ?_
    exact x_renew hG D c9 hGU hGV X hGS hLs hn hl hl2 hhm (hrow (by omega) (by omega)).1 (hrow (by omega) (by omega)).2 hcc hss (e_renew (by omega) (by omega))
  · rw [hk]
    refine v_tsw X dX12_acts_106 (by decide) (by decide) (show _ = some (329 : Int) from rfl) (show ((106 : Nat) : Int) + 329 = ((435 : Nat) : Int) from rfl) ?_
    exact x_renew hG D c9 hGU hGV X hGS hLs hn hl hl2 hhm (hrow (by omega) (by omega)).1 (hrow (by omega) (by omega)).2 hcc hss (e_renew (by omega) (by omega))
  · rw [hk]
    refine v_tsw X dX12_acts_106 (by decide) (by decide) (show _ = some (406 : Int) from rfl) (show ((106 : Nat) : Int) + 406 = ((512 : Nat) : Int) from rfl) ?_
    exact x_cheese hG D c9 hGU hGV X hGS hLs hn hl hl2 hhm (hrow (by omega) (by omega)).1 (hrow (by omega) (by omega)).2 hcc hss (e_cheese (by omega) (by omega))
  · rw [hk]
    refine v_tsw X dX12_acts_106 (by decide) (by decide) (show _ = some (406 : Int) from rfl) (show ((106 : Nat) : Int) + 406 = ((512 : Nat) : Int) from rfl) ?_
    exact x_cheese hG D c9 hGU hGV X hGS hLs hn hl hl2 hhm (hrow (by omega) (by omega)).1 (hrow (by omega) (by omega)).2 hcc hss (e_cheese (by omega) (by omega))
  · rw [hk]
    refine v_tsw X dX12_acts_106 (by decide) (by decide) (show _ = some (406 : Int) from rfl) (show ((106 : Nat) : Int) + 406 = ((512 : Nat) : Int) from rfl) ?_
    exact x_cheese hG D c9 hGU hGV X hGS hLs hn hl hl2 hhm (hrow (by omega) (by omega)).1 (hrow (by omega) (by omega)).2 hcc hss (e_cheese (by omega) (by omega))
  · rw [hk]
    refine v_tsw X dX12_acts_106 (by decide) (by decide) (show _ = some (406 : Int) from rfl) (show ((106 : Nat) : Int) + 406 = ((512 : Nat) : Int) from rfl) ?_
    exact x_cheese hG D c9 hGU hGV X hGS hLs hn hl hl2 hhm (hrow (by omega) (by omega)).1 (hrow (by omega) (by omega)).2 hcc hss (e_cheese (by omega) (by omega))
  · rw [hk]
    refine v_tsw X dX12_acts_106 (by decide) (by decide) (show _ = some (406 : Int) from rfl) (show ((106 : Nat) : Int) + 406 = ((512 : Nat) : Int) from rfl) ?_
    exact x_cheese hG D c9 hGU hGV X hGS hLs hn hl hl2 hhm (hrow (by omega) (by omega)).1 (hrow (by omega) (by omega)).2 hcc hss (e_cheese (by omega) (by omega))
  · rw [hk]
    refine v_tsw X dX12_acts_106 (by decide) (by decide) (show _ = some (406 : Int) from rfl) (show ((106 : Nat) : Int) + 406 = ((512 : Nat) : Int) from rfl) ?_
    exact x_cheese hG D c9 hGU hGV X hGS hLs hn hl hl2 hhm (hrow (by omega) (by omega)).1 (hrow (by omega) (by omega)).2 hcc hss (e_cheese (by omega) (by omega))
  · rw [hk]
    refine v_tsw X dX12_acts_106 (by decide) (by decide) (show _ = some (413 : Int) from rfl) (show ((106 : Nat) : Int) + 413 = ((519 : Nat) : Int) from rfl) ?_
    exact x_drop hG D c9 hGU hGV X hGS hLs hn hl hl2 hhm (hrow (by omega) (by omega)).1 (hrow (by omega) (by omega)).2 hcc hss (e_drop (by omega) (by omega))
  · rw [hk]
    refine v_tsw X dX12_acts_106 (by decide) (by decide) (show _ = some (432 : Int) from rfl) (show ((106 : Nat) : Int) + 432 = ((538 : Nat) : Int) from rfl) ?_
    exact x_sweep hG D c9 hGU hGV X hGS hLs hn hl hl2 hhm hcc hss (e_sweep (by omega) (by omega))
  · rw [hk]
    refine v_tsw X dX12_acts_106 (by decide) (by decide) (show _ = some (495 : Int) from rfl) (show ((106 : Nat) : Int) + 495 = ((601 : Nat) : Int) from rfl) ?_
    exact x_clock hG D c9 hGU hGV X hGS hLs hn hl hl2 hhm hcc hss (e_clock (by omega) (by omega))
  · rw [hk]
    refine v_tswD X (tgt := 625) dX12_acts_106 (Or.inr (by decide)) rfl ?_
    exact x_pass hG D c9 hGU hGV X hGS hLs hn hl hl2 hhm hcc hss (e_pass (by omega) (by omega))
  · rw [hk]
    refine v_tswD X (tgt := 625) dX12_acts_106 (Or.inr (by decide)) rfl ?_
    exact x_pass hG D c9 hGU hGV X hGS hLs hn hl hl2 hhm hcc hss (e_pass (by omega) (by omega))
  · rw [hk]
    refine v_tswD X (tgt := 625) dX12_acts_106 (Or.inr (by decide)) rfl ?_
    exact x_pass hG D c9 hGU hGV X hGS hLs hn hl hl2 hhm hcc hss (e_pass (by omega) (by omega))
  · rw [hk]
    refine v_tswD X (tgt := 625) dX12_acts_106 (Or.inr (by decide)) rfl ?_
    exact x_pass hG D c9 hGU hGV X hGS hLs hn hl hl2 hhm hcc hss (e_pass (by omega) (by omega))
  · rw [hk]
    refine v_tswD X (tgt := 625) dX12_acts_106 (Or.inr (by decide)) rfl ?_
    exact x_pass hG D c9 hGU hGV X hGS hLs hn hl hl2 hhm hcc hss (e_pass (by omega) (by omega))
set_option maxRecDepth 100000 in
set_option maxHeartbeats 1000000 in
theorem x_57 {p : Program} {l : Launch} {e : Env} {s : State} {m : MethodId} {args : Array Value} {below : List Frame} {meth : Method} {c : Code} {A : Nat → Prop} {G : (Nat → Prop) → State → Heap → Prop} (hG : vG G) (D : va_G) (c9 : Nat → ClassId) {sk sv : Nat → Nat} (hGU : ∀ (A : Nat → Prop) (U : State) (H : Heap), G A U H → vU sk sv A U H) (hGV : ∀ (A : Nat → Prop) (U : State) (H : Heap), G A U H → vV A U H) (X : vX p s m args meth c cX12_acts 11 (some .int) RX12 (wq yX12_acts cX12_acts 11 (some .int)) D (tyA c9) G A) {ha : Nat → Nat} {ta ua : Nat} {h : FH} {R S : List (Nat × Row)} {F0 : va_W} {bs Ls : Nat} {xs : Nat → Int32} (hGS : ∀ (A : Nat → Prop) (U : State) (H : Heap), G A U H → va_T .int bs Ls (fun j => .int (xs j)) A U H) (hLs : Ls < 2 ^ 31) {n : Nat} {o : HA} (hn : n < 2 ^ 31) (hl : R.length ≤ 24) (hl2 : S.length ≤ 30) (hhm : ∀ u, u < 3 → vp_in (FH.home h u) 3) {b6 : Int32} (hok : ∀ g ∈ R.map Prod.snd, rowOK g) (hno : ¬ (7 ≤ n % 32 ∧ n % 32 < 25 ∧ (R.map Prod.snd).length = 0)) (ho : hActG (scel xs Ls 4) h (R.map Prod.snd) (S.map Prod.snd) n (if (R.map Prod.snd).length = 0 then 0 else n / 32 % (R.map Prod.snd).length) (if (R.map Prod.snd).length = 0 then fun _ => 0 else (R.map Prod.snd).getD (n / 32 % (R.map Prod.snd).length) (fun _ => 0)) = o) : vW p l e { frames := 3, cells := 40, slots := 1300, locals := 77 } s m args below meth c 11 D A (wHF c9 R S F0) 0 0 (MQ below (qJ D (tyA c9) A o.1 (fun (u : HS) => u.2.2.1.map Prod.snd = o.2.2.1 ∧ u.2.2.2.map Prod.snd = o.2.2.2) (fun (u : HS) => wH ha c9 u.1 u.2.1 o.2.1 u.2.2.1 u.2.2.2 ++ wHF c9 u.2.2.1 u.2.2.2 F0)) args s 40 1300 A) [((ha 0), .inr (13, [.int (FH.tol h), .ref (ha 1), .ref (ha 2), .ref (ha 3), .ref (ha 4), .ref (ha 5), .ref (ha 6), .ref (ha 7), .ref (ha 8), .ref ta, .ref ua, .int (FH.seed h), .int (FH.time h), .int (FH.next h)])), ((ha 1), .inl (c9 0, 3, .inl (FH.life h))), ((ha 2), .inl (c9 0, 3, .inl (FH.again h))), ((ha 3), .inl (c9 0, 3, .inl (FH.fast h))), ((ha 4), .inl (c9 0, 3, .inl (FH.home h))), ((ha 5), .inl (c9 0, 3, .inl (FH.own h))), ((ha 6), .inl (c9 0, 3, .inl (FH.had h))), ((ha 7), .inl (c9 0, 2, .inl (FH.place h))), ((ha 8), .inl (c9 0, 2, .inl (FH.left h))), (ta, .inl (c9 4, R.length, .inr (.inr (.inr (.inr (outF R)))))), (ua, .inl (c9 4, S.length, .inr (.inr (.inr (.inr (outF S))))))] 57 [(6, .int b6), (5, .int (nI (n / 32 / 16))), (4, .int (nI (n / 32 % 3))), (3, .int (nI (n / 32))), (2, .int (nI n)), (1, .ref bs), (0, .ref (ha 0))] [] := by
  refine v_aload_n X dX12_acts_57 6 rfl rfl 58 rfl ?_
  refine v_get X (C := RX12) (T := TX12) (N := 14) (ci := 13) (v := _) dX12_acts_58 (lay_of layhv_X12) 0 rfl rfl 9 (by decide) (mw whv_0) rfl rfl 61 rfl ?_
  refine v_alen X dX12_acts_61 9 4 rfl rfl rfl 62 rfl ?_
  by_cases h0 : R.length = 0
  · refine v_if_ne X (tgt := 69) dX12_acts_62 rfl 65 rfl (a := none) (b := some ()) (o := ()) (if_pos (by show Int32.ofNat R.length = 0; rw [h0]; rfl)) (fun h => nomatch h) (fun _ => ?_)
    refine v_iconst X dX12_acts_65 ic_0 66 rfl ?_
    refine v_goto X (tgt := 76) dX12_acts_66 rfl ?_
    refine v_istore X (lv' := [(7, .int 0), (6, .int b6), (5, .int (nI (n / 32 / 16))), (4, .int (nI (n / 32 % 3))), (3, .int (nI (n / 32))), (2, .int (nI n)), (1, .ref bs), (0, .ref (ha 0))]) dX12_acts_76 (by decide) rfl 78 rfl ?_
    refine v_aload_n X dX12_acts_78 7 rfl rfl 79 rfl ?_
    refine v_get X (C := RX12) (T := TX12) (N := 14) (ci := 13) (v := _) dX12_acts_79 (lay_of layhv_X12) 0 rfl rfl 9 (by decide) (mw whv_0) rfl rfl 82 rfl ?_
    refine v_alen X dX12_acts_82 9 4 rfl rfl rfl 83 rfl ?_
    refine v_if_ne X (tgt := 93) dX12_acts_83 rfl 86 rfl (a := none) (b := some ()) (o := ()) (if_pos (by show Int32.ofNat R.length = 0; rw [h0]; rfl)) (fun h => nomatch h) (fun _ => ?_)
    refine v_bipush X dX12_acts_86 bp_10 88 rfl ?_
    refine v_newa X (ty := .int) (N' := 10) (a0 := (10, .inl (fun _ => 0))) dX12_acts_88 (mw whv_15) rfl 0 rfl (fun _ _ h1 h2 => Option.some.inj (h1.symm.trans h2)) (fun _ => rfl) (by decide) (by decide) (by decide) (by first | exact Nat.le_of_ble_eq_true rfl | omega | (dsimp only; omega)) (by first | exact Nat.le_of_ble_eq_true rfl | omega | (dsimp only; omega)) 90 rfl (fun a8 => ?_)
    refine v_pick (ws' := [((ha 0), .inr (13, [.int (FH.tol h), .ref (ha 1), .ref (ha 2), .ref (ha 3), .ref (ha 4), .ref (ha 5), .ref (ha 6), .ref (ha 7), .ref (ha 8), .ref ta, .ref ua, .int (FH.seed h), .int (FH.time h), .int (FH.next h)])), ((ha 1), .inl (c9 0, 3, .inl (FH.life h))), ((ha 2), .inl (c9 0, 3, .inl (FH.again h))), ((ha 3), .inl (c9 0, 3, .inl (FH.fast h))), ((ha 4), .inl (c9 0, 3, .inl (FH.home h))), ((ha 5), .inl (c9 0, 3, .inl (FH.own h))), ((ha 6), .inl (c9 0, 3, .inl (FH.had h))), ((ha 7), .inl (c9 0, 2, .inl (FH.place h))), ((ha 8), .inl (c9 0, 2, .inl (FH.left h))), (ta, .inl (c9 4, R.length, .inr (.inr (.inr (.inr (outF R)))))), (ua, .inl (c9 4, S.length, .inr (.inr (.inr (.inr (outF S))))))]) [0, 1, 2, 3, 4, 5, 6, 7, 8, 9, 10] rfl rfl ?_
    refine v_goto X (tgt := 100) dX12_acts_90 rfl ?_
    refine v_astore X (lv' := [(8, .ref a8), (7, .int 0), (6, .int b6), (5, .int (nI (n / 32 / 16))), (4, .int (nI (n / 32 % 3))), (3, .int (nI (n / 32))), (2, .int (nI n)), (1, .ref bs), (0, .ref (ha 0))]) dX12_acts_100 (by decide) rfl 102 rfl ?_
    refine v_sub (lv' := [(8, .ref a8), (7, .int 0), (5, .int (nI (n / 32 / 16))), (4, .int (nI (n / 32 % 3))), (3, .int (nI (n / 32))), (2, .int (nI n)), (1, .ref bs), (0, .ref (ha 0))]) [0, 1, 3, 4, 5, 6, 7, 8] rfl ?_
    refine v_eq (lv2 := [(8, .ref a8), (7, .int (nI 0)), (5, .int (nI (n / 32 / 16))), (4, .int (nI (n / 32 % 3))), (3, .int (nI (n / 32))), (2, .int (nI n)), (1, .ref bs), (0, .ref (ha 0))]) rfl rfl rfl rfl ?_
    exact x_sw hG D c9 hGU hGV X hGS hLs hn hl hl2 hhm (at9 := 0) (a8 := a8) (g := fun _ => 0) (by first | exact Nat.le_of_ble_eq_true rfl | omega) (by first | exact Nat.le_of_ble_eq_true rfl | omega) (fun h7 h25 => absurd ⟨h7, h25, by rw [List.length_map]; exact h0⟩ hno) (by rw [← ho, if_pos (by rw [List.length_map]; exact h0), if_pos (by rw [List.length_map]; exact h0)])
  · have hne : ¬ nI R.length = 0 := fun z => h0 ((nI_eq (a := R.length) (b := 0) (by omega) (by decide)).mp z)
    have hat : n / 32 % R.length < R.length := Nat.mod_lt _ (by omega)
    obtain ⟨⟨a8, g⟩, hRi⟩ : ∃ x, R[n / 32 % R.length]? = some x := ⟨_, List.getElem?_eq_getElem hat⟩
    refine v_if_ne X (tgt := 69) dX12_acts_62 rfl 65 rfl (a := some ()) (b := none) (o := ()) (if_neg hne) (fun _ => ?_) (fun h => nomatch h)
    refine v_iload_n X dX12_acts_69 3 rfl rfl 70 rfl ?_
    refine v_aload_n X dX12_acts_70 6 rfl rfl 71 rfl ?_
    refine v_get X (C := RX12) (T := TX12) (N := 14) (ci := 13) (v := _) dX12_acts_71 (lay_of layhv_X12) 0 rfl rfl 9 (by decide) (mw whv_0) rfl rfl 74 rfl ?_
    refine v_alen X dX12_acts_74 9 4 rfl rfl rfl 75 rfl ?_
    refine v_irem X dX12_acts_75 hne 76 rfl ?_
    rw [show irm (nI (n / 32)) (Int32.ofNat R.length) = nI (n / 32 % R.length) from irm_nI (by omega) (by omega) (by omega)]
    refine v_istore X (lv' := [(7, .int (nI (n / 32 % R.length))), (6, .int b6), (5, .int (nI (n / 32 / 16))), (4, .int (nI (n / 32 % 3))), (3, .int (nI (n / 32))), (2, .int (nI n)), (1, .ref bs), (0, .ref (ha 0))]) dX12_acts_76 (by decide) rfl 78 rfl ?_
    refine v_aload_n X dX12_acts_78 7 rfl rfl 79 rfl ?_
    refine v_get X (C := RX12) (T := TX12) (N := 14) (ci := 13) (v := _) dX12_acts_79 (lay_of layhv_X12) 0 rfl rfl 9 (by decide) (mw whv_0) rfl rfl 82 rfl ?_
    refine v_alen X dX12_acts_82 9 4 rfl rfl rfl 83 rfl ?_
    refine v_if_ne X (tgt := 93) dX12_acts_83 rfl 86 rfl (a := some ()) (b := none) (o := ()) (if_neg hne) (fun _ => ?_) (fun h => nomatch h)
    refine v_aload_n X dX12_acts_93 7 rfl rfl 94 rfl ?_
    refine v_get X (C := RX12) (T := TX12) (N := 14) (ci := 13) (v := _) dX12_acts_94 (lay_of layhv_X12) 0 rfl rfl 9 (by decide) (mw whv_0) rfl rfl 97 rfl ?_
    refine v_iload X dX12_acts_97 0 rfl 99 rfl ?_
    refine v_aald X dX12_acts_99 9 4 rfl rfl (vp_in_nI (show n / 32 % R.length < R.length from hat) (by omega)) 100 rfl ?_
    rw [nI_clamp (show n / 32 % R.length < 2 ^ 31 by omega), out_some hRi]
    refine v_eq (st2 := [.ref a8]) rfl rfl rfl rfl ?_
    refine v_astore X (lv' := [(8, .ref a8), (7, .int (nI (n / 32 % R.length))), (6, .int b6), (5, .int (nI (n / 32 / 16))), (4, .int (nI (n / 32 % 3))), (3, .int (nI (n / 32))), (2, .int (nI n)), (1, .ref bs), (0, .ref (ha 0))]) dX12_acts_100 (by decide) rfl 102 rfl ?_
    refine v_sub (lv' := [(8, .ref a8), (7, .int (nI (n / 32 % R.length))), (5, .int (nI (n / 32 / 16))), (4, .int (nI (n / 32 % 3))), (3, .int (nI (n / 32))), (2, .int (nI n)), (1, .ref bs), (0, .ref (ha 0))]) [0, 1, 3, 4, 5, 6, 7, 8] rfl ?_
    have hgm : ∀ d : Row, (R.map Prod.snd).getD (n / 32 % (R.map Prod.snd).length) d = g := fun d => by rw [List.length_map, List.getD_eq_getElem?_getD, List.getElem?_map, hRi]; rfl
    exact x_sw hG D c9 hGU hGV X hGS hLs hn hl hl2 hhm (at9 := n / 32 % R.length) (a8 := a8) (g := g) (by first | exact Nat.le_of_ble_eq_true rfl | omega) (by first | exact Nat.le_of_ble_eq_true rfl | omega) (fun _ _ => ⟨hRi, hok g (List.mem_map.mpr ⟨(a8, g), List.mem_of_getElem? hRi, rfl⟩)⟩) (by rw [← ho, if_neg (by rw [List.length_map]; exact h0), if_neg (by rw [List.length_map]; exact h0), hgm, List.length_map])
set_option maxRecDepth 100000 in
set_option maxHeartbeats 1000000 in
theorem c_hacts (l : Launch) {G : (Nat → Prop) → State → Heap → Prop} (hG : vG G) (D : va_G) (c9 : Nat → ClassId) {sk sv : Nat → Nat} (hGU : ∀ (A : Nat → Prop) (U : State) (H : Heap), G A U H → vU sk sv A U H) (hGV : ∀ (A : Nat → Prop) (U : State) (H : Heap), G A U H → vV A U H) {ha : Nat → Nat} {ta ua : Nat} {h : FH} {R S : List (Nat × Row)} {F0 : va_W} {bs Ls : Nat} {xs : Nat → Int32} (hGS : ∀ (A : Nat → Prop) (U : State) (H : Heap), G A U H → va_T .int bs Ls (fun j => .int (xs j)) A U H) (hLs : Ls < 2 ^ 31) {n : Nat} {o : HA} (hn : n < 2 ^ 31) (hl : R.length ≤ 24) (hl2 : S.length ≤ 30) (hhm : ∀ u, u < 3 → vp_in (FH.home h u) 3) (hok : ∀ g ∈ R.map Prod.snd, rowOK g) (ho : hAct (scel xs Ls 4) h (R.map Prod.snd) (S.map Prod.snd) n = o) : mH (S := HS) l yX12_acts (wq yX12_acts cX12_acts 11 (some .int)) { frames := 3, cells := 40, slots := 1300, locals := 77 } G D (tyA c9) [.ref (ha 0), .ref bs, .int (nI n)] (wH ha c9 ta ua h R S ++ wHF c9 R S F0) 40 1300 o.1 (fun (u : HS) => u.2.2.1.map Prod.snd = o.2.2.1 ∧ u.2.2.2.map Prod.snd = o.2.2.2) (fun (u : HS) => wH ha c9 u.1 u.2.1 o.2.1 u.2.2.1 u.2.2.2 ++ wHF c9 u.2.2.1 u.2.2.2 F0) := by
  refine mJ_of hG (cc := cX12_acts) (maxL := 11) (ty := .int) (by decide) rfl (Nat.le_of_ble_eq_true rfl) ?_
  intro p e s m args below meth c A X
  have X : vX p s m args meth c cX12_acts 11 (some .int) RX12 (wq yX12_acts cX12_acts 11 (some .int)) D (tyA c9) G A := X
  have hov : va_AI s := (hGV A s s.heap X.2.2.2.2.2.2.2.2.2.2).2
  have TS := hGS A s s.heap X.2.2.2.2.2.2.2.2.2.2
  refine v_eq (lv2 := [(0, .ref (ha 0)), (1, .ref bs), (2, .int (nI n))]) rfl rfl rfl rfl ?_
  refine v_iload_n X dX12_acts_0 2 rfl rfl 1 rfl ?_
  refine v_bipush X dX12_acts_1 bp_32 3 rfl ?_
  refine v_idiv X dX12_acts_3 (by decide) 4 rfl ?_
  rw [show nI n / 32 = nI (n / 32) from pk_div (by omega) (by decide) (by decide)]
  refine v_istore_n X (lv' := [(3, .int (nI (n / 32))), (0, .ref (ha 0)), (1, .ref bs), (2, .int (nI n))]) dX12_acts_4 rfl (by decide) rfl 5 rfl ?_
  refine v_iload_n X dX12_acts_5 0 rfl rfl 6 rfl ?_
  refine v_iconst X dX12_acts_6 ic_3 7 rfl ?_
  refine v_irem X dX12_acts_7 (by decide) 8 rfl ?_
  rw [show irm (nI (n / 32)) 3 = nI ((n / 32) % 3) from irm_nI (by omega) (by decide) (by decide)]
  refine v_istore X (lv' := [(4, .int (nI ((n / 32) % 3))), (3, .int (nI (n / 32))), (0, .ref (ha 0)), (1, .ref bs), (2, .int (nI n))]) dX12_acts_8 (by decide) rfl 10 rfl ?_
  refine v_iload_n X dX12_acts_10 1 rfl rfl 11 rfl ?_
  refine v_bipush X dX12_acts_11 bp_16 13 rfl ?_
  refine v_idiv X dX12_acts_13 (by decide) 14 rfl ?_
  rw [show nI (n / 32) / 16 = nI ((n / 32) / 16) from pk_div (by omega) (by decide) (by decide)]
  refine v_istore X (lv' := [(5, .int (nI ((n / 32) / 16))), (4, .int (nI ((n / 32) % 3))), (3, .int (nI (n / 32))), (0, .ref (ha 0)), (1, .ref bs), (2, .int (nI n))]) dX12_acts_14 (by decide) rfl 16 rfl ?_
  refine v_iload_n X dX12_acts_16 5 rfl rfl 17 rfl ?_
  refine v_bipush X dX12_acts_17 bp_32 19 rfl ?_
  refine v_irem X dX12_acts_19 (by decide) 20 rfl ?_
  rw [show irm (nI n) 32 = nI (n % 32) from irm_nI (by omega) (by decide) (by decide)]
  refine v_bipush X dX12_acts_20 bp_7 22 rfl ?_
  by_cases h7 : n % 32 < 7
  · refine v_icmp_lt X (tgt := 38) dX12_acts_22 rfl 25 rfl (a := some ()) (b := none) (o := ()) (if_pos (show nI (n % 32) < nI 7 from nI_lt (by omega) (by decide))) (fun _ => ?_) (fun h => nomatch h)
    refine v_iconst X dX12_acts_38 ic_0 39 rfl ?_
    refine v_istore X (lv' := [(6, .int 0), (5, .int (nI ((n / 32) / 16))), (4, .int (nI ((n / 32) % 3))), (3, .int (nI (n / 32))), (0, .ref (ha 0)), (1, .ref bs), (2, .int (nI n))]) dX12_acts_39 (by decide) rfl 41 rfl ?_
    refine v_sub (lv' := [(6, .int 0), (5, .int (nI ((n / 32) / 16))), (4, .int (nI ((n / 32) % 3))), (3, .int (nI (n / 32))), (2, .int (nI n)), (1, .ref bs), (0, .ref (ha 0))]) [0, 1, 2, 3, 6, 5, 4] rfl ?_
    refine v_iload X dX12_acts_41 0 rfl 43 rfl ?_
    refine v_if_eq X (tgt := 57) dX12_acts_43 rfl 46 rfl (a := some ()) (b := none) (o := ()) (if_pos rfl) (fun _ => ?_) (fun h => nomatch h)
    exact x_57 hG D c9 hGU hGV X hGS hLs hn hl hl2 hhm hok (by omega) (by rw [← ho]; exact (if_neg (by omega)).symm)
  · refine v_icmp_lt X (tgt := 38) dX12_acts_22 rfl 25 rfl (a := none) (b := some ()) (o := ()) (if_neg (show ¬ nI (n % 32) < nI 7 from nI_nlt (by omega) (by omega))) (fun h => nomatch h) (fun _ => ?_)
    refine v_iload_n X dX12_acts_25 5 rfl rfl 26 rfl ?_
    refine v_bipush X dX12_acts_26 bp_32 28 rfl ?_
    refine v_irem X dX12_acts_28 (by decide) 29 rfl ?_
    rw [show irm (nI n) 32 = nI (n % 32) from irm_nI (by omega) (by decide) (by decide)]
    refine v_bipush X dX12_acts_29 bp_25 31 rfl ?_
    by_cases h25 : 25 ≤ n % 32
    · refine v_icmp_ge X (tgt := 38) dX12_acts_31 rfl 34 rfl (a := some ()) (b := none) (o := ()) (if_pos (show nI 25 ≤ nI (n % 32) from nI_le (by omega) (by omega))) (fun _ => ?_) (fun h => nomatch h)
      refine v_iconst X dX12_acts_38 ic_0 39 rfl ?_
      refine v_istore X (lv' := [(6, .int 0), (5, .int (nI ((n / 32) / 16))), (4, .int (nI ((n / 32) % 3))), (3, .int (nI (n / 32))), (0, .ref (ha 0)), (1, .ref bs), (2, .int (nI n))]) dX12_acts_39 (by decide) rfl 41 rfl ?_
      refine v_sub (lv' := [(6, .int 0), (5, .int (nI ((n / 32) / 16))), (4, .int (nI ((n / 32) % 3))), (3, .int (nI (n / 32))), (2, .int (nI n)), (1, .ref bs), (0, .ref (ha 0))]) [0, 1, 2, 3, 6, 5, 4] rfl ?_
      refine v_iload X dX12_acts_41 0 rfl 43 rfl ?_
      refine v_if_eq X (tgt := 57) dX12_acts_43 rfl 46 rfl (a := some ()) (b := none) (o := ()) (if_pos rfl) (fun _ => ?_) (fun h => nomatch h)
      exact x_57 hG D c9 hGU hGV X hGS hLs hn hl hl2 hhm hok (by omega) (by rw [← ho]; exact (if_neg (by omega)).symm)
    · refine v_icmp_ge X (tgt := 38) dX12_acts_31 rfl 34 rfl (a := none) (b := some ()) (o := ()) (if_neg (show ¬ nI 25 ≤ nI (n % 32) from nI_ge (by omega) (by decide))) (fun h => nomatch h) (fun _ => ?_)
      refine v_iconst X dX12_acts_34 ic_1 35 rfl ?_
      refine v_goto X (tgt := 39) dX12_acts_35 rfl ?_
      refine v_istore X (lv' := [(6, .int 1), (5, .int (nI ((n / 32) / 16))), (4, .int (nI ((n / 32) % 3))), (3, .int (nI (n / 32))), (0, .ref (ha 0)), (1, .ref bs), (2, .int (nI n))]) dX12_acts_39 (by decide) rfl 41 rfl ?_
      refine v_iload X dX12_acts_41 0 rfl 43 rfl ?_
      refine v_if_eq X (tgt := 57) dX12_acts_43 rfl 46 rfl (a := none) (b := some ()) (o := ()) (if_neg (by decide)) (fun h => nomatch h) (fun _ => ?_)
      refine v_aload_n X dX12_acts_46 4 rfl rfl 47 rfl ?_
      refine v_get X (C := RX12) (T := TX12) (N := 14) (ci := 13) (v := _) dX12_acts_47 (lay_of layhv_X12) 0 rfl rfl 9 (by decide) (mw whv_0) rfl rfl 50 rfl ?_
      refine v_alen X dX12_acts_50 9 4 rfl rfl rfl 51 rfl ?_
      by_cases h0 : R.length = 0
      · refine v_if_ne X (tgt := 57) dX12_acts_51 rfl 54 rfl (a := none) (b := some ()) (o := ()) (if_pos (by show Int32.ofNat R.length = 0; rw [h0]; rfl)) (fun h => nomatch h) (fun _ => ?_)
        have e : hAct (scel xs Ls 4) h (R.map Prod.snd) (S.map Prod.snd) n = (-8, h, (R.map Prod.snd), (S.map Prod.snd)) := if_pos ⟨by omega, by omega, by rw [List.length_map]; exact h0⟩
        rw [e] at ho
        subst ho
        refine v_bipush X dX12_acts_54 bp_m8 56 rfl ?_
        exact v_jret (ta, ua, R, S) ⟨rfl, rfl⟩ rfl (List.Perm.refl _) X (by first | exact Nat.le_of_ble_eq_true rfl | omega | (dsimp only; omega)) (by first | exact Nat.le_of_ble_eq_true rfl | omega | (dsimp only; omega)) dX12_acts_56
      · refine v_if_ne X (tgt := 57) dX12_acts_51 rfl 54 rfl (a := some ()) (b := none) (o := ()) (if_neg (fun z => h0 ((nI_eq (a := R.length) (b := 0) (by omega) (by decide)).mp z))) (fun _ => ?_) (fun h => nomatch h)
        refine v_sub (lv' := [(6, .int 1), (5, .int (nI ((n / 32) / 16))), (4, .int (nI ((n / 32) % 3))), (3, .int (nI (n / 32))), (2, .int (nI n)), (1, .ref bs), (0, .ref (ha 0))]) [0, 1, 2, 3, 6, 5, 4] rfl ?_
        exact x_57 hG D c9 hGU hGV X hGS hLs hn hl hl2 hhm hok (fun z => h0 (by rw [← z.2.2, List.length_map])) (by rw [← ho]; exact (if_neg (fun z => h0 (by rw [← z.2.2, List.length_map]))).symm)
