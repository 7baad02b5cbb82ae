theorem wc_0 : Cond.laysFinal RX0 "TicketGate$Bytes" "cells" "[I" ∈ Wg := t1_in (List.mem_of_getElem? (i := 46) rfl) rfl
theorem wc_1 : Cond.lays RX0 "TicketGate$Bytes" "count" "I" ∈ Wg := t1_in (List.mem_of_getElem? (i := 48) rfl) rfl
theorem wc_2 : Cond.fieldLink RX0 21 "TicketGate$Bytes" "count" "I" ∈ Wg := t1_in (List.mem_of_getElem? (i := 45) rfl) rfl
theorem wc_3 : Cond.fieldLink RX0 15 "TicketGate$Bytes" "cells" "[I" ∈ Wg := t1_in (List.mem_of_getElem? (i := 44) rfl) rfl
theorem wc_4 : Cond.methodLink RX0 25 yX0_add ∈ Wg := t2_in (List.mem_of_getElem? (i := 32) rfl) rfl
theorem wc_5 : Cond.instanceMethod yX0_add ∈ Wg := t2_in (List.mem_of_getElem? (i := 33) rfl) rfl
theorem wc_6 : Cond.selects RX0 yX0_add yX0_add ∈ Wg := t2_in (List.mem_of_getElem? (i := 34) rfl) rfl
theorem wc_7 : Cond.initialized RX0 ∈ Wg := t1_in (List.mem_of_getElem? (i := 2) rfl) rfl
theorem wc_8 : Cond.code yX0_add cX0_add 2 none ∈ Wg := t2_in (List.mem_of_getElem? (i := 35) rfl) rfl
theorem wc_9 : Cond.methodLink RX0 29 yJ0_length_8abf5 ∈ Wg := t1_in (List.mem_of_getElem? (i := 224) rfl) rfl
theorem wc_10 : Cond.instanceMethod yJ0_length_8abf5 ∈ Wg := t1_in (List.mem_of_getElem? (i := 225) rfl) rfl
theorem wc_11 : Cond.selects RJ0 yJ0_length_8abf5 yJ0_length_8abf5 ∈ Wg := t1_in (List.mem_of_getElem? (i := 226) rfl) rfl
theorem wc_12 : Cond.initialized RJ0 ∈ Wg := t1_in (List.mem_of_getElem? (i := 13) rfl) rfl
theorem wc_13 : Cond.code yJ0_length_8abf5 cJ0_length_8abf5 1 (some .int) ∈ Wg := t1_in (List.mem_of_getElem? (i := 227) rfl) rfl
theorem wc_14 : Cond.methodLink RX0 35 yJ0_charAt_5068e ∈ Wg := t1_in (List.mem_of_getElem? (i := 234) rfl) rfl
theorem wc_15 : Cond.instanceMethod yJ0_charAt_5068e ∈ Wg := t1_in (List.mem_of_getElem? (i := 235) rfl) rfl
theorem wc_16 : Cond.selects RJ0 yJ0_charAt_5068e yJ0_charAt_5068e ∈ Wg := t1_in (List.mem_of_getElem? (i := 236) rfl) rfl
theorem wc_17 : Cond.code yJ0_charAt_5068e cJ0_charAt_5068e 2 (some .char) ∈ Wg := t1_in (List.mem_of_getElem? (i := 237) rfl) rfl
theorem wc_18 : Cond.constant RX0 39 1000000000 ∈ Wg := t6_in (List.mem_of_getElem? (i := 226) rfl) rfl
theorem wc_19 : Cond.methodLink RX0 40 yX0_at ∈ Wg := t2_in (List.mem_of_getElem? (i := 52) rfl) rfl
theorem wc_20 : Cond.instanceMethod yX0_at ∈ Wg := t2_in (List.mem_of_getElem? (i := 53) rfl) rfl
theorem wc_21 : Cond.selects RX0 yX0_at yX0_at ∈ Wg := t2_in (List.mem_of_getElem? (i := 54) rfl) rfl
theorem wc_22 : Cond.code yX0_at cX0_at 3 (some .int) ∈ Wg := t2_in (List.mem_of_getElem? (i := 55) rfl) rfl
theorem wc_23 : Cond.constant RX0 44 100000000 ∈ Wg := t2_in (List.mem_of_getElem? (i := 69) rfl) rfl
theorem wc_24 : Cond.methodLink RX0 45 Lib.Math.min.name ∈ Wg := t2_in (List.mem_of_getElem? (i := 70) rfl) rfl
theorem wc_25 : Cond.static Lib.Math.min.name ∈ Wg := t2_in (List.mem_of_getElem? (i := 71) rfl) rfl
theorem wc_26 : Cond.initialized "java/lang/Math" ∈ Wg := t1_in (List.mem_of_getElem? (i := 3) rfl) rfl
theorem wc_27 : Cond.code Lib.Math.min.name Lib.Math.min.code 2 (some .int) ∈ Wg := t2_in (List.mem_of_getElem? (i := 72) rfl) rfl
theorem wc_28 : Cond.fieldLink RX6 28 "TicketGate$Table" "rows" "I" ∈ Wg := t1_in (List.mem_of_getElem? (i := 77) rfl) rfl
theorem wc_29 : Cond.fieldLink RX6 9 "TicketGate$Table" "limit" "I" ∈ Wg := t1_in (List.mem_of_getElem? (i := 74) rfl) rfl
theorem wc_30 : Cond.fieldLink RX6 15 "TicketGate$Table" "width" "I" ∈ Wg := t1_in (List.mem_of_getElem? (i := 75) rfl) rfl
theorem wc_31 : Cond.fieldLink RX6 24 "TicketGate$Table" "cells" "[I" ∈ Wg := t1_in (List.mem_of_getElem? (i := 76) rfl) rfl
theorem wc_32 : Cond.methodLink RX6 31 ⟨"TicketGate$Table", "get", "(II)I"⟩ ∈ Wg := t2_in (List.mem_of_getElem? (i := 149) rfl) rfl
theorem wc_33 : Cond.sameMethod "TicketGate$Table" "TicketGate$Table" "get" "(II)I" ∈ Wg := t2_in (List.mem_of_getElem? (i := 151) rfl) rfl
theorem wc_34 : Cond.instanceMethod yX6_get ∈ Wg := t2_in (List.mem_of_getElem? (i := 150) rfl) rfl
theorem wc_35 : Cond.initialized RX6 ∈ Wg := t1_in (List.mem_of_getElem? (i := 6) rfl) rfl
theorem wc_36 : Cond.code yX6_get cX6_get 5 (some .int) ∈ Wg := t2_in (List.mem_of_getElem? (i := 158) rfl) rfl
theorem wc_37 : Cond.methodLink RX6 34 Lib.Math.min.name ∈ Wg := t3_in (List.mem_of_getElem? (i := 222) rfl) rfl
theorem wc_38 : Cond.methodLink RX6 37 arraycopyName ∈ Wg := t3_in (List.mem_of_getElem? (i := 223) rfl) rfl
theorem wc_39 : Cond.native arraycopyName ∈ Wg := t3_in (List.mem_of_getElem? (i := 225) rfl) rfl
theorem wc_40 : Cond.static arraycopyName ∈ Wg := t3_in (List.mem_of_getElem? (i := 224) rfl) rfl
theorem wc_41 : Cond.initialized "java/lang/System" ∈ Wg := t1_in (List.mem_of_getElem? (i := 17) rfl) rfl
theorem wc_42 : Cond.laysFinal RX2 "TicketGate$Table" "limit" "I" ∈ Wg := t1_in (List.mem_of_getElem? (i := 78) rfl) rfl
theorem wc_43 : Cond.laysFinal RX2 "TicketGate$Table" "width" "I" ∈ Wg := t1_in (List.mem_of_getElem? (i := 80) rfl) rfl
theorem wc_44 : Cond.laysFinal RX2 "TicketGate$Table" "cells" "[I" ∈ Wg := t1_in (List.mem_of_getElem? (i := 82) rfl) rfl
theorem wc_45 : Cond.lays RX2 "TicketGate$Table" "rows" "I" ∈ Wg := t1_in (List.mem_of_getElem? (i := 84) rfl) rfl
theorem wc_46 : Cond.methodLink RX2 11 ⟨"TicketGate$Realms", "addRow", "()I"⟩ ∈ Wg := t2_in (List.mem_of_getElem? (i := 176) rfl) rfl
theorem wc_47 : Cond.sameMethod "TicketGate$Realms" "TicketGate$Table" "addRow" "()I" ∈ Wg := t2_in (List.mem_of_getElem? (i := 177) rfl) rfl
theorem wc_48 : Cond.selects RX2 ⟨"TicketGate$Realms", "addRow", "()I"⟩ yX6_addRow ∈ Wg := t2_in (List.mem_of_getElem? (i := 179) rfl) rfl
theorem wc_49 : Cond.instanceMethod yX6_addRow ∈ Wg := t2_in (List.mem_of_getElem? (i := 180) rfl) rfl
theorem wc_50 : Cond.code yX6_addRow cX6_addRow 1 (some .int) ∈ Wg := t2_in (List.mem_of_getElem? (i := 181) rfl) rfl
theorem wc_51 : Cond.methodLink RX2 15 ⟨"TicketGate$Realms", "set", "(III)V"⟩ ∈ Wg := t2_in (List.mem_of_getElem? (i := 182) rfl) rfl
theorem wc_52 : Cond.sameMethod "TicketGate$Realms" "TicketGate$Table" "set" "(III)V" ∈ Wg := t2_in (List.mem_of_getElem? (i := 183) rfl) rfl
theorem wc_53 : Cond.selects RX2 ⟨"TicketGate$Realms", "set", "(III)V"⟩ yX6_set ∈ Wg := t2_in (List.mem_of_getElem? (i := 185) rfl) rfl
theorem wc_54 : Cond.instanceMethod yX6_set ∈ Wg := t2_in (List.mem_of_getElem? (i := 186) rfl) rfl
theorem wc_55 : Cond.code yX6_set cX6_set 5 none ∈ Wg := t2_in (List.mem_of_getElem? (i := 187) rfl) rfl
theorem wc_56 : Cond.methodLink RX2 19 ⟨"TicketGate$Realms", "get", "(II)I"⟩ ∈ Wg := t2_in (List.mem_of_getElem? (i := 203) rfl) rfl
theorem wc_57 : Cond.sameMethod "TicketGate$Realms" "TicketGate$Table" "get" "(II)I" ∈ Wg := t2_in (List.mem_of_getElem? (i := 204) rfl) rfl
theorem wc_58 : Cond.selects RX2 ⟨"TicketGate$Realms", "get", "(II)I"⟩ yX6_get ∈ Wg := t2_in (List.mem_of_getElem? (i := 206) rfl) rfl
theorem wc_59 : Cond.methodLink RX2 27 ⟨"TicketGate$Realms", "size", "()I"⟩ ∈ Wg := t4_in (List.mem_of_getElem? (i := 145) rfl) rfl
theorem wc_60 : Cond.sameMethod "TicketGate$Realms" "TicketGate$Table" "size" "()I" ∈ Wg := t4_in (List.mem_of_getElem? (i := 49) rfl) rfl
theorem wc_61 : Cond.selects RX2 ⟨"TicketGate$Realms", "size", "()I"⟩ yX6_size ∈ Wg := t4_in (List.mem_of_getElem? (i := 50) rfl) rfl
theorem wc_62 : Cond.instanceMethod yX6_size ∈ Wg := t3_in (List.mem_of_getElem? (i := 147) rfl) rfl
theorem wc_63 : Cond.code yX6_size cX6_size 1 (some .int) ∈ Wg := t3_in (List.mem_of_getElem? (i := 148) rfl) rfl
theorem wc_64 : Cond.methodLink RX2 23 yX2_trustedBySome ∈ Wg := t4_in (List.mem_of_getElem? (i := 165) rfl) rfl
theorem wc_65 : Cond.instanceMethod yX2_trustedBySome ∈ Wg := t4_in (List.mem_of_getElem? (i := 167) rfl) rfl
theorem wc_66 : Cond.selects RX2 yX2_trustedBySome yX2_trustedBySome ∈ Wg := p2_in (q := (⟨"TicketGate$Realms", "trustedBySome", "(I)I"⟩, 4)) (List.mem_of_getElem? (i := 13) rfl)
theorem wc_67 : Cond.initialized RX2 ∈ Wg := t1_in (List.mem_of_getElem? (i := 7) rfl) rfl
theorem wc_68 : Cond.code yX2_trustedBySome cX2_trustedBySome 4 (some .int) ∈ Wg := t4_in (List.mem_of_getElem? (i := 168) rfl) rfl
theorem wc_69 : Cond.methodLink RX2 30 yX2_referrals ∈ Wg := t4_in (List.mem_of_getElem? (i := 161) rfl) rfl
theorem wc_70 : Cond.instanceMethod yX2_referrals ∈ Wg := t4_in (List.mem_of_getElem? (i := 162) rfl) rfl
theorem wc_71 : Cond.selects RX2 yX2_referrals yX2_referrals ∈ Wg := t4_in (List.mem_of_getElem? (i := 163) rfl) rfl
theorem wc_72 : Cond.code yX2_referrals cX2_referrals 5 (some .int) ∈ Wg := t4_in (List.mem_of_getElem? (i := 164) rfl) rfl
theorem wc_73 : Cond.methodLink RX2 33 yX2_hasTrust ∈ Wg := t5_in (List.mem_of_getElem? (i := 138) rfl) rfl
theorem wc_74 : Cond.instanceMethod yX2_hasTrust ∈ Wg := t2_in (List.mem_of_getElem? (i := 200) rfl) rfl
theorem wc_75 : Cond.selects RX2 yX2_hasTrust yX2_hasTrust ∈ Wg := t2_in (List.mem_of_getElem? (i := 201) rfl) rfl
theorem wc_76 : Cond.code yX2_hasTrust cX2_hasTrust 3 (some .boolean) ∈ Wg := t2_in (List.mem_of_getElem? (i := 202) rfl) rfl
theorem wc_77 : Cond.laysFinal RX3 "TicketGate$Table" "limit" "I" ∈ Wg := t1_in (List.mem_of_getElem? (i := 104) rfl) rfl
theorem wc_78 : Cond.laysFinal RX3 "TicketGate$Table" "width" "I" ∈ Wg := t1_in (List.mem_of_getElem? (i := 105) rfl) rfl
theorem wc_79 : Cond.laysFinal RX3 "TicketGate$Table" "cells" "[I" ∈ Wg := t1_in (List.mem_of_getElem? (i := 106) rfl) rfl
theorem wc_80 : Cond.lays RX3 "TicketGate$Table" "rows" "I" ∈ Wg := t1_in (List.mem_of_getElem? (i := 107) rfl) rfl
theorem wc_81 : Cond.methodLink RX3 11 ⟨"TicketGate$Services", "addRow", "()I"⟩ ∈ Wg := t3_in (List.mem_of_getElem? (i := 1) rfl) rfl
theorem wc_82 : Cond.sameMethod "TicketGate$Services" "TicketGate$Table" "addRow" "()I" ∈ Wg := t3_in (List.mem_of_getElem? (i := 2) rfl) rfl
theorem wc_83 : Cond.selects RX3 ⟨"TicketGate$Services", "addRow", "()I"⟩ yX6_addRow ∈ Wg := t3_in (List.mem_of_getElem? (i := 3) rfl) rfl
theorem wc_84 : Cond.methodLink RX3 15 ⟨"TicketGate$Services", "set", "(III)V"⟩ ∈ Wg := t3_in (List.mem_of_getElem? (i := 4) rfl) rfl
theorem wc_85 : Cond.sameMethod "TicketGate$Services" "TicketGate$Table" "set" "(III)V" ∈ Wg := t3_in (List.mem_of_getElem? (i := 5) rfl) rfl
theorem wc_86 : Cond.selects RX3 ⟨"TicketGate$Services", "set", "(III)V"⟩ yX6_set ∈ Wg := t3_in (List.mem_of_getElem? (i := 6) rfl) rfl
theorem wc_87 : Cond.laysFinal RX7 "TicketGate$Table" "limit" "I" ∈ Wg := t1_in (List.mem_of_getElem? (i := 115) rfl) rfl
theorem wc_88 : Cond.laysFinal RX7 "TicketGate$Table" "width" "I" ∈ Wg := t1_in (List.mem_of_getElem? (i := 116) rfl) rfl
theorem wc_89 : Cond.laysFinal RX7 "TicketGate$Table" "cells" "[I" ∈ Wg := t1_in (List.mem_of_getElem? (i := 117) rfl) rfl
theorem wc_90 : Cond.lays RX7 "TicketGate$Table" "rows" "I" ∈ Wg := t1_in (List.mem_of_getElem? (i := 118) rfl) rfl
theorem wc_91 : Cond.methodLink RX7 11 ⟨"TicketGate$Tickets", "get", "(II)I"⟩ ∈ Wg := t3_in (List.mem_of_getElem? (i := 79) rfl) rfl
theorem wc_92 : Cond.sameMethod "TicketGate$Tickets" "TicketGate$Table" "get" "(II)I" ∈ Wg := t3_in (List.mem_of_getElem? (i := 55) rfl) rfl
theorem wc_93 : Cond.selects RX7 ⟨"TicketGate$Tickets", "get", "(II)I"⟩ yX6_get ∈ Wg := t3_in (List.mem_of_getElem? (i := 56) rfl) rfl
theorem wc_94 : Cond.methodLink RX7 15 ⟨"TicketGate$Tickets", "size", "()I"⟩ ∈ Wg := t3_in (List.mem_of_getElem? (i := 194) rfl) rfl
theorem wc_95 : Cond.sameMethod "TicketGate$Tickets" "TicketGate$Table" "size" "()I" ∈ Wg := t3_in (List.mem_of_getElem? (i := 195) rfl) rfl
theorem wc_96 : Cond.selects RX7 ⟨"TicketGate$Tickets", "size", "()I"⟩ yX6_size ∈ Wg := t3_in (List.mem_of_getElem? (i := 196) rfl) rfl
theorem wc_97 : Cond.methodLink RX7 19 yX7_isAlive ∈ Wg := t3_in (List.mem_of_getElem? (i := 197) rfl) rfl
theorem wc_98 : Cond.instanceMethod yX7_isAlive ∈ Wg := t3_in (List.mem_of_getElem? (i := 76) rfl) rfl
theorem wc_99 : Cond.selects RX7 yX7_isAlive yX7_isAlive ∈ Wg := t3_in (List.mem_of_getElem? (i := 77) rfl) rfl
theorem wc_100 : Cond.initialized RX7 ∈ Wg := t1_in (List.mem_of_getElem? (i := 10) rfl) rfl
theorem wc_101 : Cond.code yX7_isAlive cX7_isAlive 3 (some .boolean) ∈ Wg := t3_in (List.mem_of_getElem? (i := 78) rfl) rfl
theorem wc_102 : Cond.methodLink RX7 23 ⟨"TicketGate$Tickets", "removeRow", "(I)V"⟩ ∈ Wg := t3_in (List.mem_of_getElem? (i := 198) rfl) rfl
theorem wc_103 : Cond.sameMethod "TicketGate$Tickets" "TicketGate$Table" "removeRow" "(I)V" ∈ Wg := t3_in (List.mem_of_getElem? (i := 183) rfl) rfl
theorem wc_104 : Cond.selects RX7 ⟨"TicketGate$Tickets", "removeRow", "(I)V"⟩ yX6_removeRow ∈ Wg := t3_in (List.mem_of_getElem? (i := 184) rfl) rfl
theorem wc_105 : Cond.instanceMethod yX6_removeRow ∈ Wg := t3_in (List.mem_of_getElem? (i := 167) rfl) rfl
theorem wc_106 : Cond.code yX6_removeRow cX6_removeRow 4 none ∈ Wg := t3_in (List.mem_of_getElem? (i := 168) rfl) rfl
theorem wc_107 : Cond.laysFinal RX8 "TicketGate$Table" "limit" "I" ∈ Wg := t1_in (List.mem_of_getElem? (i := 93) rfl) rfl
theorem wc_108 : Cond.laysFinal RX8 "TicketGate$Table" "width" "I" ∈ Wg := t1_in (List.mem_of_getElem? (i := 94) rfl) rfl
theorem wc_109 : Cond.laysFinal RX8 "TicketGate$Table" "cells" "[I" ∈ Wg := t1_in (List.mem_of_getElem? (i := 95) rfl) rfl
theorem wc_110 : Cond.lays RX8 "TicketGate$Table" "rows" "I" ∈ Wg := t1_in (List.mem_of_getElem? (i := 96) rfl) rfl
theorem wc_111 : Cond.methodLink RX8 11 ⟨"TicketGate$Users", "addRow", "()I"⟩ ∈ Wg := t2_in (List.mem_of_getElem? (i := 223) rfl) rfl
theorem wc_112 : Cond.sameMethod "TicketGate$Users" "TicketGate$Table" "addRow" "()I" ∈ Wg := t2_in (List.mem_of_getElem? (i := 224) rfl) rfl
theorem wc_113 : Cond.selects RX8 ⟨"TicketGate$Users", "addRow", "()I"⟩ yX6_addRow ∈ Wg := t2_in (List.mem_of_getElem? (i := 225) rfl) rfl
theorem wc_114 : Cond.methodLink RX8 15 ⟨"TicketGate$Users", "set", "(III)V"⟩ ∈ Wg := t2_in (List.mem_of_getElem? (i := 226) rfl) rfl
theorem wc_115 : Cond.sameMethod "TicketGate$Users" "TicketGate$Table" "set" "(III)V" ∈ Wg := t2_in (List.mem_of_getElem? (i := 227) rfl) rfl
theorem wc_116 : Cond.selects RX8 ⟨"TicketGate$Users", "set", "(III)V"⟩ yX6_set ∈ Wg := t2_in (List.mem_of_getElem? (i := 228) rfl) rfl
theorem wc_117 : Cond.laysFinal RX9 "TicketGate$Table" "limit" "I" ∈ Wg := t1_in (List.mem_of_getElem? (i := 126) rfl) rfl
theorem wc_118 : Cond.laysFinal RX9 "TicketGate$Table" "width" "I" ∈ Wg := t1_in (List.mem_of_getElem? (i := 127) rfl) rfl
theorem wc_119 : Cond.laysFinal RX9 "TicketGate$Table" "cells" "[I" ∈ Wg := t1_in (List.mem_of_getElem? (i := 128) rfl) rfl
theorem wc_120 : Cond.lays RX9 "TicketGate$Table" "rows" "I" ∈ Wg := t1_in (List.mem_of_getElem? (i := 129) rfl) rfl
theorem wc_121 : Cond.methodLink RX9 11 ⟨"TicketGate$Uses", "isFull", "()Z"⟩ ∈ Wg := t3_in (List.mem_of_getElem? (i := 160) rfl) rfl
theorem wc_122 : Cond.sameMethod "TicketGate$Uses" "TicketGate$Table" "isFull" "()Z" ∈ Wg := t3_in (List.mem_of_getElem? (i := 161) rfl) rfl
theorem wc_123 : Cond.selects RX9 ⟨"TicketGate$Uses", "isFull", "()Z"⟩ yX6_isFull ∈ Wg := t3_in (List.mem_of_getElem? (i := 162) rfl) rfl
theorem wc_124 : Cond.instanceMethod yX6_isFull ∈ Wg := t2_in (List.mem_of_getElem? (i := 133) rfl) rfl
theorem wc_125 : Cond.code yX6_isFull cX6_isFull 1 (some .boolean) ∈ Wg := t2_in (List.mem_of_getElem? (i := 134) rfl) rfl
theorem wc_126 : Cond.methodLink RX9 15 ⟨"TicketGate$Uses", "removeRow", "(I)V"⟩ ∈ Wg := t3_in (List.mem_of_getElem? (i := 163) rfl) rfl
theorem wc_127 : Cond.sameMethod "TicketGate$Uses" "TicketGate$Table" "removeRow" "(I)V" ∈ Wg := t3_in (List.mem_of_getElem? (i := 164) rfl) rfl
theorem wc_128 : Cond.selects RX9 ⟨"TicketGate$Uses", "removeRow", "(I)V"⟩ yX6_removeRow ∈ Wg := t3_in (List.mem_of_getElem? (i := 166) rfl) rfl
theorem wc_129 : Cond.methodLink RX9 19 ⟨"TicketGate$Uses", "addRow", "()I"⟩ ∈ Wg := t3_in (List.mem_of_getElem? (i := 169) rfl) rfl
theorem wc_130 : Cond.sameMethod "TicketGate$Uses" "TicketGate$Table" "addRow" "()I" ∈ Wg := t3_in (List.mem_of_getElem? (i := 170) rfl) rfl
theorem wc_131 : Cond.selects RX9 ⟨"TicketGate$Uses", "addRow", "()I"⟩ yX6_addRow ∈ Wg := t3_in (List.mem_of_getElem? (i := 171) rfl) rfl
theorem wc_132 : Cond.methodLink RX9 23 ⟨"TicketGate$Uses", "set", "(III)V"⟩ ∈ Wg := t3_in (List.mem_of_getElem? (i := 172) rfl) rfl
theorem wc_133 : Cond.sameMethod "TicketGate$Uses" "TicketGate$Table" "set" "(III)V" ∈ Wg := t3_in (List.mem_of_getElem? (i := 173) rfl) rfl
theorem wc_134 : Cond.selects RX9 ⟨"TicketGate$Uses", "set", "(III)V"⟩ yX6_set ∈ Wg := t3_in (List.mem_of_getElem? (i := 174) rfl) rfl
theorem wc_135 : Cond.methodLink RX9 27 ⟨"TicketGate$Uses", "size", "()I"⟩ ∈ Wg := t3_in (List.mem_of_getElem? (i := 143) rfl) rfl
theorem wc_136 : Cond.sameMethod "TicketGate$Uses" "TicketGate$Table" "size" "()I" ∈ Wg := t3_in (List.mem_of_getElem? (i := 144) rfl) rfl
theorem wc_137 : Cond.selects RX9 ⟨"TicketGate$Uses", "size", "()I"⟩ yX6_size ∈ Wg := t3_in (List.mem_of_getElem? (i := 146) rfl) rfl
theorem wc_138 : Cond.methodLink RX9 30 ⟨"TicketGate$Uses", "get", "(II)I"⟩ ∈ Wg := t3_in (List.mem_of_getElem? (i := 149) rfl) rfl
theorem wc_139 : Cond.sameMethod "TicketGate$Uses" "TicketGate$Table" "get" "(II)I" ∈ Wg := t3_in (List.mem_of_getElem? (i := 150) rfl) rfl
theorem wc_140 : Cond.selects RX9 ⟨"TicketGate$Uses", "get", "(II)I"⟩ yX6_get ∈ Wg := t3_in (List.mem_of_getElem? (i := 151) rfl) rfl
theorem wc_141 : Cond.methodLink RX10 9 ⟨"TicketGate$Realms", "size", "()I"⟩ ∈ Wg := t4_in (List.mem_of_getElem? (i := 137) rfl) rfl
theorem wc_142 : Cond.laysFinal RX10 "TicketGate$Table" "limit" "I" ∈ Wg := t4_in (List.mem_of_getElem? (i := 128) rfl) rfl
theorem wc_143 : Cond.laysFinal RX10 "TicketGate$Table" "width" "I" ∈ Wg := t4_in (List.mem_of_getElem? (i := 129) rfl) rfl
theorem wc_144 : Cond.laysFinal RX10 "TicketGate$Table" "cells" "[I" ∈ Wg := t4_in (List.mem_of_getElem? (i := 130) rfl) rfl
theorem wc_145 : Cond.lays RX10 "TicketGate$Table" "rows" "I" ∈ Wg := t4_in (List.mem_of_getElem? (i := 131) rfl) rfl
theorem wc_146 : Cond.methodLink RX10 15 ⟨"TicketGate$Ways", "addRow", "()I"⟩ ∈ Wg := t4_in (List.mem_of_getElem? (i := 138) rfl) rfl
theorem wc_147 : Cond.sameMethod "TicketGate$Ways" "TicketGate$Table" "addRow" "()I" ∈ Wg := t4_in (List.mem_of_getElem? (i := 139) rfl) rfl
theorem wc_148 : Cond.selects RX10 ⟨"TicketGate$Ways", "addRow", "()I"⟩ yX6_addRow ∈ Wg := t4_in (List.mem_of_getElem? (i := 140) rfl) rfl
theorem wc_149 : Cond.methodLink RX10 20 yX2_hasTrust ∈ Wg := t4_in (List.mem_of_getElem? (i := 141) rfl) rfl
theorem wc_150 : Cond.methodLink RX10 24 ⟨"TicketGate$Ways", "set", "(III)V"⟩ ∈ Wg := t4_in (List.mem_of_getElem? (i := 142) rfl) rfl
theorem wc_151 : Cond.sameMethod "TicketGate$Ways" "TicketGate$Table" "set" "(III)V" ∈ Wg := t4_in (List.mem_of_getElem? (i := 143) rfl) rfl
theorem wc_152 : Cond.selects RX10 ⟨"TicketGate$Ways", "set", "(III)V"⟩ yX6_set ∈ Wg := t4_in (List.mem_of_getElem? (i := 144) rfl) rfl
theorem wc_153 : Cond.methodLink RX10 28 ⟨"TicketGate$Ways", "size", "()I"⟩ ∈ Wg := t4_in (List.mem_of_getElem? (i := 150) rfl) rfl
theorem wc_154 : Cond.sameMethod "TicketGate$Ways" "TicketGate$Table" "size" "()I" ∈ Wg := t4_in (List.mem_of_getElem? (i := 151) rfl) rfl
theorem wc_155 : Cond.selects RX10 ⟨"TicketGate$Ways", "size", "()I"⟩ yX6_size ∈ Wg := t4_in (List.mem_of_getElem? (i := 152) rfl) rfl
theorem wc_156 : Cond.methodLink RX10 29 ⟨"TicketGate$Ways", "get", "(II)I"⟩ ∈ Wg := t4_in (List.mem_of_getElem? (i := 153) rfl) rfl
theorem wc_157 : Cond.sameMethod "TicketGate$Ways" "TicketGate$Table" "get" "(II)I" ∈ Wg := t4_in (List.mem_of_getElem? (i := 154) rfl) rfl
theorem wc_158 : Cond.selects RX10 ⟨"TicketGate$Ways", "get", "(II)I"⟩ yX6_get ∈ Wg := t4_in (List.mem_of_getElem? (i := 155) rfl) rfl
theorem wc_159 : Cond.methodLink RX10 33 Lib.Math.min.name ∈ Wg := t4_in (List.mem_of_getElem? (i := 156) rfl) rfl
theorem wc_160 : Cond.laysFinal RX5 "TicketGate$State" "realms" "LTicketGate$Realms;" ∈ Wg := t1_in (List.mem_of_getElem? (i := 155) rfl) rfl
theorem wc_161 : Cond.laysFinal RX5 "TicketGate$State" "users" "LTicketGate$Users;" ∈ Wg := t1_in (List.mem_of_getElem? (i := 157) rfl) rfl
theorem wc_162 : Cond.laysFinal RX5 "TicketGate$State" "services" "LTicketGate$Services;" ∈ Wg := t1_in (List.mem_of_getElem? (i := 159) rfl) rfl
theorem wc_163 : Cond.laysFinal RX5 "TicketGate$State" "tickets" "LTicketGate$Tickets;" ∈ Wg := t1_in (List.mem_of_getElem? (i := 161) rfl) rfl
theorem wc_164 : Cond.laysFinal RX5 "TicketGate$State" "uses" "LTicketGate$Uses;" ∈ Wg := t1_in (List.mem_of_getElem? (i := 163) rfl) rfl
theorem wc_165 : Cond.lays RX5 "TicketGate$State" "time" "I" ∈ Wg := t1_in (List.mem_of_getElem? (i := 165) rfl) rfl
theorem wc_166 : Cond.lays RX5 "TicketGate$State" "tolerance" "I" ∈ Wg := t1_in (List.mem_of_getElem? (i := 167) rfl) rfl
theorem wc_167 : Cond.lays RX5 "TicketGate$State" "seed" "I" ∈ Wg := t1_in (List.mem_of_getElem? (i := 169) rfl) rfl
theorem wc_168 : Cond.lays RX5 "TicketGate$State" "madeTickets" "I" ∈ Wg := t1_in (List.mem_of_getElem? (i := 171) rfl) rfl
theorem wc_169 : Cond.lays RX5 "TicketGate$State" "cheesesOfText" "I" ∈ Wg := t1_in (List.mem_of_getElem? (i := 173) rfl) rfl
theorem wc_170 : Cond.fieldLink RX5 12 "TicketGate$State" "realms" "LTicketGate$Realms;" ∈ Wg := t1_in (List.mem_of_getElem? (i := 131) rfl) rfl
theorem wc_171 : Cond.methodLink RX5 46 ⟨"TicketGate$Realms", "removeAll", "()V"⟩ ∈ Wg := t2_in (List.mem_of_getElem? (i := 102) rfl) rfl
theorem wc_172 : Cond.sameMethod "TicketGate$Realms" "TicketGate$Table" "removeAll" "()V" ∈ Wg := t2_in (List.mem_of_getElem? (i := 103) rfl) rfl
theorem wc_173 : Cond.selects RX2 ⟨"TicketGate$Realms", "removeAll", "()V"⟩ yX6_removeAll ∈ Wg := t2_in (List.mem_of_getElem? (i := 105) rfl) rfl
theorem wc_174 : Cond.instanceMethod yX6_removeAll ∈ Wg := t2_in (List.mem_of_getElem? (i := 106) rfl) rfl
theorem wc_175 : Cond.code yX6_removeAll cX6_removeAll 1 none ∈ Wg := t2_in (List.mem_of_getElem? (i := 107) rfl) rfl
theorem wc_176 : Cond.fieldLink RX5 21 "TicketGate$State" "users" "LTicketGate$Users;" ∈ Wg := t1_in (List.mem_of_getElem? (i := 134) rfl) rfl
theorem wc_177 : Cond.methodLink RX5 49 ⟨"TicketGate$Users", "removeAll", "()V"⟩ ∈ Wg := t2_in (List.mem_of_getElem? (i := 108) rfl) rfl
theorem wc_178 : Cond.sameMethod "TicketGate$Users" "TicketGate$Table" "removeAll" "()V" ∈ Wg := t2_in (List.mem_of_getElem? (i := 109) rfl) rfl
theorem wc_179 : Cond.selects RX8 ⟨"TicketGate$Users", "removeAll", "()V"⟩ yX6_removeAll ∈ Wg := t2_in (List.mem_of_getElem? (i := 110) rfl) rfl
theorem wc_180 : Cond.fieldLink RX5 28 "TicketGate$State" "services" "LTicketGate$Services;" ∈ Wg := t1_in (List.mem_of_getElem? (i := 137) rfl) rfl
theorem wc_181 : Cond.methodLink RX5 50 ⟨"TicketGate$Services", "removeAll", "()V"⟩ ∈ Wg := t2_in (List.mem_of_getElem? (i := 111) rfl) rfl
theorem wc_182 : Cond.sameMethod "TicketGate$Services" "TicketGate$Table" "removeAll" "()V" ∈ Wg := t2_in (List.mem_of_getElem? (i := 112) rfl) rfl
theorem wc_183 : Cond.selects RX3 ⟨"TicketGate$Services", "removeAll", "()V"⟩ yX6_removeAll ∈ Wg := t2_in (List.mem_of_getElem? (i := 113) rfl) rfl
theorem wc_184 : Cond.fieldLink RX5 35 "TicketGate$State" "tickets" "LTicketGate$Tickets;" ∈ Wg := t1_in (List.mem_of_getElem? (i := 140) rfl) rfl
theorem wc_185 : Cond.methodLink RX5 51 ⟨"TicketGate$Tickets", "removeAll", "()V"⟩ ∈ Wg := t2_in (List.mem_of_getElem? (i := 114) rfl) rfl
theorem wc_186 : Cond.sameMethod "TicketGate$Tickets" "TicketGate$Table" "removeAll" "()V" ∈ Wg := t2_in (List.mem_of_getElem? (i := 115) rfl) rfl
theorem wc_187 : Cond.selects RX7 ⟨"TicketGate$Tickets", "removeAll", "()V"⟩ yX6_removeAll ∈ Wg := t2_in (List.mem_of_getElem? (i := 116) rfl) rfl
theorem wc_188 : Cond.fieldLink RX5 42 "TicketGate$State" "uses" "LTicketGate$Uses;" ∈ Wg := t1_in (List.mem_of_getElem? (i := 143) rfl) rfl
theorem wc_189 : Cond.methodLink RX5 52 ⟨"TicketGate$Uses", "removeAll", "()V"⟩ ∈ Wg := t2_in (List.mem_of_getElem? (i := 117) rfl) rfl
theorem wc_190 : Cond.sameMethod "TicketGate$Uses" "TicketGate$Table" "removeAll" "()V" ∈ Wg := t2_in (List.mem_of_getElem? (i := 118) rfl) rfl
theorem wc_191 : Cond.selects RX9 ⟨"TicketGate$Uses", "removeAll", "()V"⟩ yX6_removeAll ∈ Wg := t2_in (List.mem_of_getElem? (i := 119) rfl) rfl
theorem wc_192 : Cond.fieldLink RX5 53 "TicketGate$State" "time" "I" ∈ Wg := t1_in (List.mem_of_getElem? (i := 145) rfl) rfl
theorem wc_193 : Cond.fieldLink RX5 57 "TicketGate$State" "tolerance" "I" ∈ Wg := t1_in (List.mem_of_getElem? (i := 148) rfl) rfl
theorem wc_194 : Cond.fieldLink RX5 60 "TicketGate$State" "seed" "I" ∈ Wg := t1_in (List.mem_of_getElem? (i := 149) rfl) rfl
theorem wc_195 : Cond.fieldLink RX5 63 "TicketGate$State" "madeTickets" "I" ∈ Wg := t1_in (List.mem_of_getElem? (i := 151) rfl) rfl
theorem wc_196 : Cond.fieldLink RX5 66 "TicketGate$State" "cheesesOfText" "I" ∈ Wg := t1_in (List.mem_of_getElem? (i := 152) rfl) rfl
theorem wc_197 : Cond.methodLink RX5 69 ⟨"TicketGate$Realms", "copyFrom", "(LTicketGate$Table;)V"⟩ ∈ Wg := t3_in (List.mem_of_getElem? (i := 216) rfl) rfl
theorem wc_198 : Cond.sameMethod "TicketGate$Realms" "TicketGate$Table" "copyFrom" "(LTicketGate$Table;)V" ∈ Wg := t3_in (List.mem_of_getElem? (i := 217) rfl) rfl
theorem wc_199 : Cond.selects RX2 ⟨"TicketGate$Realms", "copyFrom", "(LTicketGate$Table;)V"⟩ yX6_copyFrom ∈ Wg := t3_in (List.mem_of_getElem? (i := 219) rfl) rfl
theorem wc_200 : Cond.instanceMethod yX6_copyFrom ∈ Wg := t3_in (List.mem_of_getElem? (i := 220) rfl) rfl
theorem wc_201 : Cond.code yX6_copyFrom cX6_copyFrom 3 none ∈ Wg := t3_in (List.mem_of_getElem? (i := 221) rfl) rfl
theorem wc_202 : Cond.methodLink RX5 73 ⟨"TicketGate$Users", "copyFrom", "(LTicketGate$Table;)V"⟩ ∈ Wg := t3_in (List.mem_of_getElem? (i := 226) rfl) rfl
theorem wc_203 : Cond.sameMethod "TicketGate$Users" "TicketGate$Table" "copyFrom" "(LTicketGate$Table;)V" ∈ Wg := t3_in (List.mem_of_getElem? (i := 227) rfl) rfl
theorem wc_204 : Cond.selects RX8 ⟨"TicketGate$Users", "copyFrom", "(LTicketGate$Table;)V"⟩ yX6_copyFrom ∈ Wg := t3_in (List.mem_of_getElem? (i := 228) rfl) rfl
theorem wc_205 : Cond.methodLink RX5 74 ⟨"TicketGate$Services", "copyFrom", "(LTicketGate$Table;)V"⟩ ∈ Wg := t3_in (List.mem_of_getElem? (i := 229) rfl) rfl
theorem wc_206 : Cond.sameMethod "TicketGate$Services" "TicketGate$Table" "copyFrom" "(LTicketGate$Table;)V" ∈ Wg := t3_in (List.mem_of_getElem? (i := 230) rfl) rfl
theorem wc_207 : Cond.selects RX3 ⟨"TicketGate$Services", "copyFrom", "(LTicketGate$Table;)V"⟩ yX6_copyFrom ∈ Wg := t3_in (List.mem_of_getElem? (i := 231) rfl) rfl
theorem wc_208 : Cond.methodLink RX5 75 ⟨"TicketGate$Tickets", "copyFrom", "(LTicketGate$Table;)V"⟩ ∈ Wg := t3_in (List.mem_of_getElem? (i := 232) rfl) rfl
theorem wc_209 : Cond.sameMethod "TicketGate$Tickets" "TicketGate$Table" "copyFrom" "(LTicketGate$Table;)V" ∈ Wg := t3_in (List.mem_of_getElem? (i := 233) rfl) rfl
theorem wc_210 : Cond.selects RX7 ⟨"TicketGate$Tickets", "copyFrom", "(LTicketGate$Table;)V"⟩ yX6_copyFrom ∈ Wg := t3_in (List.mem_of_getElem? (i := 234) rfl) rfl
theorem wc_211 : Cond.methodLink RX5 76 ⟨"TicketGate$Uses", "copyFrom", "(LTicketGate$Table;)V"⟩ ∈ Wg := t3_in (List.mem_of_getElem? (i := 235) rfl) rfl
theorem wc_212 : Cond.sameMethod "TicketGate$Uses" "TicketGate$Table" "copyFrom" "(LTicketGate$Table;)V" ∈ Wg := t3_in (List.mem_of_getElem? (i := 236) rfl) rfl
theorem wc_213 : Cond.selects RX9 ⟨"TicketGate$Uses", "copyFrom", "(LTicketGate$Table;)V"⟩ yX6_copyFrom ∈ Wg := t3_in (List.mem_of_getElem? (i := 237) rfl) rfl
theorem wc_214 : Cond.selects RX2 ⟨"TicketGate$Table", "get", "(II)I"⟩ yX6_get ∈ Wg := t2_in (List.mem_of_getElem? (i := 152) rfl) rfl
theorem wc_215 : Cond.methodLink RX5 77 ⟨"TicketGate$Realms", "rowWith", "(II)I"⟩ ∈ Wg := t2_in (List.mem_of_getElem? (i := 143) rfl) rfl
theorem wc_216 : Cond.sameMethod "TicketGate$Realms" "TicketGate$Table" "rowWith" "(II)I" ∈ Wg := t2_in (List.mem_of_getElem? (i := 144) rfl) rfl
theorem wc_217 : Cond.selects RX2 ⟨"TicketGate$Realms", "rowWith", "(II)I"⟩ yX6_rowWith ∈ Wg := t2_in (List.mem_of_getElem? (i := 146) rfl) rfl
theorem wc_218 : Cond.instanceMethod yX6_rowWith ∈ Wg := t2_in (List.mem_of_getElem? (i := 147) rfl) rfl
theorem wc_219 : Cond.code yX6_rowWith cX6_rowWith 4 (some .int) ∈ Wg := t2_in (List.mem_of_getElem? (i := 148) rfl) rfl
theorem wc_220 : Cond.selects RX8 ⟨"TicketGate$Table", "get", "(II)I"⟩ yX6_get ∈ Wg := t2_in (List.mem_of_getElem? (i := 155) rfl) rfl
theorem wc_221 : Cond.methodLink RX5 81 ⟨"TicketGate$Users", "rowWith", "(II)I"⟩ ∈ Wg := t2_in (List.mem_of_getElem? (i := 159) rfl) rfl
theorem wc_222 : Cond.sameMethod "TicketGate$Users" "TicketGate$Table" "rowWith" "(II)I" ∈ Wg := t2_in (List.mem_of_getElem? (i := 160) rfl) rfl
theorem wc_223 : Cond.selects RX8 ⟨"TicketGate$Users", "rowWith", "(II)I"⟩ yX6_rowWith ∈ Wg := t2_in (List.mem_of_getElem? (i := 161) rfl) rfl
theorem wc_224 : Cond.selects RX3 ⟨"TicketGate$Table", "get", "(II)I"⟩ yX6_get ∈ Wg := t2_in (List.mem_of_getElem? (i := 153) rfl) rfl
theorem wc_225 : Cond.methodLink RX5 82 ⟨"TicketGate$Services", "rowWith", "(II)I"⟩ ∈ Wg := t2_in (List.mem_of_getElem? (i := 162) rfl) rfl
theorem wc_226 : Cond.sameMethod "TicketGate$Services" "TicketGate$Table" "rowWith" "(II)I" ∈ Wg := t2_in (List.mem_of_getElem? (i := 163) rfl) rfl
theorem wc_227 : Cond.selects RX3 ⟨"TicketGate$Services", "rowWith", "(II)I"⟩ yX6_rowWith ∈ Wg := t2_in (List.mem_of_getElem? (i := 164) rfl) rfl
theorem wc_228 : Cond.methodLink RX5 83 ⟨"TicketGate$Users", "get", "(II)I"⟩ ∈ Wg := t3_in (List.mem_of_getElem? (i := 17) rfl) rfl
theorem wc_229 : Cond.sameMethod "TicketGate$Users" "TicketGate$Table" "get" "(II)I" ∈ Wg := t3_in (List.mem_of_getElem? (i := 18) rfl) rfl
theorem wc_230 : Cond.selects RX8 ⟨"TicketGate$Users", "get", "(II)I"⟩ yX6_get ∈ Wg := t3_in (List.mem_of_getElem? (i := 19) rfl) rfl
theorem wc_231 : Cond.methodLink RX5 86 ⟨"TicketGate$Realms", "get", "(II)I"⟩ ∈ Wg := t3_in (List.mem_of_getElem? (i := 24) rfl) rfl
theorem wc_232 : Cond.methodLink RX5 87 Lib.Math.abs.name ∈ Wg := t3_in (List.mem_of_getElem? (i := 25) rfl) rfl
theorem wc_233 : Cond.static Lib.Math.abs.name ∈ Wg := t3_in (List.mem_of_getElem? (i := 26) rfl) rfl
theorem wc_234 : Cond.code Lib.Math.abs.name Lib.Math.abs.code 1 (some .int) ∈ Wg := t3_in (List.mem_of_getElem? (i := 27) rfl) rfl
theorem wc_235 : Cond.methodLink RX5 93 ⟨"TicketGate$Tickets", "get", "(II)I"⟩ ∈ Wg := t3_in (List.mem_of_getElem? (i := 54) rfl) rfl
theorem wc_236 : Cond.methodLink RX5 94 yX5_skewOf ∈ Wg := t3_in (List.mem_of_getElem? (i := 20) rfl) rfl
theorem wc_237 : Cond.instanceMethod yX5_skewOf ∈ Wg := t3_in (List.mem_of_getElem? (i := 21) rfl) rfl
theorem wc_238 : Cond.selects RX5 yX5_skewOf yX5_skewOf ∈ Wg := t3_in (List.mem_of_getElem? (i := 22) rfl) rfl
theorem wc_239 : Cond.initialized RX5 ∈ Wg := t1_in (List.mem_of_getElem? (i := 5) rfl) rfl
theorem wc_240 : Cond.code yX5_skewOf cX5_skewOf 3 (some .int) ∈ Wg := t3_in (List.mem_of_getElem? (i := 23) rfl) rfl
theorem wc_241 : Cond.methodLink RX5 97 ⟨"TicketGate$Tickets", "isFull", "()Z"⟩ ∈ Wg := t3_in (List.mem_of_getElem? (i := 28) rfl) rfl
theorem wc_242 : Cond.sameMethod "TicketGate$Tickets" "TicketGate$Table" "isFull" "()Z" ∈ Wg := t3_in (List.mem_of_getElem? (i := 29) rfl) rfl
theorem wc_243 : Cond.selects RX7 ⟨"TicketGate$Tickets", "isFull", "()Z"⟩ yX6_isFull ∈ Wg := t3_in (List.mem_of_getElem? (i := 30) rfl) rfl
theorem wc_244 : Cond.methodLink RX5 101 yX7_isAlive ∈ Wg := t3_in (List.mem_of_getElem? (i := 75) rfl) rfl
theorem wc_245 : Cond.methodLink RX5 105 yX2_hasTrust ∈ Wg := t3_in (List.mem_of_getElem? (i := 80) rfl) rfl
theorem wc_246 : Cond.methodLink RX5 108 yX5_isSkewed ∈ Wg := t3_in (List.mem_of_getElem? (i := 81) rfl) rfl
theorem wc_247 : Cond.instanceMethod yX5_isSkewed ∈ Wg := t3_in (List.mem_of_getElem? (i := 83) rfl) rfl
theorem wc_248 : Cond.selects RX5 yX5_isSkewed yX5_isSkewed ∈ Wg := p2_in (q := (⟨"TicketGate$State", "isSkewed", "(I)Z"⟩, 10)) (List.mem_of_getElem? (i := 4) rfl)
theorem wc_249 : Cond.code yX5_isSkewed cX5_isSkewed 3 (some .boolean) ∈ Wg := t3_in (List.mem_of_getElem? (i := 84) rfl) rfl
theorem wc_250 : Cond.methodLink RX5 112 ⟨"TicketGate$Services", "get", "(II)I"⟩ ∈ Wg := t3_in (List.mem_of_getElem? (i := 106) rfl) rfl
theorem wc_251 : Cond.sameMethod "TicketGate$Services" "TicketGate$Table" "get" "(II)I" ∈ Wg := t3_in (List.mem_of_getElem? (i := 107) rfl) rfl
theorem wc_252 : Cond.selects RX3 ⟨"TicketGate$Services", "get", "(II)I"⟩ yX6_get ∈ Wg := t3_in (List.mem_of_getElem? (i := 108) rfl) rfl
theorem wc_253 : Cond.methodLink RX5 154 Lib.Math.min.name ∈ Wg := t3_in (List.mem_of_getElem? (i := 57) rfl) rfl
theorem wc_254 : Cond.methodLink RX5 113 yX7_canBeRenewed ∈ Wg := t3_in (List.mem_of_getElem? (i := 93) rfl) rfl
theorem wc_255 : Cond.instanceMethod yX7_canBeRenewed ∈ Wg := t3_in (List.mem_of_getElem? (i := 94) rfl) rfl
theorem wc_256 : Cond.selects RX7 yX7_canBeRenewed yX7_canBeRenewed ∈ Wg := t3_in (List.mem_of_getElem? (i := 95) rfl) rfl
theorem wc_257 : Cond.code yX7_canBeRenewed cX7_canBeRenewed 2 (some .boolean) ∈ Wg := t3_in (List.mem_of_getElem? (i := 96) rfl) rfl
theorem wc_258 : Cond.methodLink RX5 116 yX5_renewedEnd ∈ Wg := t3_in (List.mem_of_getElem? (i := 122) rfl) rfl
theorem wc_259 : Cond.instanceMethod yX5_renewedEnd ∈ Wg := t3_in (List.mem_of_getElem? (i := 124) rfl) rfl
theorem wc_260 : Cond.selects RX5 yX5_renewedEnd yX5_renewedEnd ∈ Wg := p2_in (q := (⟨"TicketGate$State", "renewedEnd", "(I)I"⟩, 10)) (List.mem_of_getElem? (i := 8) rfl)
theorem wc_261 : Cond.code yX5_renewedEnd cX5_renewedEnd 4 (some .int) ∈ Wg := t3_in (List.mem_of_getElem? (i := 125) rfl) rfl
theorem wc_262 : Cond.methodLink RX5 119 yX9_knows ∈ Wg := t3_in (List.mem_of_getElem? (i := 139) rfl) rfl
theorem wc_263 : Cond.instanceMethod yX9_knows ∈ Wg := t3_in (List.mem_of_getElem? (i := 140) rfl) rfl
theorem wc_264 : Cond.selects RX9 yX9_knows yX9_knows ∈ Wg := t3_in (List.mem_of_getElem? (i := 141) rfl) rfl
theorem wc_265 : Cond.initialized RX9 ∈ Wg := t1_in (List.mem_of_getElem? (i := 11) rfl) rfl
theorem wc_266 : Cond.code yX9_knows cX9_knows 7 (some .boolean) ∈ Wg := t3_in (List.mem_of_getElem? (i := 142) rfl) rfl
theorem wc_267 : Cond.methodLink RX5 157 ⟨"TicketGate$Tickets", "addRow", "()I"⟩ ∈ Wg := t3_in (List.mem_of_getElem? (i := 39) rfl) rfl
theorem wc_268 : Cond.sameMethod "TicketGate$Tickets" "TicketGate$Table" "addRow" "()I" ∈ Wg := t3_in (List.mem_of_getElem? (i := 40) rfl) rfl
theorem wc_269 : Cond.selects RX7 ⟨"TicketGate$Tickets", "addRow", "()I"⟩ yX6_addRow ∈ Wg := t3_in (List.mem_of_getElem? (i := 41) rfl) rfl
theorem wc_270 : Cond.methodLink RX5 136 ⟨"TicketGate$Tickets", "set", "(III)V"⟩ ∈ Wg := t3_in (List.mem_of_getElem? (i := 42) rfl) rfl
theorem wc_271 : Cond.sameMethod "TicketGate$Tickets" "TicketGate$Table" "set" "(III)V" ∈ Wg := t3_in (List.mem_of_getElem? (i := 43) rfl) rfl
theorem wc_272 : Cond.selects RX7 ⟨"TicketGate$Tickets", "set", "(III)V"⟩ yX6_set ∈ Wg := t3_in (List.mem_of_getElem? (i := 44) rfl) rfl
theorem wc_273 : Cond.methodLink RX5 140 yX5_drawKey ∈ Wg := t3_in (List.mem_of_getElem? (i := 45) rfl) rfl
theorem wc_274 : Cond.instanceMethod yX5_drawKey ∈ Wg := t3_in (List.mem_of_getElem? (i := 47) rfl) rfl
theorem wc_275 : Cond.selects RX5 yX5_drawKey yX5_drawKey ∈ Wg := p2_in (q := (⟨"TicketGate$State", "drawKey", "()I"⟩, 10)) (List.mem_of_getElem? (i := 0) rfl)
theorem wc_276 : Cond.code yX5_drawKey cX5_drawKey 1 (some .int) ∈ Wg := t3_in (List.mem_of_getElem? (i := 48) rfl) rfl
theorem wc_277 : Cond.methodLink RX5 160 Lib.Math.max.name ∈ Wg := t3_in (List.mem_of_getElem? (i := 58) rfl) rfl
theorem wc_278 : Cond.static Lib.Math.max.name ∈ Wg := t1_in (List.mem_of_getElem? (i := 42) rfl) rfl
theorem wc_279 : Cond.code Lib.Math.max.name Lib.Math.max.code 2 (some .int) ∈ Wg := t1_in (List.mem_of_getElem? (i := 43) rfl) rfl
theorem wc_280 : Cond.methodLink RX5 123 yX5_makeTicket ∈ Wg := t3_in (List.mem_of_getElem? (i := 35) rfl) rfl
theorem wc_281 : Cond.instanceMethod yX5_makeTicket ∈ Wg := t3_in (List.mem_of_getElem? (i := 37) rfl) rfl
theorem wc_282 : Cond.selects RX5 yX5_makeTicket yX5_makeTicket ∈ Wg := p1_in (q := (⟨"TicketGate$State", "makeTicket", "(III)I"⟩, 10)) (List.mem_of_getElem? (i := 15) rfl)
theorem wc_283 : Cond.code yX5_makeTicket cX5_makeTicket 5 (some .int) ∈ Wg := t3_in (List.mem_of_getElem? (i := 38) rfl) rfl
theorem wc_284 : Cond.constant RX5 127 2147483647 ∈ Wg := t3_in (List.mem_of_getElem? (i := 49) rfl) rfl
theorem wc_285 : Cond.methodLink RX5 128 yX5_setLife ∈ Wg := t3_in (List.mem_of_getElem? (i := 50) rfl) rfl
theorem wc_286 : Cond.instanceMethod yX5_setLife ∈ Wg := t3_in (List.mem_of_getElem? (i := 52) rfl) rfl
theorem wc_287 : Cond.selects RX5 yX5_setLife yX5_setLife ∈ Wg := p2_in (q := (⟨"TicketGate$State", "setLife", "(IZII)V"⟩, 10)) (List.mem_of_getElem? (i := 1) rfl)
theorem wc_288 : Cond.code yX5_setLife cX5_setLife 8 none ∈ Wg := t3_in (List.mem_of_getElem? (i := 53) rfl) rfl
theorem wc_289 : Cond.methodLink RX5 132 yX5_inheritLife ∈ Wg := t3_in (List.mem_of_getElem? (i := 89) rfl) rfl
theorem wc_290 : Cond.instanceMethod yX5_inheritLife ∈ Wg := t3_in (List.mem_of_getElem? (i := 91) rfl) rfl
theorem wc_291 : Cond.selects RX5 yX5_inheritLife yX5_inheritLife ∈ Wg := p2_in (q := (⟨"TicketGate$State", "inheritLife", "(II)V"⟩, 10)) (List.mem_of_getElem? (i := 5) rfl)
theorem wc_292 : Cond.code yX5_inheritLife cX5_inheritLife 4 none ∈ Wg := t3_in (List.mem_of_getElem? (i := 92) rfl) rfl
theorem wc_293 : Cond.methodLink RX5 144 yX9_addUse ∈ Wg := t3_in (List.mem_of_getElem? (i := 156) rfl) rfl
theorem wc_294 : Cond.instanceMethod yX9_addUse ∈ Wg := t3_in (List.mem_of_getElem? (i := 157) rfl) rfl
theorem wc_295 : Cond.selects RX9 yX9_addUse yX9_addUse ∈ Wg := t3_in (List.mem_of_getElem? (i := 158) rfl) rfl
theorem wc_296 : Cond.code yX9_addUse cX9_addUse 6 none ∈ Wg := t3_in (List.mem_of_getElem? (i := 159) rfl) rfl
theorem wc_297 : Cond.methodLink RX5 148 ⟨"TicketGate$Services", "set", "(III)V"⟩ ∈ Wg := t3_in (List.mem_of_getElem? (i := 175) rfl) rfl
theorem wc_298 : Cond.methodLink RX5 149 ⟨"TicketGate$Users", "set", "(III)V"⟩ ∈ Wg := t3_in (List.mem_of_getElem? (i := 176) rfl) rfl
theorem wc_299 : Cond.methodLink RX5 150 yX9_forgetBefore ∈ Wg := t3_in (List.mem_of_getElem? (i := 208) rfl) rfl
theorem wc_300 : Cond.instanceMethod yX9_forgetBefore ∈ Wg := t3_in (List.mem_of_getElem? (i := 209) rfl) rfl
theorem wc_301 : Cond.selects RX9 yX9_forgetBefore yX9_forgetBefore ∈ Wg := t3_in (List.mem_of_getElem? (i := 210) rfl) rfl
theorem wc_302 : Cond.code yX9_forgetBefore cX9_forgetBefore 3 none ∈ Wg := t3_in (List.mem_of_getElem? (i := 211) rfl) rfl
theorem wc_303 : Cond.laysFinal RX1 "TicketGate$Parser" "text" "LTicketGate$Bytes;" ∈ Wg := t1_in (List.mem_of_getElem? (i := 187) rfl) rfl
theorem wc_304 : Cond.laysFinal RX1 "TicketGate$Parser" "draft" "LTicketGate$State;" ∈ Wg := t1_in (List.mem_of_getElem? (i := 189) rfl) rfl
theorem wc_305 : Cond.lays RX1 "TicketGate$Parser" "start" "I" ∈ Wg := t1_in (List.mem_of_getElem? (i := 191) rfl) rfl
theorem wc_306 : Cond.lays RX1 "TicketGate$Parser" "end" "I" ∈ Wg := t1_in (List.mem_of_getElem? (i := 193) rfl) rfl
theorem wc_307 : Cond.lays RX1 "TicketGate$Parser" "kind" "I" ∈ Wg := t1_in (List.mem_of_getElem? (i := 195) rfl) rfl
theorem wc_308 : Cond.lays RX1 "TicketGate$Parser" "value" "I" ∈ Wg := t1_in (List.mem_of_getElem? (i := 197) rfl) rfl
theorem wc_309 : Cond.lays RX1 "TicketGate$Parser" "error" "I" ∈ Wg := t1_in (List.mem_of_getElem? (i := 199) rfl) rfl
theorem wc_310 : Cond.lays RX1 "TicketGate$Parser" "errorAt" "I" ∈ Wg := t1_in (List.mem_of_getElem? (i := 201) rfl) rfl
theorem wc_311 : Cond.fieldLink RX1 151 "TicketGate$Parser" "value" "I" ∈ Wg := t1_in (List.mem_of_getElem? (i := 182) rfl) rfl
theorem wc_312 : Cond.fieldLink RX1 29 "TicketGate$Parser" "error" "I" ∈ Wg := t1_in (List.mem_of_getElem? (i := 183) rfl) rfl
theorem wc_313 : Cond.fieldLink RX1 22 "TicketGate$Parser" "text" "LTicketGate$Bytes;" ∈ Wg := t1_in (List.mem_of_getElem? (i := 176) rfl) rfl
theorem wc_314 : Cond.fieldLink RX1 26 "TicketGate$Parser" "end" "I" ∈ Wg := t1_in (List.mem_of_getElem? (i := 180) rfl) rfl
theorem wc_315 : Cond.methodLink RX1 266 yX0_endOfBlanks ∈ Wg := t2_in (List.mem_of_getElem? (i := 48) rfl) rfl
theorem wc_316 : Cond.instanceMethod yX0_endOfBlanks ∈ Wg := t2_in (List.mem_of_getElem? (i := 49) rfl) rfl
theorem wc_317 : Cond.selects RX0 yX0_endOfBlanks yX0_endOfBlanks ∈ Wg := t2_in (List.mem_of_getElem? (i := 50) rfl) rfl
theorem wc_318 : Cond.code yX0_endOfBlanks cX0_endOfBlanks 3 (some .int) ∈ Wg := t2_in (List.mem_of_getElem? (i := 51) rfl) rfl
theorem wc_319 : Cond.fieldLink RX1 257 "TicketGate$Parser" "start" "I" ∈ Wg := t1_in (List.mem_of_getElem? (i := 179) rfl) rfl
theorem wc_320 : Cond.methodLink RX1 269 yX0_at ∈ Wg := t2_in (List.mem_of_getElem? (i := 56) rfl) rfl
theorem wc_321 : Cond.fieldLink RX1 39 "TicketGate$Parser" "kind" "I" ∈ Wg := t1_in (List.mem_of_getElem? (i := 181) rfl) rfl
theorem wc_322 : Cond.methodLink RX1 272 yX0_endOfRun ∈ Wg := t2_in (List.mem_of_getElem? (i := 57) rfl) rfl
theorem wc_323 : Cond.instanceMethod yX0_endOfRun ∈ Wg := t2_in (List.mem_of_getElem? (i := 58) rfl) rfl
theorem wc_324 : Cond.selects RX0 yX0_endOfRun yX0_endOfRun ∈ Wg := t2_in (List.mem_of_getElem? (i := 59) rfl) rfl
theorem wc_325 : Cond.code yX0_endOfRun cX0_endOfRun 5 (some .int) ∈ Wg := t2_in (List.mem_of_getElem? (i := 60) rfl) rfl
theorem wc_326 : Cond.methodLink RX1 279 yX0_numberBetween ∈ Wg := t2_in (List.mem_of_getElem? (i := 65) rfl) rfl
theorem wc_327 : Cond.instanceMethod yX0_numberBetween ∈ Wg := t2_in (List.mem_of_getElem? (i := 66) rfl) rfl
theorem wc_328 : Cond.selects RX0 yX0_numberBetween yX0_numberBetween ∈ Wg := t2_in (List.mem_of_getElem? (i := 67) rfl) rfl
theorem wc_329 : Cond.code yX0_numberBetween cX0_numberBetween 5 (some .int) ∈ Wg := t2_in (List.mem_of_getElem? (i := 68) rfl) rfl
theorem wc_330 : Cond.methodLink RX1 276 yX0_nameBetween ∈ Wg := t2_in (List.mem_of_getElem? (i := 61) rfl) rfl
theorem wc_331 : Cond.instanceMethod yX0_nameBetween ∈ Wg := t2_in (List.mem_of_getElem? (i := 62) rfl) rfl
theorem wc_332 : Cond.selects RX0 yX0_nameBetween yX0_nameBetween ∈ Wg := t2_in (List.mem_of_getElem? (i := 63) rfl) rfl
theorem wc_333 : Cond.code yX0_nameBetween cX0_nameBetween 6 (some .int) ∈ Wg := t2_in (List.mem_of_getElem? (i := 64) rfl) rfl
theorem wc_334 : Cond.methodLink RX1 260 yX0_isText ∈ Wg := t2_in (List.mem_of_getElem? (i := 82) rfl) rfl
theorem wc_335 : Cond.instanceMethod yX0_isText ∈ Wg := t2_in (List.mem_of_getElem? (i := 83) rfl) rfl
theorem wc_336 : Cond.selects RX0 yX0_isText yX0_isText ∈ Wg := t2_in (List.mem_of_getElem? (i := 84) rfl) rfl
theorem wc_337 : Cond.code yX0_isText cX0_isText 6 (some .boolean) ∈ Wg := t2_in (List.mem_of_getElem? (i := 85) rfl) rfl
theorem wc_338 : Cond.fieldLink RX1 18 "TicketGate$Parser" "errorAt" "I" ∈ Wg := t1_in (List.mem_of_getElem? (i := 185) rfl) rfl
theorem wc_339 : Cond.methodLink RX1 109 yX1_require ∈ Wg := t2_in (List.mem_of_getElem? (i := 86) rfl) rfl
theorem wc_340 : Cond.instanceMethod yX1_require ∈ Wg := t2_in (List.mem_of_getElem? (i := 88) rfl) rfl
theorem wc_341 : Cond.selects RX1 yX1_require yX1_require ∈ Wg := p1_in (q := (⟨"TicketGate$Parser", "require", "(ZI)V"⟩, 8)) (List.mem_of_getElem? (i := 3) rfl)
theorem wc_342 : Cond.initialized RX1 ∈ Wg := t1_in (List.mem_of_getElem? (i := 4) rfl) rfl
theorem wc_343 : Cond.code yX1_require cX1_require 3 none ∈ Wg := t2_in (List.mem_of_getElem? (i := 89) rfl) rfl
theorem wc_344 : Cond.methodLink RX1 32 yX1_take ∈ Wg := t2_in (List.mem_of_getElem? (i := 44) rfl) rfl
theorem wc_345 : Cond.instanceMethod yX1_take ∈ Wg := t2_in (List.mem_of_getElem? (i := 46) rfl) rfl
theorem wc_346 : Cond.selects RX1 yX1_take yX1_take ∈ Wg := p1_in (q := (⟨"TicketGate$Parser", "take", "()I"⟩, 8)) (List.mem_of_getElem? (i := 0) rfl)
theorem wc_347 : Cond.code yX1_take cX1_take 3 (some .int) ∈ Wg := t2_in (List.mem_of_getElem? (i := 47) rfl) rfl
theorem wc_348 : Cond.methodLink RX1 47 yX1_isWord ∈ Wg := t2_in (List.mem_of_getElem? (i := 78) rfl) rfl
theorem wc_349 : Cond.instanceMethod yX1_isWord ∈ Wg := t2_in (List.mem_of_getElem? (i := 80) rfl) rfl
theorem wc_350 : Cond.selects RX1 yX1_isWord yX1_isWord ∈ Wg := p1_in (q := (⟨"TicketGate$Parser", "isWord", "(Ljava/lang/String;)Z"⟩, 8)) (List.mem_of_getElem? (i := 2) rfl)
theorem wc_351 : Cond.code yX1_isWord cX1_isWord 2 (some .boolean) ∈ Wg := t2_in (List.mem_of_getElem? (i := 81) rfl) rfl
theorem wc_352 : Cond.methodLink RX1 115 yX1_number ∈ Wg := t2_in (List.mem_of_getElem? (i := 90) rfl) rfl
theorem wc_353 : Cond.instanceMethod yX1_number ∈ Wg := t2_in (List.mem_of_getElem? (i := 92) rfl) rfl
theorem wc_354 : Cond.selects RX1 yX1_number yX1_number ∈ Wg := p1_in (q := (⟨"TicketGate$Parser", "number", "(II)I"⟩, 8)) (List.mem_of_getElem? (i := 4) rfl)
theorem wc_355 : Cond.code yX1_number cX1_number 3 (some .int) ∈ Wg := t2_in (List.mem_of_getElem? (i := 93) rfl) rfl
theorem wc_356 : Cond.methodLink RX1 119 yX1_semicolon ∈ Wg := t2_in (List.mem_of_getElem? (i := 94) rfl) rfl
theorem wc_357 : Cond.instanceMethod yX1_semicolon ∈ Wg := t2_in (List.mem_of_getElem? (i := 96) rfl) rfl
theorem wc_358 : Cond.selects RX1 yX1_semicolon yX1_semicolon ∈ Wg := p1_in (q := (⟨"TicketGate$Parser", "semicolon", "(Z)Z"⟩, 8)) (List.mem_of_getElem? (i := 5) rfl)
theorem wc_359 : Cond.code yX1_semicolon cX1_semicolon 2 (some .boolean) ∈ Wg := t2_in (List.mem_of_getElem? (i := 97) rfl) rfl
theorem wc_360 : Cond.fieldLink RX1 12 "TicketGate$Parser" "draft" "LTicketGate$State;" ∈ Wg := t1_in (List.mem_of_getElem? (i := 177) rfl) rfl
theorem wc_361 : Cond.methodLink RX1 123 yX5_begin ∈ Wg := t2_in (List.mem_of_getElem? (i := 98) rfl) rfl
theorem wc_362 : Cond.instanceMethod yX5_begin ∈ Wg := t2_in (List.mem_of_getElem? (i := 99) rfl) rfl
theorem wc_363 : Cond.selects RX5 yX5_begin yX5_begin ∈ Wg := t2_in (List.mem_of_getElem? (i := 100) rfl) rfl
theorem wc_364 : Cond.code yX5_begin cX5_begin 3 none ∈ Wg := t2_in (List.mem_of_getElem? (i := 101) rfl) rfl
theorem wc_365 : Cond.methodLink RX1 241 yX5_letPass ∈ Wg := t3_in (List.mem_of_getElem? (i := 204) rfl) rfl
theorem wc_366 : Cond.instanceMethod yX5_letPass ∈ Wg := t3_in (List.mem_of_getElem? (i := 205) rfl) rfl
theorem wc_367 : Cond.selects RX5 yX5_letPass yX5_letPass ∈ Wg := t3_in (List.mem_of_getElem? (i := 206) rfl) rfl
theorem wc_368 : Cond.code yX5_letPass cX5_letPass 2 none ∈ Wg := t3_in (List.mem_of_getElem? (i := 207) rfl) rfl
theorem wc_369 : Cond.methodLink RX1 238 yX7_removeDead ∈ Wg := t3_in (List.mem_of_getElem? (i := 190) rfl) rfl
theorem wc_370 : Cond.instanceMethod yX7_removeDead ∈ Wg := t3_in (List.mem_of_getElem? (i := 191) rfl) rfl
theorem wc_371 : Cond.selects RX7 yX7_removeDead yX7_removeDead ∈ Wg := t3_in (List.mem_of_getElem? (i := 192) rfl) rfl
theorem wc_372 : Cond.code yX7_removeDead cX7_removeDead 4 (some .int) ∈ Wg := t3_in (List.mem_of_getElem? (i := 193) rfl) rfl
theorem wc_373 : Cond.selects RX7 ⟨"TicketGate$Table", "get", "(II)I"⟩ yX6_get ∈ Wg := t2_in (List.mem_of_getElem? (i := 154) rfl) rfl
theorem wc_374 : Cond.methodLink RX1 250 ⟨"TicketGate$Tickets", "rowWith", "(II)I"⟩ ∈ Wg := t3_in (List.mem_of_getElem? (i := 68) rfl) rfl
theorem wc_375 : Cond.sameMethod "TicketGate$Tickets" "TicketGate$Table" "rowWith" "(II)I" ∈ Wg := t3_in (List.mem_of_getElem? (i := 69) rfl) rfl
theorem wc_376 : Cond.selects RX7 ⟨"TicketGate$Tickets", "rowWith", "(II)I"⟩ yX6_rowWith ∈ Wg := t3_in (List.mem_of_getElem? (i := 70) rfl) rfl
theorem wc_377 : Cond.methodLink RX1 197 yX1_knownTicket ∈ Wg := t3_in (List.mem_of_getElem? (i := 64) rfl) rfl
theorem wc_378 : Cond.instanceMethod yX1_knownTicket ∈ Wg := t3_in (List.mem_of_getElem? (i := 66) rfl) rfl
theorem wc_379 : Cond.selects RX1 yX1_knownTicket yX1_knownTicket ∈ Wg := p2_in (q := (⟨"TicketGate$Parser", "knownTicket", "()I"⟩, 8)) (List.mem_of_getElem? (i := 3) rfl)
theorem wc_380 : Cond.code yX1_knownTicket cX1_knownTicket 2 (some .int) ∈ Wg := t3_in (List.mem_of_getElem? (i := 67) rfl) rfl
theorem wc_381 : Cond.methodLink RX1 229 ⟨"TicketGate$Tickets", "removeRow", "(I)V"⟩ ∈ Wg := t3_in (List.mem_of_getElem? (i := 182) rfl) rfl
theorem wc_382 : Cond.methodLink RX1 219 yX5_whyNoCheese ∈ Wg := t3_in (List.mem_of_getElem? (i := 135) rfl) rfl
theorem wc_383 : Cond.instanceMethod yX5_whyNoCheese ∈ Wg := t3_in (List.mem_of_getElem? (i := 136) rfl) rfl
theorem wc_384 : Cond.selects RX5 yX5_whyNoCheese yX5_whyNoCheese ∈ Wg := t3_in (List.mem_of_getElem? (i := 137) rfl) rfl
theorem wc_385 : Cond.code yX5_whyNoCheese cX5_whyNoCheese 6 (some .int) ∈ Wg := t3_in (List.mem_of_getElem? (i := 138) rfl) rfl
theorem wc_386 : Cond.methodLink RX1 222 yX5_giveCheese ∈ Wg := t3_in (List.mem_of_getElem? (i := 152) rfl) rfl
theorem wc_387 : Cond.instanceMethod yX5_giveCheese ∈ Wg := t3_in (List.mem_of_getElem? (i := 153) rfl) rfl
theorem wc_388 : Cond.selects RX5 yX5_giveCheese yX5_giveCheese ∈ Wg := t3_in (List.mem_of_getElem? (i := 154) rfl) rfl
theorem wc_389 : Cond.code yX5_giveCheese cX5_giveCheese 5 (some .int) ∈ Wg := t3_in (List.mem_of_getElem? (i := 155) rfl) rfl
theorem wc_390 : Cond.methodLink RX1 212 yX5_whyNoRenewal ∈ Wg := t3_in (List.mem_of_getElem? (i := 118) rfl) rfl
theorem wc_391 : Cond.instanceMethod yX5_whyNoRenewal ∈ Wg := t3_in (List.mem_of_getElem? (i := 119) rfl) rfl
theorem wc_392 : Cond.selects RX5 yX5_whyNoRenewal yX5_whyNoRenewal ∈ Wg := t3_in (List.mem_of_getElem? (i := 120) rfl) rfl
theorem wc_393 : Cond.code yX5_whyNoRenewal cX5_whyNoRenewal 2 (some .int) ∈ Wg := t3_in (List.mem_of_getElem? (i := 121) rfl) rfl
theorem wc_394 : Cond.methodLink RX1 216 yX5_makeRenewal ∈ Wg := t3_in (List.mem_of_getElem? (i := 126) rfl) rfl
theorem wc_395 : Cond.instanceMethod yX5_makeRenewal ∈ Wg := t3_in (List.mem_of_getElem? (i := 127) rfl) rfl
theorem wc_396 : Cond.selects RX5 yX5_makeRenewal yX5_makeRenewal ∈ Wg := t3_in (List.mem_of_getElem? (i := 128) rfl) rfl
theorem wc_397 : Cond.code yX5_makeRenewal cX5_makeRenewal 3 (some .int) ∈ Wg := t3_in (List.mem_of_getElem? (i := 129) rfl) rfl
theorem wc_398 : Cond.methodLink RX1 247 ⟨"TicketGate$Table", "rowWith", "(II)I"⟩ ∈ Wg := t2_in (List.mem_of_getElem? (i := 197) rfl) rfl
theorem wc_399 : Cond.sameMethod "TicketGate$Table" "TicketGate$Table" "rowWith" "(II)I" ∈ Wg := t9_in (List.mem_of_getElem? (i := 237) rfl) rfl
theorem wc_400 : Cond.selects RX3 ⟨"TicketGate$Table", "rowWith", "(II)I"⟩ yX6_rowWith ∈ Wg := t9_in (List.mem_of_getElem? (i := 239) rfl) rfl
theorem wc_401 : Cond.methodLink RX1 147 yX1_knownName ∈ Wg := t2_in (List.mem_of_getElem? (i := 193) rfl) rfl
theorem wc_402 : Cond.instanceMethod yX1_knownName ∈ Wg := t2_in (List.mem_of_getElem? (i := 195) rfl) rfl
theorem wc_403 : Cond.selects RX1 yX1_knownName yX1_knownName ∈ Wg := p1_in (q := (⟨"TicketGate$Parser", "knownName", "(LTicketGate$Table;I)I"⟩, 8)) (List.mem_of_getElem? (i := 11) rfl)
theorem wc_404 : Cond.code yX1_knownName cX1_knownName 4 (some .int) ∈ Wg := t2_in (List.mem_of_getElem? (i := 196) rfl) rfl
theorem wc_405 : Cond.methodLink RX1 206 yX5_whyNoRequest ∈ Wg := t3_in (List.mem_of_getElem? (i := 102) rfl) rfl
theorem wc_406 : Cond.instanceMethod yX5_whyNoRequest ∈ Wg := t3_in (List.mem_of_getElem? (i := 103) rfl) rfl
theorem wc_407 : Cond.selects RX5 yX5_whyNoRequest yX5_whyNoRequest ∈ Wg := t3_in (List.mem_of_getElem? (i := 104) rfl) rfl
theorem wc_408 : Cond.code yX5_whyNoRequest cX5_whyNoRequest 3 (some .int) ∈ Wg := t3_in (List.mem_of_getElem? (i := 105) rfl) rfl
theorem wc_409 : Cond.methodLink RX1 209 yX5_makeRequest ∈ Wg := t3_in (List.mem_of_getElem? (i := 109) rfl) rfl
theorem wc_410 : Cond.instanceMethod yX5_makeRequest ∈ Wg := t3_in (List.mem_of_getElem? (i := 110) rfl) rfl
theorem wc_411 : Cond.selects RX5 yX5_makeRequest yX5_makeRequest ∈ Wg := t3_in (List.mem_of_getElem? (i := 111) rfl) rfl
theorem wc_412 : Cond.code yX5_makeRequest cX5_makeRequest 5 (some .int) ∈ Wg := t3_in (List.mem_of_getElem? (i := 112) rfl) rfl
theorem wc_413 : Cond.selects RX2 ⟨"TicketGate$Table", "rowWith", "(II)I"⟩ yX6_rowWith ∈ Wg := t9_in (List.mem_of_getElem? (i := 238) rfl) rfl
theorem wc_414 : Cond.methodLink RX1 200 yX5_whyNoReferral ∈ Wg := t3_in (List.mem_of_getElem? (i := 71) rfl) rfl
theorem wc_415 : Cond.instanceMethod yX5_whyNoReferral ∈ Wg := t3_in (List.mem_of_getElem? (i := 72) rfl) rfl
theorem wc_416 : Cond.selects RX5 yX5_whyNoReferral yX5_whyNoReferral ∈ Wg := t3_in (List.mem_of_getElem? (i := 73) rfl) rfl
theorem wc_417 : Cond.code yX5_whyNoReferral cX5_whyNoReferral 3 (some .int) ∈ Wg := t3_in (List.mem_of_getElem? (i := 74) rfl) rfl
theorem wc_418 : Cond.methodLink RX1 203 yX5_makeReferral ∈ Wg := t3_in (List.mem_of_getElem? (i := 85) rfl) rfl
theorem wc_419 : Cond.instanceMethod yX5_makeReferral ∈ Wg := t3_in (List.mem_of_getElem? (i := 86) rfl) rfl
theorem wc_420 : Cond.selects RX5 yX5_makeReferral yX5_makeReferral ∈ Wg := t3_in (List.mem_of_getElem? (i := 87) rfl) rfl
theorem wc_421 : Cond.code yX5_makeReferral cX5_makeReferral 4 (some .int) ∈ Wg := t3_in (List.mem_of_getElem? (i := 88) rfl) rfl
theorem wc_422 : Cond.selects RX8 ⟨"TicketGate$Table", "rowWith", "(II)I"⟩ yX6_rowWith ∈ Wg := t10_in (List.mem_of_getElem? (i := 1) rfl) rfl
theorem wc_423 : Cond.methodLink RX1 190 yX5_whyNoLogin ∈ Wg := t3_in (List.mem_of_getElem? (i := 13) rfl) rfl
theorem wc_424 : Cond.instanceMethod yX5_whyNoLogin ∈ Wg := t3_in (List.mem_of_getElem? (i := 14) rfl) rfl
theorem wc_425 : Cond.selects RX5 yX5_whyNoLogin yX5_whyNoLogin ∈ Wg := t3_in (List.mem_of_getElem? (i := 15) rfl) rfl
theorem wc_426 : Cond.code yX5_whyNoLogin cX5_whyNoLogin 3 (some .int) ∈ Wg := t3_in (List.mem_of_getElem? (i := 16) rfl) rfl
theorem wc_427 : Cond.methodLink RX1 193 yX5_makeLogin ∈ Wg := t3_in (List.mem_of_getElem? (i := 31) rfl) rfl
theorem wc_428 : Cond.instanceMethod yX5_makeLogin ∈ Wg := t3_in (List.mem_of_getElem? (i := 32) rfl) rfl
theorem wc_429 : Cond.selects RX5 yX5_makeLogin yX5_makeLogin ∈ Wg := t3_in (List.mem_of_getElem? (i := 33) rfl) rfl
theorem wc_430 : Cond.code yX5_makeLogin cX5_makeLogin 4 (some .int) ∈ Wg := t3_in (List.mem_of_getElem? (i := 34) rfl) rfl
theorem wc_431 : Cond.methodLink RX1 244 yX5_codeOfName ∈ Wg := t2_in (List.mem_of_getElem? (i := 139) rfl) rfl
theorem wc_432 : Cond.instanceMethod yX5_codeOfName ∈ Wg := t2_in (List.mem_of_getElem? (i := 140) rfl) rfl
theorem wc_433 : Cond.selects RX5 yX5_codeOfName yX5_codeOfName ∈ Wg := t2_in (List.mem_of_getElem? (i := 141) rfl) rfl
theorem wc_434 : Cond.code yX5_codeOfName cX5_codeOfName 5 (some .int) ∈ Wg := t2_in (List.mem_of_getElem? (i := 142) rfl) rfl
theorem wc_435 : Cond.methodLink RX1 178 ⟨"TicketGate$Services", "isFull", "()Z"⟩ ∈ Wg := t2_in (List.mem_of_getElem? (i := 234) rfl) rfl
theorem wc_436 : Cond.sameMethod "TicketGate$Services" "TicketGate$Table" "isFull" "()Z" ∈ Wg := t2_in (List.mem_of_getElem? (i := 235) rfl) rfl
theorem wc_437 : Cond.selects RX3 ⟨"TicketGate$Services", "isFull", "()Z"⟩ yX6_isFull ∈ Wg := t2_in (List.mem_of_getElem? (i := 236) rfl) rfl
theorem wc_438 : Cond.methodLink RX1 137 yX1_newName ∈ Wg := t2_in (List.mem_of_getElem? (i := 135) rfl) rfl
theorem wc_439 : Cond.instanceMethod yX1_newName ∈ Wg := t2_in (List.mem_of_getElem? (i := 137) rfl) rfl
theorem wc_440 : Cond.selects RX1 yX1_newName yX1_newName ∈ Wg := p1_in (q := (⟨"TicketGate$Parser", "newName", "()I"⟩, 8)) (List.mem_of_getElem? (i := 8) rfl)
theorem wc_441 : Cond.code yX1_newName cX1_newName 1 (some .int) ∈ Wg := t2_in (List.mem_of_getElem? (i := 138) rfl) rfl
theorem wc_442 : Cond.methodLink RX1 181 yX3_addService ∈ Wg := t2_in (List.mem_of_getElem? (i := 237) rfl) rfl
theorem wc_443 : Cond.instanceMethod yX3_addService ∈ Wg := t2_in (List.mem_of_getElem? (i := 238) rfl) rfl
theorem wc_444 : Cond.selects RX3 yX3_addService yX3_addService ∈ Wg := t2_in (List.mem_of_getElem? (i := 239) rfl) rfl
theorem wc_445 : Cond.initialized RX3 ∈ Wg := t1_in (List.mem_of_getElem? (i := 9) rfl) rfl
theorem wc_446 : Cond.code yX3_addService cX3_addService 5 none ∈ Wg := t3_in (List.mem_of_getElem? (i := 0) rfl) rfl
theorem wc_447 : Cond.methodLink RX1 168 ⟨"TicketGate$Users", "isFull", "()Z"⟩ ∈ Wg := t2_in (List.mem_of_getElem? (i := 216) rfl) rfl
theorem wc_448 : Cond.sameMethod "TicketGate$Users" "TicketGate$Table" "isFull" "()Z" ∈ Wg := t2_in (List.mem_of_getElem? (i := 217) rfl) rfl
theorem wc_449 : Cond.selects RX8 ⟨"TicketGate$Users", "isFull", "()Z"⟩ yX6_isFull ∈ Wg := t2_in (List.mem_of_getElem? (i := 218) rfl) rfl
theorem wc_450 : Cond.methodLink RX1 140 yX1_clockWord ∈ Wg := t2_in (List.mem_of_getElem? (i := 165) rfl) rfl
theorem wc_451 : Cond.instanceMethod yX1_clockWord ∈ Wg := t2_in (List.mem_of_getElem? (i := 167) rfl) rfl
theorem wc_452 : Cond.selects RX1 yX1_clockWord yX1_clockWord ∈ Wg := p1_in (q := (⟨"TicketGate$Parser", "clockWord", "()I"⟩, 8)) (List.mem_of_getElem? (i := 9) rfl)
theorem wc_453 : Cond.code yX1_clockWord cX1_clockWord 3 (some .int) ∈ Wg := t2_in (List.mem_of_getElem? (i := 168) rfl) rfl
theorem wc_454 : Cond.methodLink RX1 171 yX8_addUser ∈ Wg := t2_in (List.mem_of_getElem? (i := 219) rfl) rfl
theorem wc_455 : Cond.instanceMethod yX8_addUser ∈ Wg := t2_in (List.mem_of_getElem? (i := 220) rfl) rfl
theorem wc_456 : Cond.selects RX8 yX8_addUser yX8_addUser ∈ Wg := t2_in (List.mem_of_getElem? (i := 221) rfl) rfl
theorem wc_457 : Cond.initialized RX8 ∈ Wg := t1_in (List.mem_of_getElem? (i := 8) rfl) rfl
theorem wc_458 : Cond.code yX8_addUser cX8_addUser 6 none ∈ Wg := t2_in (List.mem_of_getElem? (i := 222) rfl) rfl
theorem wc_459 : Cond.methodLink RX1 154 ⟨"TicketGate$Realms", "rowWith", "(II)I"⟩ ∈ Wg := t2_in (List.mem_of_getElem? (i := 198) rfl) rfl
theorem wc_460 : Cond.methodLink RX1 157 yX2_hasTrust ∈ Wg := t2_in (List.mem_of_getElem? (i := 199) rfl) rfl
theorem wc_461 : Cond.methodLink RX1 161 yX2_addTrust ∈ Wg := t2_in (List.mem_of_getElem? (i := 207) rfl) rfl
theorem wc_462 : Cond.instanceMethod yX2_addTrust ∈ Wg := t2_in (List.mem_of_getElem? (i := 208) rfl) rfl
theorem wc_463 : Cond.selects RX2 yX2_addTrust yX2_addTrust ∈ Wg := t2_in (List.mem_of_getElem? (i := 209) rfl) rfl
theorem wc_464 : Cond.code yX2_addTrust cX2_addTrust 3 none ∈ Wg := t2_in (List.mem_of_getElem? (i := 210) rfl) rfl
theorem wc_465 : Cond.methodLink RX1 131 ⟨"TicketGate$Realms", "isFull", "()Z"⟩ ∈ Wg := t2_in (List.mem_of_getElem? (i := 129) rfl) rfl
theorem wc_466 : Cond.sameMethod "TicketGate$Realms" "TicketGate$Table" "isFull" "()Z" ∈ Wg := t2_in (List.mem_of_getElem? (i := 130) rfl) rfl
theorem wc_467 : Cond.selects RX2 ⟨"TicketGate$Realms", "isFull", "()Z"⟩ yX6_isFull ∈ Wg := t2_in (List.mem_of_getElem? (i := 132) rfl) rfl
theorem wc_468 : Cond.methodLink RX1 143 yX2_addRealm ∈ Wg := t2_in (List.mem_of_getElem? (i := 172) rfl) rfl
theorem wc_469 : Cond.instanceMethod yX2_addRealm ∈ Wg := t2_in (List.mem_of_getElem? (i := 173) rfl) rfl
theorem wc_470 : Cond.selects RX2 yX2_addRealm yX2_addRealm ∈ Wg := t2_in (List.mem_of_getElem? (i := 174) rfl) rfl
theorem wc_471 : Cond.code yX2_addRealm cX2_addRealm 6 none ∈ Wg := t2_in (List.mem_of_getElem? (i := 175) rfl) rfl
theorem wc_472 : Cond.methodLink RX1 106 yX1_readPass ∈ Wg := t3_in (List.mem_of_getElem? (i := 200) rfl) rfl
theorem wc_473 : Cond.instanceMethod yX1_readPass ∈ Wg := t3_in (List.mem_of_getElem? (i := 202) rfl) rfl
theorem wc_474 : Cond.selects RX1 yX1_readPass yX1_readPass ∈ Wg := p2_in (q := (⟨"TicketGate$Parser", "readPass", "()V"⟩, 8)) (List.mem_of_getElem? (i := 12) rfl)
theorem wc_475 : Cond.code yX1_readPass cX1_readPass 2 none ∈ Wg := t3_in (List.mem_of_getElem? (i := 203) rfl) rfl
theorem wc_476 : Cond.methodLink RX1 101 yX1_readSweep ∈ Wg := t3_in (List.mem_of_getElem? (i := 186) rfl) rfl
theorem wc_477 : Cond.instanceMethod yX1_readSweep ∈ Wg := t3_in (List.mem_of_getElem? (i := 188) rfl) rfl
theorem wc_478 : Cond.selects RX1 yX1_readSweep yX1_readSweep ∈ Wg := p2_in (q := (⟨"TicketGate$Parser", "readSweep", "()V"⟩, 8)) (List.mem_of_getElem? (i := 11) rfl)
theorem wc_479 : Cond.code yX1_readSweep cX1_readSweep 1 none ∈ Wg := t3_in (List.mem_of_getElem? (i := 189) rfl) rfl
theorem wc_480 : Cond.methodLink RX1 96 yX1_readDrop ∈ Wg := t3_in (List.mem_of_getElem? (i := 178) rfl) rfl
theorem wc_481 : Cond.instanceMethod yX1_readDrop ∈ Wg := t3_in (List.mem_of_getElem? (i := 180) rfl) rfl
theorem wc_482 : Cond.selects RX1 yX1_readDrop yX1_readDrop ∈ Wg := p2_in (q := (⟨"TicketGate$Parser", "readDrop", "()V"⟩, 8)) (List.mem_of_getElem? (i := 10) rfl)
theorem wc_483 : Cond.code yX1_readDrop cX1_readDrop 2 none ∈ Wg := t3_in (List.mem_of_getElem? (i := 181) rfl) rfl
theorem wc_484 : Cond.methodLink RX1 91 yX1_readCheese ∈ Wg := t3_in (List.mem_of_getElem? (i := 131) rfl) rfl
theorem wc_485 : Cond.instanceMethod yX1_readCheese ∈ Wg := t3_in (List.mem_of_getElem? (i := 133) rfl) rfl
theorem wc_486 : Cond.selects RX1 yX1_readCheese yX1_readCheese ∈ Wg := p2_in (q := (⟨"TicketGate$Parser", "readCheese", "()V"⟩, 8)) (List.mem_of_getElem? (i := 9) rfl)
theorem wc_487 : Cond.code yX1_readCheese cX1_readCheese 2 none ∈ Wg := t3_in (List.mem_of_getElem? (i := 134) rfl) rfl
theorem wc_488 : Cond.methodLink RX1 86 yX1_readRenew ∈ Wg := t3_in (List.mem_of_getElem? (i := 114) rfl) rfl
theorem wc_489 : Cond.instanceMethod yX1_readRenew ∈ Wg := t3_in (List.mem_of_getElem? (i := 116) rfl) rfl
theorem wc_490 : Cond.selects RX1 yX1_readRenew yX1_readRenew ∈ Wg := p2_in (q := (⟨"TicketGate$Parser", "readRenew", "()V"⟩, 8)) (List.mem_of_getElem? (i := 7) rfl)
theorem wc_491 : Cond.code yX1_readRenew cX1_readRenew 2 none ∈ Wg := t3_in (List.mem_of_getElem? (i := 117) rfl) rfl
theorem wc_492 : Cond.methodLink RX1 81 yX1_readRequest ∈ Wg := t3_in (List.mem_of_getElem? (i := 98) rfl) rfl
theorem wc_493 : Cond.instanceMethod yX1_readRequest ∈ Wg := t3_in (List.mem_of_getElem? (i := 100) rfl) rfl
theorem wc_494 : Cond.selects RX1 yX1_readRequest yX1_readRequest ∈ Wg := p2_in (q := (⟨"TicketGate$Parser", "readRequest", "()V"⟩, 8)) (List.mem_of_getElem? (i := 6) rfl)
theorem wc_495 : Cond.code yX1_readRequest cX1_readRequest 3 none ∈ Wg := t3_in (List.mem_of_getElem? (i := 101) rfl) rfl
theorem wc_496 : Cond.methodLink RX1 76 yX1_readRefer ∈ Wg := t3_in (List.mem_of_getElem? (i := 60) rfl) rfl
theorem wc_497 : Cond.instanceMethod yX1_readRefer ∈ Wg := t3_in (List.mem_of_getElem? (i := 62) rfl) rfl
theorem wc_498 : Cond.selects RX1 yX1_readRefer yX1_readRefer ∈ Wg := p2_in (q := (⟨"TicketGate$Parser", "readRefer", "()V"⟩, 8)) (List.mem_of_getElem? (i := 2) rfl)
theorem wc_499 : Cond.code yX1_readRefer cX1_readRefer 3 none ∈ Wg := t3_in (List.mem_of_getElem? (i := 63) rfl) rfl
theorem wc_500 : Cond.methodLink RX1 71 yX1_readLogin ∈ Wg := t3_in (List.mem_of_getElem? (i := 8) rfl) rfl
theorem wc_501 : Cond.instanceMethod yX1_readLogin ∈ Wg := t3_in (List.mem_of_getElem? (i := 10) rfl) rfl
theorem wc_502 : Cond.selects RX1 yX1_readLogin yX1_readLogin ∈ Wg := p1_in (q := (⟨"TicketGate$Parser", "readLogin", "()V"⟩, 8)) (List.mem_of_getElem? (i := 14) rfl)
theorem wc_503 : Cond.code yX1_readLogin cX1_readLogin 4 none ∈ Wg := t3_in (List.mem_of_getElem? (i := 11) rfl) rfl
theorem wc_504 : Cond.methodLink RX1 66 yX1_readService ∈ Wg := t2_in (List.mem_of_getElem? (i := 230) rfl) rfl
theorem wc_505 : Cond.instanceMethod yX1_readService ∈ Wg := t2_in (List.mem_of_getElem? (i := 232) rfl) rfl
theorem wc_506 : Cond.selects RX1 yX1_readService yX1_readService ∈ Wg := p1_in (q := (⟨"TicketGate$Parser", "readService", "()V"⟩, 8)) (List.mem_of_getElem? (i := 13) rfl)
theorem wc_507 : Cond.code yX1_readService cX1_readService 4 none ∈ Wg := t2_in (List.mem_of_getElem? (i := 233) rfl) rfl
theorem wc_508 : Cond.methodLink RX1 61 yX1_readUser ∈ Wg := t2_in (List.mem_of_getElem? (i := 212) rfl) rfl
theorem wc_509 : Cond.instanceMethod yX1_readUser ∈ Wg := t2_in (List.mem_of_getElem? (i := 214) rfl) rfl
theorem wc_510 : Cond.selects RX1 yX1_readUser yX1_readUser ∈ Wg := p1_in (q := (⟨"TicketGate$Parser", "readUser", "()V"⟩, 8)) (List.mem_of_getElem? (i := 12) rfl)
theorem wc_511 : Cond.code yX1_readUser cX1_readUser 6 none ∈ Wg := t2_in (List.mem_of_getElem? (i := 215) rfl) rfl
theorem wc_512 : Cond.methodLink RX1 56 yX1_readTrust ∈ Wg := t2_in (List.mem_of_getElem? (i := 189) rfl) rfl
theorem wc_513 : Cond.instanceMethod yX1_readTrust ∈ Wg := t2_in (List.mem_of_getElem? (i := 191) rfl) rfl
theorem wc_514 : Cond.selects RX1 yX1_readTrust yX1_readTrust ∈ Wg := p1_in (q := (⟨"TicketGate$Parser", "readTrust", "()V"⟩, 8)) (List.mem_of_getElem? (i := 10) rfl)
theorem wc_515 : Cond.code yX1_readTrust cX1_readTrust 3 none ∈ Wg := t2_in (List.mem_of_getElem? (i := 192) rfl) rfl
theorem wc_516 : Cond.methodLink RX1 51 yX1_readRealm ∈ Wg := t2_in (List.mem_of_getElem? (i := 125) rfl) rfl
theorem wc_517 : Cond.instanceMethod yX1_readRealm ∈ Wg := t2_in (List.mem_of_getElem? (i := 127) rfl) rfl
theorem wc_518 : Cond.selects RX1 yX1_readRealm yX1_readRealm ∈ Wg := p1_in (q := (⟨"TicketGate$Parser", "readRealm", "()V"⟩, 8)) (List.mem_of_getElem? (i := 7) rfl)
theorem wc_519 : Cond.code yX1_readRealm cX1_readRealm 6 none ∈ Wg := t2_in (List.mem_of_getElem? (i := 128) rfl) rfl
theorem wc_520 : Cond.methodLink RX1 36 yX1_readGate ∈ Wg := t2_in (List.mem_of_getElem? (i := 73) rfl) rfl
theorem wc_521 : Cond.instanceMethod yX1_readGate ∈ Wg := t2_in (List.mem_of_getElem? (i := 75) rfl) rfl
theorem wc_522 : Cond.selects RX1 yX1_readGate yX1_readGate ∈ Wg := p1_in (q := (⟨"TicketGate$Parser", "readGate", "()V"⟩, 8)) (List.mem_of_getElem? (i := 1) rfl)
theorem wc_523 : Cond.code yX1_readGate cX1_readGate 3 none ∈ Wg := t2_in (List.mem_of_getElem? (i := 76) rfl) rfl
theorem wc_524 : Cond.methodLink RX1 42 yX1_readStatement ∈ Wg := t2_in (List.mem_of_getElem? (i := 120) rfl) rfl
theorem wc_525 : Cond.instanceMethod yX1_readStatement ∈ Wg := t2_in (List.mem_of_getElem? (i := 122) rfl) rfl
theorem wc_526 : Cond.selects RX1 yX1_readStatement yX1_readStatement ∈ Wg := p1_in (q := (⟨"TicketGate$Parser", "readStatement", "()V"⟩, 8)) (List.mem_of_getElem? (i := 6) rfl)
theorem wc_527 : Cond.code yX1_readStatement cX1_readStatement 1 none ∈ Wg := t2_in (List.mem_of_getElem? (i := 123) rfl) rfl
theorem layc_X0 : ∀ k, k < 2 → u_lay RX0 TX0 k ∈ Wg := fun k hk => match k, hk with
  | 0, _ => wc_0
  | 1, _ => wc_1
  | k + 2, h => absurd h (by omega)
theorem layc_X2 : ∀ k, k < 4 → u_lay RX2 TX2 k ∈ Wg := fun k hk => match k, hk with
  | 0, _ => wc_42
  | 1, _ => wc_43
  | 2, _ => wc_44
  | 3, _ => wc_45
  | k + 4, h => absurd h (by omega)
theorem layc_X3 : ∀ k, k < 4 → u_lay RX3 TX3 k ∈ Wg := fun k hk => match k, hk with
  | 0, _ => wc_77
  | 1, _ => wc_78
  | 2, _ => wc_79
  | 3, _ => wc_80
  | k + 4, h => absurd h (by omega)
theorem layc_X7 : ∀ k, k < 4 → u_lay RX7 TX7 k ∈ Wg := fun k hk => match k, hk with
  | 0, _ => wc_87
  | 1, _ => wc_88
  | 2, _ => wc_89
  | 3, _ => wc_90
  | k + 4, h => absurd h (by omega)
theorem layc_X8 : ∀ k, k < 4 → u_lay RX8 TX8 k ∈ Wg := fun k hk => match k, hk with
  | 0, _ => wc_107
  | 1, _ => wc_108
  | 2, _ => wc_109
  | 3, _ => wc_110
  | k + 4, h => absurd h (by omega)
theorem layc_X9 : ∀ k, k < 4 → u_lay RX9 TX9 k ∈ Wg := fun k hk => match k, hk with
  | 0, _ => wc_117
  | 1, _ => wc_118
  | 2, _ => wc_119
  | 3, _ => wc_120
  | k + 4, h => absurd h (by omega)
theorem layc_X10 : ∀ k, k < 4 → u_lay RX10 TX10 k ∈ Wg := fun k hk => match k, hk with
  | 0, _ => wc_142
  | 1, _ => wc_143
  | 2, _ => wc_144
  | 3, _ => wc_145
  | k + 4, h => absurd h (by omega)
theorem layc_X5 : ∀ k, k < 10 → u_lay RX5 TX5 k ∈ Wg := fun k hk => match k, hk with
  | 0, _ => wc_160
  | 1, _ => wc_161
  | 2, _ => wc_162
  | 3, _ => wc_163
  | 4, _ => wc_164
  | 5, _ => wc_165
  | 6, _ => wc_166
  | 7, _ => wc_167
  | 8, _ => wc_168
  | 9, _ => wc_169
  | k + 10, h => absurd h (by omega)
theorem layc_X1 : ∀ k, k < 8 → u_lay RX1 TX1 k ∈ Wg := fun k hk => match k, hk with
  | 0, _ => wc_303
  | 1, _ => wc_304
  | 2, _ => wc_305
  | 3, _ => wc_306
  | 4, _ => wc_307
  | 5, _ => wc_308
  | 6, _ => wc_309
  | 7, _ => wc_310
  | k + 8, h => absurd h (by omega)
