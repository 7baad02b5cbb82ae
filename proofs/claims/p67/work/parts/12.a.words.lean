theorem wc_0 : Cond.laysFinal RX0 "TicketGate$Bytes" "cells" "[I" ∈ Wg := t1_in (List.mem_of_getElem? (i := 52) rfl) rfl
theorem wc_1 : Cond.lays RX0 "TicketGate$Bytes" "count" "I" ∈ Wg := t1_in (List.mem_of_getElem? (i := 54) rfl) rfl
theorem wc_2 : Cond.fieldLink RX0 21 "TicketGate$Bytes" "count" "I" ∈ Wg := t1_in (List.mem_of_getElem? (i := 51) rfl) rfl
theorem wc_3 : Cond.fieldLink RX0 15 "TicketGate$Bytes" "cells" "[I" ∈ Wg := t1_in (List.mem_of_getElem? (i := 50) rfl) rfl
theorem wc_4 : Cond.methodLink RX0 25 yX0_add ∈ Wg := t2_in (List.mem_of_getElem? (i := 37) rfl) rfl
theorem wc_5 : Cond.instanceMethod yX0_add ∈ Wg := t2_in (List.mem_of_getElem? (i := 38) rfl) rfl
theorem wc_6 : Cond.selects RX0 yX0_add yX0_add ∈ Wg := t2_in (List.mem_of_getElem? (i := 39) rfl) rfl
theorem wc_7 : Cond.initialized RX0 ∈ Wg := t1_in (List.mem_of_getElem? (i := 2) rfl) rfl
theorem wc_8 : Cond.code yX0_add cX0_add 2 none ∈ Wg := t2_in (List.mem_of_getElem? (i := 40) rfl) rfl
theorem wc_9 : Cond.methodLink RX0 29 yJ0_length_8abf5 ∈ Wg := t1_in (List.mem_of_getElem? (i := 229) rfl) rfl
theorem wc_10 : Cond.instanceMethod yJ0_length_8abf5 ∈ Wg := t1_in (List.mem_of_getElem? (i := 230) rfl) rfl
theorem wc_11 : Cond.selects RJ0 yJ0_length_8abf5 yJ0_length_8abf5 ∈ Wg := t1_in (List.mem_of_getElem? (i := 231) rfl) rfl
theorem wc_12 : Cond.initialized RJ0 ∈ Wg := t1_in (List.mem_of_getElem? (i := 13) rfl) rfl
theorem wc_13 : Cond.code yJ0_length_8abf5 cJ0_length_8abf5 1 (some .int) ∈ Wg := t1_in (List.mem_of_getElem? (i := 232) rfl) rfl
theorem wc_14 : Cond.methodLink RX0 35 yJ0_charAt_5068e ∈ Wg := t1_in (List.mem_of_getElem? (i := 239) rfl) rfl
theorem wc_15 : Cond.instanceMethod yJ0_charAt_5068e ∈ Wg := t2_in (List.mem_of_getElem? (i := 0) rfl) rfl
theorem wc_16 : Cond.selects RJ0 yJ0_charAt_5068e yJ0_charAt_5068e ∈ Wg := t2_in (List.mem_of_getElem? (i := 1) rfl) rfl
theorem wc_17 : Cond.code yJ0_charAt_5068e cJ0_charAt_5068e 2 (some .char) ∈ Wg := t2_in (List.mem_of_getElem? (i := 2) rfl) rfl
theorem wc_18 : Cond.methodLink RX0 40 yX0_at ∈ Wg := t2_in (List.mem_of_getElem? (i := 57) rfl) rfl
theorem wc_19 : Cond.instanceMethod yX0_at ∈ Wg := t2_in (List.mem_of_getElem? (i := 58) rfl) rfl
theorem wc_20 : Cond.selects RX0 yX0_at yX0_at ∈ Wg := t2_in (List.mem_of_getElem? (i := 59) rfl) rfl
theorem wc_21 : Cond.code yX0_at cX0_at 3 (some .int) ∈ Wg := t2_in (List.mem_of_getElem? (i := 60) rfl) rfl
theorem wc_22 : Cond.constant RX0 44 100000000 ∈ Wg := t2_in (List.mem_of_getElem? (i := 74) rfl) rfl
theorem wc_23 : Cond.methodLink RX0 45 Lib.Math.min.name ∈ Wg := t2_in (List.mem_of_getElem? (i := 75) rfl) rfl
theorem wc_24 : Cond.static Lib.Math.min.name ∈ Wg := t2_in (List.mem_of_getElem? (i := 76) rfl) rfl
theorem wc_25 : Cond.initialized "java/lang/Math" ∈ Wg := t1_in (List.mem_of_getElem? (i := 3) rfl) rfl
theorem wc_26 : Cond.code Lib.Math.min.name Lib.Math.min.code 2 (some .int) ∈ Wg := t2_in (List.mem_of_getElem? (i := 77) rfl) rfl
theorem wc_27 : Cond.fieldLink RX6 28 "TicketGate$Table" "rows" "I" ∈ Wg := t1_in (List.mem_of_getElem? (i := 83) rfl) rfl
theorem wc_28 : Cond.fieldLink RX6 9 "TicketGate$Table" "limit" "I" ∈ Wg := t1_in (List.mem_of_getElem? (i := 80) rfl) rfl
theorem wc_29 : Cond.fieldLink RX6 15 "TicketGate$Table" "width" "I" ∈ Wg := t1_in (List.mem_of_getElem? (i := 81) rfl) rfl
theorem wc_30 : Cond.fieldLink RX6 24 "TicketGate$Table" "cells" "[I" ∈ Wg := t1_in (List.mem_of_getElem? (i := 82) rfl) rfl
theorem wc_31 : Cond.methodLink RX6 31 ⟨"TicketGate$Table", "get", "(II)I"⟩ ∈ Wg := t2_in (List.mem_of_getElem? (i := 154) rfl) rfl
theorem wc_32 : Cond.sameMethod "TicketGate$Table" "TicketGate$Table" "get" "(II)I" ∈ Wg := t2_in (List.mem_of_getElem? (i := 156) rfl) rfl
theorem wc_33 : Cond.instanceMethod yX6_get ∈ Wg := t2_in (List.mem_of_getElem? (i := 155) rfl) rfl
theorem wc_34 : Cond.initialized RX6 ∈ Wg := t1_in (List.mem_of_getElem? (i := 6) rfl) rfl
theorem wc_35 : Cond.code yX6_get cX6_get 5 (some .int) ∈ Wg := t2_in (List.mem_of_getElem? (i := 163) rfl) rfl
theorem wc_36 : Cond.methodLink RX6 34 Lib.Math.min.name ∈ Wg := t3_in (List.mem_of_getElem? (i := 227) rfl) rfl
theorem wc_37 : Cond.methodLink RX6 37 arraycopyName ∈ Wg := t3_in (List.mem_of_getElem? (i := 228) rfl) rfl
theorem wc_38 : Cond.native arraycopyName ∈ Wg := t3_in (List.mem_of_getElem? (i := 230) rfl) rfl
theorem wc_39 : Cond.static arraycopyName ∈ Wg := t3_in (List.mem_of_getElem? (i := 229) rfl) rfl
theorem wc_40 : Cond.initialized "java/lang/System" ∈ Wg := t1_in (List.mem_of_getElem? (i := 17) rfl) rfl
theorem wc_41 : Cond.laysFinal RX2 "TicketGate$Table" "limit" "I" ∈ Wg := t1_in (List.mem_of_getElem? (i := 84) rfl) rfl
theorem wc_42 : Cond.laysFinal RX2 "TicketGate$Table" "width" "I" ∈ Wg := t1_in (List.mem_of_getElem? (i := 86) rfl) rfl
theorem wc_43 : Cond.laysFinal RX2 "TicketGate$Table" "cells" "[I" ∈ Wg := t1_in (List.mem_of_getElem? (i := 88) rfl) rfl
theorem wc_44 : Cond.lays RX2 "TicketGate$Table" "rows" "I" ∈ Wg := t1_in (List.mem_of_getElem? (i := 90) rfl) rfl
theorem wc_45 : Cond.methodLink RX2 11 ⟨"TicketGate$Realms", "addRow", "()I"⟩ ∈ Wg := t2_in (List.mem_of_getElem? (i := 181) rfl) rfl
theorem wc_46 : Cond.sameMethod "TicketGate$Realms" "TicketGate$Table" "addRow" "()I" ∈ Wg := t2_in (List.mem_of_getElem? (i := 182) rfl) rfl
theorem wc_47 : Cond.selects RX2 ⟨"TicketGate$Realms", "addRow", "()I"⟩ yX6_addRow ∈ Wg := t2_in (List.mem_of_getElem? (i := 184) rfl) rfl
theorem wc_48 : Cond.instanceMethod yX6_addRow ∈ Wg := t2_in (List.mem_of_getElem? (i := 185) rfl) rfl
theorem wc_49 : Cond.code yX6_addRow cX6_addRow 1 (some .int) ∈ Wg := t2_in (List.mem_of_getElem? (i := 186) rfl) rfl
theorem wc_50 : Cond.methodLink RX2 15 ⟨"TicketGate$Realms", "set", "(III)V"⟩ ∈ Wg := t2_in (List.mem_of_getElem? (i := 187) rfl) rfl
theorem wc_51 : Cond.sameMethod "TicketGate$Realms" "TicketGate$Table" "set" "(III)V" ∈ Wg := t2_in (List.mem_of_getElem? (i := 188) rfl) rfl
theorem wc_52 : Cond.selects RX2 ⟨"TicketGate$Realms", "set", "(III)V"⟩ yX6_set ∈ Wg := t2_in (List.mem_of_getElem? (i := 190) rfl) rfl
theorem wc_53 : Cond.instanceMethod yX6_set ∈ Wg := t2_in (List.mem_of_getElem? (i := 191) rfl) rfl
theorem wc_54 : Cond.code yX6_set cX6_set 5 none ∈ Wg := t2_in (List.mem_of_getElem? (i := 192) rfl) rfl
theorem wc_55 : Cond.methodLink RX2 19 ⟨"TicketGate$Realms", "get", "(II)I"⟩ ∈ Wg := t2_in (List.mem_of_getElem? (i := 208) rfl) rfl
theorem wc_56 : Cond.sameMethod "TicketGate$Realms" "TicketGate$Table" "get" "(II)I" ∈ Wg := t2_in (List.mem_of_getElem? (i := 209) rfl) rfl
theorem wc_57 : Cond.selects RX2 ⟨"TicketGate$Realms", "get", "(II)I"⟩ yX6_get ∈ Wg := t2_in (List.mem_of_getElem? (i := 211) rfl) rfl
theorem wc_58 : Cond.methodLink RX2 27 ⟨"TicketGate$Realms", "size", "()I"⟩ ∈ Wg := t4_in (List.mem_of_getElem? (i := 103) rfl) rfl
theorem wc_59 : Cond.sameMethod "TicketGate$Realms" "TicketGate$Table" "size" "()I" ∈ Wg := t4_in (List.mem_of_getElem? (i := 42) rfl) rfl
theorem wc_60 : Cond.selects RX2 ⟨"TicketGate$Realms", "size", "()I"⟩ yX6_size ∈ Wg := t4_in (List.mem_of_getElem? (i := 43) rfl) rfl
theorem wc_61 : Cond.instanceMethod yX6_size ∈ Wg := t3_in (List.mem_of_getElem? (i := 152) rfl) rfl
theorem wc_62 : Cond.code yX6_size cX6_size 1 (some .int) ∈ Wg := t3_in (List.mem_of_getElem? (i := 153) rfl) rfl
theorem wc_63 : Cond.methodLink RX2 23 yX2_trustedBySome ∈ Wg := t4_in (List.mem_of_getElem? (i := 123) rfl) rfl
theorem wc_64 : Cond.instanceMethod yX2_trustedBySome ∈ Wg := t4_in (List.mem_of_getElem? (i := 125) rfl) rfl
theorem wc_65 : Cond.selects RX2 yX2_trustedBySome yX2_trustedBySome ∈ Wg := p2_in (q := (⟨"TicketGate$Realms", "trustedBySome", "(I)I"⟩, 4)) (List.mem_of_getElem? (i := 13) rfl)
theorem wc_66 : Cond.initialized RX2 ∈ Wg := t1_in (List.mem_of_getElem? (i := 7) rfl) rfl
theorem wc_67 : Cond.code yX2_trustedBySome cX2_trustedBySome 4 (some .int) ∈ Wg := t4_in (List.mem_of_getElem? (i := 126) rfl) rfl
theorem wc_68 : Cond.laysFinal RX3 "TicketGate$Table" "limit" "I" ∈ Wg := t1_in (List.mem_of_getElem? (i := 110) rfl) rfl
theorem wc_69 : Cond.laysFinal RX3 "TicketGate$Table" "width" "I" ∈ Wg := t1_in (List.mem_of_getElem? (i := 111) rfl) rfl
theorem wc_70 : Cond.laysFinal RX3 "TicketGate$Table" "cells" "[I" ∈ Wg := t1_in (List.mem_of_getElem? (i := 112) rfl) rfl
theorem wc_71 : Cond.lays RX3 "TicketGate$Table" "rows" "I" ∈ Wg := t1_in (List.mem_of_getElem? (i := 113) rfl) rfl
theorem wc_72 : Cond.methodLink RX3 11 ⟨"TicketGate$Services", "addRow", "()I"⟩ ∈ Wg := t3_in (List.mem_of_getElem? (i := 6) rfl) rfl
theorem wc_73 : Cond.sameMethod "TicketGate$Services" "TicketGate$Table" "addRow" "()I" ∈ Wg := t3_in (List.mem_of_getElem? (i := 7) rfl) rfl
theorem wc_74 : Cond.selects RX3 ⟨"TicketGate$Services", "addRow", "()I"⟩ yX6_addRow ∈ Wg := t3_in (List.mem_of_getElem? (i := 8) rfl) rfl
theorem wc_75 : Cond.methodLink RX3 15 ⟨"TicketGate$Services", "set", "(III)V"⟩ ∈ Wg := t3_in (List.mem_of_getElem? (i := 9) rfl) rfl
theorem wc_76 : Cond.sameMethod "TicketGate$Services" "TicketGate$Table" "set" "(III)V" ∈ Wg := t3_in (List.mem_of_getElem? (i := 10) rfl) rfl
theorem wc_77 : Cond.selects RX3 ⟨"TicketGate$Services", "set", "(III)V"⟩ yX6_set ∈ Wg := t3_in (List.mem_of_getElem? (i := 11) rfl) rfl
theorem wc_78 : Cond.laysFinal RX7 "TicketGate$Table" "limit" "I" ∈ Wg := t1_in (List.mem_of_getElem? (i := 121) rfl) rfl
theorem wc_79 : Cond.laysFinal RX7 "TicketGate$Table" "width" "I" ∈ Wg := t1_in (List.mem_of_getElem? (i := 122) rfl) rfl
theorem wc_80 : Cond.laysFinal RX7 "TicketGate$Table" "cells" "[I" ∈ Wg := t1_in (List.mem_of_getElem? (i := 123) rfl) rfl
theorem wc_81 : Cond.lays RX7 "TicketGate$Table" "rows" "I" ∈ Wg := t1_in (List.mem_of_getElem? (i := 124) rfl) rfl
theorem wc_82 : Cond.methodLink RX7 11 ⟨"TicketGate$Tickets", "get", "(II)I"⟩ ∈ Wg := t3_in (List.mem_of_getElem? (i := 84) rfl) rfl
theorem wc_83 : Cond.sameMethod "TicketGate$Tickets" "TicketGate$Table" "get" "(II)I" ∈ Wg := t3_in (List.mem_of_getElem? (i := 60) rfl) rfl
theorem wc_84 : Cond.selects RX7 ⟨"TicketGate$Tickets", "get", "(II)I"⟩ yX6_get ∈ Wg := t3_in (List.mem_of_getElem? (i := 61) rfl) rfl
theorem wc_85 : Cond.methodLink RX7 15 ⟨"TicketGate$Tickets", "size", "()I"⟩ ∈ Wg := t3_in (List.mem_of_getElem? (i := 199) rfl) rfl
theorem wc_86 : Cond.sameMethod "TicketGate$Tickets" "TicketGate$Table" "size" "()I" ∈ Wg := t3_in (List.mem_of_getElem? (i := 200) rfl) rfl
theorem wc_87 : Cond.selects RX7 ⟨"TicketGate$Tickets", "size", "()I"⟩ yX6_size ∈ Wg := t3_in (List.mem_of_getElem? (i := 201) rfl) rfl
theorem wc_88 : Cond.methodLink RX7 19 yX7_isAlive ∈ Wg := t3_in (List.mem_of_getElem? (i := 202) rfl) rfl
theorem wc_89 : Cond.instanceMethod yX7_isAlive ∈ Wg := t3_in (List.mem_of_getElem? (i := 81) rfl) rfl
theorem wc_90 : Cond.selects RX7 yX7_isAlive yX7_isAlive ∈ Wg := t3_in (List.mem_of_getElem? (i := 82) rfl) rfl
theorem wc_91 : Cond.initialized RX7 ∈ Wg := t1_in (List.mem_of_getElem? (i := 10) rfl) rfl
theorem wc_92 : Cond.code yX7_isAlive cX7_isAlive 3 (some .boolean) ∈ Wg := t3_in (List.mem_of_getElem? (i := 83) rfl) rfl
theorem wc_93 : Cond.methodLink RX7 23 ⟨"TicketGate$Tickets", "removeRow", "(I)V"⟩ ∈ Wg := t3_in (List.mem_of_getElem? (i := 203) rfl) rfl
theorem wc_94 : Cond.sameMethod "TicketGate$Tickets" "TicketGate$Table" "removeRow" "(I)V" ∈ Wg := t3_in (List.mem_of_getElem? (i := 188) rfl) rfl
theorem wc_95 : Cond.selects RX7 ⟨"TicketGate$Tickets", "removeRow", "(I)V"⟩ yX6_removeRow ∈ Wg := t3_in (List.mem_of_getElem? (i := 189) rfl) rfl
theorem wc_96 : Cond.instanceMethod yX6_removeRow ∈ Wg := t3_in (List.mem_of_getElem? (i := 172) rfl) rfl
theorem wc_97 : Cond.code yX6_removeRow cX6_removeRow 4 none ∈ Wg := t3_in (List.mem_of_getElem? (i := 173) rfl) rfl
theorem wc_98 : Cond.laysFinal RX8 "TicketGate$Table" "limit" "I" ∈ Wg := t1_in (List.mem_of_getElem? (i := 99) rfl) rfl
theorem wc_99 : Cond.laysFinal RX8 "TicketGate$Table" "width" "I" ∈ Wg := t1_in (List.mem_of_getElem? (i := 100) rfl) rfl
theorem wc_100 : Cond.laysFinal RX8 "TicketGate$Table" "cells" "[I" ∈ Wg := t1_in (List.mem_of_getElem? (i := 101) rfl) rfl
theorem wc_101 : Cond.lays RX8 "TicketGate$Table" "rows" "I" ∈ Wg := t1_in (List.mem_of_getElem? (i := 102) rfl) rfl
theorem wc_102 : Cond.methodLink RX8 11 ⟨"TicketGate$Users", "addRow", "()I"⟩ ∈ Wg := t2_in (List.mem_of_getElem? (i := 228) rfl) rfl
theorem wc_103 : Cond.sameMethod "TicketGate$Users" "TicketGate$Table" "addRow" "()I" ∈ Wg := t2_in (List.mem_of_getElem? (i := 229) rfl) rfl
theorem wc_104 : Cond.selects RX8 ⟨"TicketGate$Users", "addRow", "()I"⟩ yX6_addRow ∈ Wg := t2_in (List.mem_of_getElem? (i := 230) rfl) rfl
theorem wc_105 : Cond.methodLink RX8 15 ⟨"TicketGate$Users", "set", "(III)V"⟩ ∈ Wg := t2_in (List.mem_of_getElem? (i := 231) rfl) rfl
theorem wc_106 : Cond.sameMethod "TicketGate$Users" "TicketGate$Table" "set" "(III)V" ∈ Wg := t2_in (List.mem_of_getElem? (i := 232) rfl) rfl
theorem wc_107 : Cond.selects RX8 ⟨"TicketGate$Users", "set", "(III)V"⟩ yX6_set ∈ Wg := t2_in (List.mem_of_getElem? (i := 233) rfl) rfl
theorem wc_108 : Cond.laysFinal RX9 "TicketGate$Table" "limit" "I" ∈ Wg := t1_in (List.mem_of_getElem? (i := 132) rfl) rfl
theorem wc_109 : Cond.laysFinal RX9 "TicketGate$Table" "width" "I" ∈ Wg := t1_in (List.mem_of_getElem? (i := 133) rfl) rfl
theorem wc_110 : Cond.laysFinal RX9 "TicketGate$Table" "cells" "[I" ∈ Wg := t1_in (List.mem_of_getElem? (i := 134) rfl) rfl
theorem wc_111 : Cond.lays RX9 "TicketGate$Table" "rows" "I" ∈ Wg := t1_in (List.mem_of_getElem? (i := 135) rfl) rfl
theorem wc_112 : Cond.methodLink RX9 11 ⟨"TicketGate$Uses", "isFull", "()Z"⟩ ∈ Wg := t3_in (List.mem_of_getElem? (i := 165) rfl) rfl
theorem wc_113 : Cond.sameMethod "TicketGate$Uses" "TicketGate$Table" "isFull" "()Z" ∈ Wg := t3_in (List.mem_of_getElem? (i := 166) rfl) rfl
theorem wc_114 : Cond.selects RX9 ⟨"TicketGate$Uses", "isFull", "()Z"⟩ yX6_isFull ∈ Wg := t3_in (List.mem_of_getElem? (i := 167) rfl) rfl
theorem wc_115 : Cond.instanceMethod yX6_isFull ∈ Wg := t2_in (List.mem_of_getElem? (i := 138) rfl) rfl
theorem wc_116 : Cond.code yX6_isFull cX6_isFull 1 (some .boolean) ∈ Wg := t2_in (List.mem_of_getElem? (i := 139) rfl) rfl
theorem wc_117 : Cond.methodLink RX9 15 ⟨"TicketGate$Uses", "removeRow", "(I)V"⟩ ∈ Wg := t3_in (List.mem_of_getElem? (i := 168) rfl) rfl
theorem wc_118 : Cond.sameMethod "TicketGate$Uses" "TicketGate$Table" "removeRow" "(I)V" ∈ Wg := t3_in (List.mem_of_getElem? (i := 169) rfl) rfl
theorem wc_119 : Cond.selects RX9 ⟨"TicketGate$Uses", "removeRow", "(I)V"⟩ yX6_removeRow ∈ Wg := t3_in (List.mem_of_getElem? (i := 171) rfl) rfl
theorem wc_120 : Cond.methodLink RX9 19 ⟨"TicketGate$Uses", "addRow", "()I"⟩ ∈ Wg := t3_in (List.mem_of_getElem? (i := 174) rfl) rfl
theorem wc_121 : Cond.sameMethod "TicketGate$Uses" "TicketGate$Table" "addRow" "()I" ∈ Wg := t3_in (List.mem_of_getElem? (i := 175) rfl) rfl
theorem wc_122 : Cond.selects RX9 ⟨"TicketGate$Uses", "addRow", "()I"⟩ yX6_addRow ∈ Wg := t3_in (List.mem_of_getElem? (i := 176) rfl) rfl
theorem wc_123 : Cond.methodLink RX9 23 ⟨"TicketGate$Uses", "set", "(III)V"⟩ ∈ Wg := t3_in (List.mem_of_getElem? (i := 177) rfl) rfl
theorem wc_124 : Cond.sameMethod "TicketGate$Uses" "TicketGate$Table" "set" "(III)V" ∈ Wg := t3_in (List.mem_of_getElem? (i := 178) rfl) rfl
theorem wc_125 : Cond.selects RX9 ⟨"TicketGate$Uses", "set", "(III)V"⟩ yX6_set ∈ Wg := t3_in (List.mem_of_getElem? (i := 179) rfl) rfl
theorem wc_126 : Cond.methodLink RX9 27 ⟨"TicketGate$Uses", "size", "()I"⟩ ∈ Wg := t3_in (List.mem_of_getElem? (i := 148) rfl) rfl
theorem wc_127 : Cond.sameMethod "TicketGate$Uses" "TicketGate$Table" "size" "()I" ∈ Wg := t3_in (List.mem_of_getElem? (i := 149) rfl) rfl
theorem wc_128 : Cond.selects RX9 ⟨"TicketGate$Uses", "size", "()I"⟩ yX6_size ∈ Wg := t3_in (List.mem_of_getElem? (i := 151) rfl) rfl
theorem wc_129 : Cond.methodLink RX9 30 ⟨"TicketGate$Uses", "get", "(II)I"⟩ ∈ Wg := t3_in (List.mem_of_getElem? (i := 154) rfl) rfl
theorem wc_130 : Cond.sameMethod "TicketGate$Uses" "TicketGate$Table" "get" "(II)I" ∈ Wg := t3_in (List.mem_of_getElem? (i := 155) rfl) rfl
theorem wc_131 : Cond.selects RX9 ⟨"TicketGate$Uses", "get", "(II)I"⟩ yX6_get ∈ Wg := t3_in (List.mem_of_getElem? (i := 156) rfl) rfl
theorem wc_132 : Cond.methodLink RX10 9 ⟨"TicketGate$Realms", "size", "()I"⟩ ∈ Wg := t4_in (List.mem_of_getElem? (i := 95) rfl) rfl
theorem wc_133 : Cond.laysFinal RX10 "TicketGate$Table" "limit" "I" ∈ Wg := t4_in (List.mem_of_getElem? (i := 86) rfl) rfl
theorem wc_134 : Cond.laysFinal RX10 "TicketGate$Table" "width" "I" ∈ Wg := t4_in (List.mem_of_getElem? (i := 87) rfl) rfl
theorem wc_135 : Cond.laysFinal RX10 "TicketGate$Table" "cells" "[I" ∈ Wg := t4_in (List.mem_of_getElem? (i := 88) rfl) rfl
theorem wc_136 : Cond.lays RX10 "TicketGate$Table" "rows" "I" ∈ Wg := t4_in (List.mem_of_getElem? (i := 89) rfl) rfl
theorem wc_137 : Cond.methodLink RX10 15 ⟨"TicketGate$Ways", "addRow", "()I"⟩ ∈ Wg := t4_in (List.mem_of_getElem? (i := 96) rfl) rfl
theorem wc_138 : Cond.sameMethod "TicketGate$Ways" "TicketGate$Table" "addRow" "()I" ∈ Wg := t4_in (List.mem_of_getElem? (i := 97) rfl) rfl
theorem wc_139 : Cond.selects RX10 ⟨"TicketGate$Ways", "addRow", "()I"⟩ yX6_addRow ∈ Wg := t4_in (List.mem_of_getElem? (i := 98) rfl) rfl
theorem wc_140 : Cond.methodLink RX10 20 yX2_hasTrust ∈ Wg := t4_in (List.mem_of_getElem? (i := 99) rfl) rfl
theorem wc_141 : Cond.instanceMethod yX2_hasTrust ∈ Wg := t2_in (List.mem_of_getElem? (i := 205) rfl) rfl
theorem wc_142 : Cond.selects RX2 yX2_hasTrust yX2_hasTrust ∈ Wg := t2_in (List.mem_of_getElem? (i := 206) rfl) rfl
theorem wc_143 : Cond.code yX2_hasTrust cX2_hasTrust 3 (some .boolean) ∈ Wg := t2_in (List.mem_of_getElem? (i := 207) rfl) rfl
theorem wc_144 : Cond.methodLink RX10 24 ⟨"TicketGate$Ways", "set", "(III)V"⟩ ∈ Wg := t4_in (List.mem_of_getElem? (i := 100) rfl) rfl
theorem wc_145 : Cond.sameMethod "TicketGate$Ways" "TicketGate$Table" "set" "(III)V" ∈ Wg := t4_in (List.mem_of_getElem? (i := 101) rfl) rfl
theorem wc_146 : Cond.selects RX10 ⟨"TicketGate$Ways", "set", "(III)V"⟩ yX6_set ∈ Wg := t4_in (List.mem_of_getElem? (i := 102) rfl) rfl
theorem wc_147 : Cond.methodLink RX10 28 ⟨"TicketGate$Ways", "size", "()I"⟩ ∈ Wg := t4_in (List.mem_of_getElem? (i := 108) rfl) rfl
theorem wc_148 : Cond.sameMethod "TicketGate$Ways" "TicketGate$Table" "size" "()I" ∈ Wg := t4_in (List.mem_of_getElem? (i := 109) rfl) rfl
theorem wc_149 : Cond.selects RX10 ⟨"TicketGate$Ways", "size", "()I"⟩ yX6_size ∈ Wg := t4_in (List.mem_of_getElem? (i := 110) rfl) rfl
theorem wc_150 : Cond.methodLink RX10 29 ⟨"TicketGate$Ways", "get", "(II)I"⟩ ∈ Wg := t4_in (List.mem_of_getElem? (i := 111) rfl) rfl
theorem wc_151 : Cond.sameMethod "TicketGate$Ways" "TicketGate$Table" "get" "(II)I" ∈ Wg := t4_in (List.mem_of_getElem? (i := 112) rfl) rfl
theorem wc_152 : Cond.selects RX10 ⟨"TicketGate$Ways", "get", "(II)I"⟩ yX6_get ∈ Wg := t4_in (List.mem_of_getElem? (i := 113) rfl) rfl
theorem wc_153 : Cond.methodLink RX10 33 Lib.Math.min.name ∈ Wg := t4_in (List.mem_of_getElem? (i := 114) rfl) rfl
theorem wc_154 : Cond.laysFinal RX5 "TicketGate$State" "realms" "LTicketGate$Realms;" ∈ Wg := t1_in (List.mem_of_getElem? (i := 161) rfl) rfl
theorem wc_155 : Cond.laysFinal RX5 "TicketGate$State" "users" "LTicketGate$Users;" ∈ Wg := t1_in (List.mem_of_getElem? (i := 163) rfl) rfl
theorem wc_156 : Cond.laysFinal RX5 "TicketGate$State" "services" "LTicketGate$Services;" ∈ Wg := t1_in (List.mem_of_getElem? (i := 165) rfl) rfl
theorem wc_157 : Cond.laysFinal RX5 "TicketGate$State" "tickets" "LTicketGate$Tickets;" ∈ Wg := t1_in (List.mem_of_getElem? (i := 167) rfl) rfl
theorem wc_158 : Cond.laysFinal RX5 "TicketGate$State" "uses" "LTicketGate$Uses;" ∈ Wg := t1_in (List.mem_of_getElem? (i := 169) rfl) rfl
theorem wc_159 : Cond.lays RX5 "TicketGate$State" "time" "I" ∈ Wg := t1_in (List.mem_of_getElem? (i := 171) rfl) rfl
theorem wc_160 : Cond.lays RX5 "TicketGate$State" "tolerance" "I" ∈ Wg := t1_in (List.mem_of_getElem? (i := 173) rfl) rfl
theorem wc_161 : Cond.lays RX5 "TicketGate$State" "seed" "I" ∈ Wg := t1_in (List.mem_of_getElem? (i := 175) rfl) rfl
theorem wc_162 : Cond.lays RX5 "TicketGate$State" "madeTickets" "I" ∈ Wg := t1_in (List.mem_of_getElem? (i := 177) rfl) rfl
theorem wc_163 : Cond.lays RX5 "TicketGate$State" "cheesesOfText" "I" ∈ Wg := t1_in (List.mem_of_getElem? (i := 179) rfl) rfl
theorem wc_164 : Cond.fieldLink RX5 12 "TicketGate$State" "realms" "LTicketGate$Realms;" ∈ Wg := t1_in (List.mem_of_getElem? (i := 137) rfl) rfl
theorem wc_165 : Cond.methodLink RX5 46 ⟨"TicketGate$Realms", "removeAll", "()V"⟩ ∈ Wg := t2_in (List.mem_of_getElem? (i := 107) rfl) rfl
theorem wc_166 : Cond.sameMethod "TicketGate$Realms" "TicketGate$Table" "removeAll" "()V" ∈ Wg := t2_in (List.mem_of_getElem? (i := 108) rfl) rfl
theorem wc_167 : Cond.selects RX2 ⟨"TicketGate$Realms", "removeAll", "()V"⟩ yX6_removeAll ∈ Wg := t2_in (List.mem_of_getElem? (i := 110) rfl) rfl
theorem wc_168 : Cond.instanceMethod yX6_removeAll ∈ Wg := t2_in (List.mem_of_getElem? (i := 111) rfl) rfl
theorem wc_169 : Cond.code yX6_removeAll cX6_removeAll 1 none ∈ Wg := t2_in (List.mem_of_getElem? (i := 112) rfl) rfl
theorem wc_170 : Cond.fieldLink RX5 21 "TicketGate$State" "users" "LTicketGate$Users;" ∈ Wg := t1_in (List.mem_of_getElem? (i := 140) rfl) rfl
theorem wc_171 : Cond.methodLink RX5 49 ⟨"TicketGate$Users", "removeAll", "()V"⟩ ∈ Wg := t2_in (List.mem_of_getElem? (i := 113) rfl) rfl
theorem wc_172 : Cond.sameMethod "TicketGate$Users" "TicketGate$Table" "removeAll" "()V" ∈ Wg := t2_in (List.mem_of_getElem? (i := 114) rfl) rfl
theorem wc_173 : Cond.selects RX8 ⟨"TicketGate$Users", "removeAll", "()V"⟩ yX6_removeAll ∈ Wg := t2_in (List.mem_of_getElem? (i := 115) rfl) rfl
theorem wc_174 : Cond.fieldLink RX5 28 "TicketGate$State" "services" "LTicketGate$Services;" ∈ Wg := t1_in (List.mem_of_getElem? (i := 143) rfl) rfl
theorem wc_175 : Cond.methodLink RX5 50 ⟨"TicketGate$Services", "removeAll", "()V"⟩ ∈ Wg := t2_in (List.mem_of_getElem? (i := 116) rfl) rfl
theorem wc_176 : Cond.sameMethod "TicketGate$Services" "TicketGate$Table" "removeAll" "()V" ∈ Wg := t2_in (List.mem_of_getElem? (i := 117) rfl) rfl
theorem wc_177 : Cond.selects RX3 ⟨"TicketGate$Services", "removeAll", "()V"⟩ yX6_removeAll ∈ Wg := t2_in (List.mem_of_getElem? (i := 118) rfl) rfl
theorem wc_178 : Cond.fieldLink RX5 35 "TicketGate$State" "tickets" "LTicketGate$Tickets;" ∈ Wg := t1_in (List.mem_of_getElem? (i := 146) rfl) rfl
theorem wc_179 : Cond.methodLink RX5 51 ⟨"TicketGate$Tickets", "removeAll", "()V"⟩ ∈ Wg := t2_in (List.mem_of_getElem? (i := 119) rfl) rfl
theorem wc_180 : Cond.sameMethod "TicketGate$Tickets" "TicketGate$Table" "removeAll" "()V" ∈ Wg := t2_in (List.mem_of_getElem? (i := 120) rfl) rfl
theorem wc_181 : Cond.selects RX7 ⟨"TicketGate$Tickets", "removeAll", "()V"⟩ yX6_removeAll ∈ Wg := t2_in (List.mem_of_getElem? (i := 121) rfl) rfl
theorem wc_182 : Cond.fieldLink RX5 42 "TicketGate$State" "uses" "LTicketGate$Uses;" ∈ Wg := t1_in (List.mem_of_getElem? (i := 149) rfl) rfl
theorem wc_183 : Cond.methodLink RX5 52 ⟨"TicketGate$Uses", "removeAll", "()V"⟩ ∈ Wg := t2_in (List.mem_of_getElem? (i := 122) rfl) rfl
theorem wc_184 : Cond.sameMethod "TicketGate$Uses" "TicketGate$Table" "removeAll" "()V" ∈ Wg := t2_in (List.mem_of_getElem? (i := 123) rfl) rfl
theorem wc_185 : Cond.selects RX9 ⟨"TicketGate$Uses", "removeAll", "()V"⟩ yX6_removeAll ∈ Wg := t2_in (List.mem_of_getElem? (i := 124) rfl) rfl
theorem wc_186 : Cond.fieldLink RX5 53 "TicketGate$State" "time" "I" ∈ Wg := t1_in (List.mem_of_getElem? (i := 151) rfl) rfl
theorem wc_187 : Cond.fieldLink RX5 57 "TicketGate$State" "tolerance" "I" ∈ Wg := t1_in (List.mem_of_getElem? (i := 154) rfl) rfl
theorem wc_188 : Cond.fieldLink RX5 60 "TicketGate$State" "seed" "I" ∈ Wg := t1_in (List.mem_of_getElem? (i := 155) rfl) rfl
theorem wc_189 : Cond.fieldLink RX5 63 "TicketGate$State" "madeTickets" "I" ∈ Wg := t1_in (List.mem_of_getElem? (i := 157) rfl) rfl
theorem wc_190 : Cond.fieldLink RX5 66 "TicketGate$State" "cheesesOfText" "I" ∈ Wg := t1_in (List.mem_of_getElem? (i := 158) rfl) rfl
theorem wc_191 : Cond.methodLink RX5 69 ⟨"TicketGate$Realms", "copyFrom", "(LTicketGate$Table;)V"⟩ ∈ Wg := t3_in (List.mem_of_getElem? (i := 221) rfl) rfl
theorem wc_192 : Cond.sameMethod "TicketGate$Realms" "TicketGate$Table" "copyFrom" "(LTicketGate$Table;)V" ∈ Wg := t3_in (List.mem_of_getElem? (i := 222) rfl) rfl
theorem wc_193 : Cond.selects RX2 ⟨"TicketGate$Realms", "copyFrom", "(LTicketGate$Table;)V"⟩ yX6_copyFrom ∈ Wg := t3_in (List.mem_of_getElem? (i := 224) rfl) rfl
theorem wc_194 : Cond.instanceMethod yX6_copyFrom ∈ Wg := t3_in (List.mem_of_getElem? (i := 225) rfl) rfl
theorem wc_195 : Cond.code yX6_copyFrom cX6_copyFrom 3 none ∈ Wg := t3_in (List.mem_of_getElem? (i := 226) rfl) rfl
theorem wc_196 : Cond.methodLink RX5 73 ⟨"TicketGate$Users", "copyFrom", "(LTicketGate$Table;)V"⟩ ∈ Wg := t3_in (List.mem_of_getElem? (i := 231) rfl) rfl
theorem wc_197 : Cond.sameMethod "TicketGate$Users" "TicketGate$Table" "copyFrom" "(LTicketGate$Table;)V" ∈ Wg := t3_in (List.mem_of_getElem? (i := 232) rfl) rfl
theorem wc_198 : Cond.selects RX8 ⟨"TicketGate$Users", "copyFrom", "(LTicketGate$Table;)V"⟩ yX6_copyFrom ∈ Wg := t3_in (List.mem_of_getElem? (i := 233) rfl) rfl
theorem wc_199 : Cond.methodLink RX5 74 ⟨"TicketGate$Services", "copyFrom", "(LTicketGate$Table;)V"⟩ ∈ Wg := t3_in (List.mem_of_getElem? (i := 234) rfl) rfl
theorem wc_200 : Cond.sameMethod "TicketGate$Services" "TicketGate$Table" "copyFrom" "(LTicketGate$Table;)V" ∈ Wg := t3_in (List.mem_of_getElem? (i := 235) rfl) rfl
theorem wc_201 : Cond.selects RX3 ⟨"TicketGate$Services", "copyFrom", "(LTicketGate$Table;)V"⟩ yX6_copyFrom ∈ Wg := t3_in (List.mem_of_getElem? (i := 236) rfl) rfl
theorem wc_202 : Cond.methodLink RX5 75 ⟨"TicketGate$Tickets", "copyFrom", "(LTicketGate$Table;)V"⟩ ∈ Wg := t3_in (List.mem_of_getElem? (i := 237) rfl) rfl
theorem wc_203 : Cond.sameMethod "TicketGate$Tickets" "TicketGate$Table" "copyFrom" "(LTicketGate$Table;)V" ∈ Wg := t3_in (List.mem_of_getElem? (i := 238) rfl) rfl
theorem wc_204 : Cond.selects RX7 ⟨"TicketGate$Tickets", "copyFrom", "(LTicketGate$Table;)V"⟩ yX6_copyFrom ∈ Wg := t3_in (List.mem_of_getElem? (i := 239) rfl) rfl
theorem wc_205 : Cond.methodLink RX5 76 ⟨"TicketGate$Uses", "copyFrom", "(LTicketGate$Table;)V"⟩ ∈ Wg := t4_in (List.mem_of_getElem? (i := 0) rfl) rfl
theorem wc_206 : Cond.sameMethod "TicketGate$Uses" "TicketGate$Table" "copyFrom" "(LTicketGate$Table;)V" ∈ Wg := t4_in (List.mem_of_getElem? (i := 1) rfl) rfl
theorem wc_207 : Cond.selects RX9 ⟨"TicketGate$Uses", "copyFrom", "(LTicketGate$Table;)V"⟩ yX6_copyFrom ∈ Wg := t4_in (List.mem_of_getElem? (i := 2) rfl) rfl
theorem wc_208 : Cond.selects RX2 ⟨"TicketGate$Table", "get", "(II)I"⟩ yX6_get ∈ Wg := t2_in (List.mem_of_getElem? (i := 157) rfl) rfl
theorem wc_209 : Cond.methodLink RX5 77 ⟨"TicketGate$Realms", "rowWith", "(II)I"⟩ ∈ Wg := t2_in (List.mem_of_getElem? (i := 148) rfl) rfl
theorem wc_210 : Cond.sameMethod "TicketGate$Realms" "TicketGate$Table" "rowWith" "(II)I" ∈ Wg := t2_in (List.mem_of_getElem? (i := 149) rfl) rfl
theorem wc_211 : Cond.selects RX2 ⟨"TicketGate$Realms", "rowWith", "(II)I"⟩ yX6_rowWith ∈ Wg := t2_in (List.mem_of_getElem? (i := 151) rfl) rfl
theorem wc_212 : Cond.instanceMethod yX6_rowWith ∈ Wg := t2_in (List.mem_of_getElem? (i := 152) rfl) rfl
theorem wc_213 : Cond.code yX6_rowWith cX6_rowWith 4 (some .int) ∈ Wg := t2_in (List.mem_of_getElem? (i := 153) rfl) rfl
theorem wc_214 : Cond.selects RX8 ⟨"TicketGate$Table", "get", "(II)I"⟩ yX6_get ∈ Wg := t2_in (List.mem_of_getElem? (i := 160) rfl) rfl
theorem wc_215 : Cond.methodLink RX5 81 ⟨"TicketGate$Users", "rowWith", "(II)I"⟩ ∈ Wg := t2_in (List.mem_of_getElem? (i := 164) rfl) rfl
theorem wc_216 : Cond.sameMethod "TicketGate$Users" "TicketGate$Table" "rowWith" "(II)I" ∈ Wg := t2_in (List.mem_of_getElem? (i := 165) rfl) rfl
theorem wc_217 : Cond.selects RX8 ⟨"TicketGate$Users", "rowWith", "(II)I"⟩ yX6_rowWith ∈ Wg := t2_in (List.mem_of_getElem? (i := 166) rfl) rfl
theorem wc_218 : Cond.selects RX3 ⟨"TicketGate$Table", "get", "(II)I"⟩ yX6_get ∈ Wg := t2_in (List.mem_of_getElem? (i := 158) rfl) rfl
theorem wc_219 : Cond.methodLink RX5 82 ⟨"TicketGate$Services", "rowWith", "(II)I"⟩ ∈ Wg := t2_in (List.mem_of_getElem? (i := 167) rfl) rfl
theorem wc_220 : Cond.sameMethod "TicketGate$Services" "TicketGate$Table" "rowWith" "(II)I" ∈ Wg := t2_in (List.mem_of_getElem? (i := 168) rfl) rfl
theorem wc_221 : Cond.selects RX3 ⟨"TicketGate$Services", "rowWith", "(II)I"⟩ yX6_rowWith ∈ Wg := t2_in (List.mem_of_getElem? (i := 169) rfl) rfl
theorem wc_222 : Cond.methodLink RX5 83 ⟨"TicketGate$Users", "get", "(II)I"⟩ ∈ Wg := t3_in (List.mem_of_getElem? (i := 22) rfl) rfl
theorem wc_223 : Cond.sameMethod "TicketGate$Users" "TicketGate$Table" "get" "(II)I" ∈ Wg := t3_in (List.mem_of_getElem? (i := 23) rfl) rfl
theorem wc_224 : Cond.selects RX8 ⟨"TicketGate$Users", "get", "(II)I"⟩ yX6_get ∈ Wg := t3_in (List.mem_of_getElem? (i := 24) rfl) rfl
theorem wc_225 : Cond.methodLink RX5 86 ⟨"TicketGate$Realms", "get", "(II)I"⟩ ∈ Wg := t3_in (List.mem_of_getElem? (i := 29) rfl) rfl
theorem wc_226 : Cond.methodLink RX5 87 Lib.Math.abs.name ∈ Wg := t3_in (List.mem_of_getElem? (i := 30) rfl) rfl
theorem wc_227 : Cond.static Lib.Math.abs.name ∈ Wg := t3_in (List.mem_of_getElem? (i := 31) rfl) rfl
theorem wc_228 : Cond.code Lib.Math.abs.name Lib.Math.abs.code 1 (some .int) ∈ Wg := t3_in (List.mem_of_getElem? (i := 32) rfl) rfl
theorem wc_229 : Cond.methodLink RX5 93 ⟨"TicketGate$Tickets", "get", "(II)I"⟩ ∈ Wg := t3_in (List.mem_of_getElem? (i := 59) rfl) rfl
theorem wc_230 : Cond.methodLink RX5 94 yX5_skewOf ∈ Wg := t3_in (List.mem_of_getElem? (i := 25) rfl) rfl
theorem wc_231 : Cond.instanceMethod yX5_skewOf ∈ Wg := t3_in (List.mem_of_getElem? (i := 26) rfl) rfl
theorem wc_232 : Cond.selects RX5 yX5_skewOf yX5_skewOf ∈ Wg := t3_in (List.mem_of_getElem? (i := 27) rfl) rfl
theorem wc_233 : Cond.initialized RX5 ∈ Wg := t1_in (List.mem_of_getElem? (i := 5) rfl) rfl
theorem wc_234 : Cond.code yX5_skewOf cX5_skewOf 3 (some .int) ∈ Wg := t3_in (List.mem_of_getElem? (i := 28) rfl) rfl
theorem wc_235 : Cond.methodLink RX5 97 ⟨"TicketGate$Tickets", "isFull", "()Z"⟩ ∈ Wg := t3_in (List.mem_of_getElem? (i := 33) rfl) rfl
theorem wc_236 : Cond.sameMethod "TicketGate$Tickets" "TicketGate$Table" "isFull" "()Z" ∈ Wg := t3_in (List.mem_of_getElem? (i := 34) rfl) rfl
theorem wc_237 : Cond.selects RX7 ⟨"TicketGate$Tickets", "isFull", "()Z"⟩ yX6_isFull ∈ Wg := t3_in (List.mem_of_getElem? (i := 35) rfl) rfl
theorem wc_238 : Cond.methodLink RX5 101 yX7_isAlive ∈ Wg := t3_in (List.mem_of_getElem? (i := 80) rfl) rfl
theorem wc_239 : Cond.methodLink RX5 105 yX2_hasTrust ∈ Wg := t3_in (List.mem_of_getElem? (i := 85) rfl) rfl
theorem wc_240 : Cond.methodLink RX5 108 yX5_isSkewed ∈ Wg := t3_in (List.mem_of_getElem? (i := 86) rfl) rfl
theorem wc_241 : Cond.instanceMethod yX5_isSkewed ∈ Wg := t3_in (List.mem_of_getElem? (i := 88) rfl) rfl
theorem wc_242 : Cond.selects RX5 yX5_isSkewed yX5_isSkewed ∈ Wg := p2_in (q := (⟨"TicketGate$State", "isSkewed", "(I)Z"⟩, 10)) (List.mem_of_getElem? (i := 4) rfl)
theorem wc_243 : Cond.code yX5_isSkewed cX5_isSkewed 3 (some .boolean) ∈ Wg := t3_in (List.mem_of_getElem? (i := 89) rfl) rfl
theorem wc_244 : Cond.methodLink RX5 112 ⟨"TicketGate$Services", "get", "(II)I"⟩ ∈ Wg := t3_in (List.mem_of_getElem? (i := 111) rfl) rfl
theorem wc_245 : Cond.sameMethod "TicketGate$Services" "TicketGate$Table" "get" "(II)I" ∈ Wg := t3_in (List.mem_of_getElem? (i := 112) rfl) rfl
theorem wc_246 : Cond.selects RX3 ⟨"TicketGate$Services", "get", "(II)I"⟩ yX6_get ∈ Wg := t3_in (List.mem_of_getElem? (i := 113) rfl) rfl
theorem wc_247 : Cond.methodLink RX5 154 Lib.Math.min.name ∈ Wg := t3_in (List.mem_of_getElem? (i := 62) rfl) rfl
theorem wc_248 : Cond.methodLink RX5 113 yX7_canBeRenewed ∈ Wg := t3_in (List.mem_of_getElem? (i := 98) rfl) rfl
theorem wc_249 : Cond.instanceMethod yX7_canBeRenewed ∈ Wg := t3_in (List.mem_of_getElem? (i := 99) rfl) rfl
theorem wc_250 : Cond.selects RX7 yX7_canBeRenewed yX7_canBeRenewed ∈ Wg := t3_in (List.mem_of_getElem? (i := 100) rfl) rfl
theorem wc_251 : Cond.code yX7_canBeRenewed cX7_canBeRenewed 2 (some .boolean) ∈ Wg := t3_in (List.mem_of_getElem? (i := 101) rfl) rfl
theorem wc_252 : Cond.methodLink RX5 116 yX5_renewedEnd ∈ Wg := t3_in (List.mem_of_getElem? (i := 127) rfl) rfl
theorem wc_253 : Cond.instanceMethod yX5_renewedEnd ∈ Wg := t3_in (List.mem_of_getElem? (i := 129) rfl) rfl
theorem wc_254 : Cond.selects RX5 yX5_renewedEnd yX5_renewedEnd ∈ Wg := p2_in (q := (⟨"TicketGate$State", "renewedEnd", "(I)I"⟩, 10)) (List.mem_of_getElem? (i := 8) rfl)
theorem wc_255 : Cond.code yX5_renewedEnd cX5_renewedEnd 4 (some .int) ∈ Wg := t3_in (List.mem_of_getElem? (i := 130) rfl) rfl
theorem wc_256 : Cond.methodLink RX5 119 yX9_knows ∈ Wg := t3_in (List.mem_of_getElem? (i := 144) rfl) rfl
theorem wc_257 : Cond.instanceMethod yX9_knows ∈ Wg := t3_in (List.mem_of_getElem? (i := 145) rfl) rfl
theorem wc_258 : Cond.selects RX9 yX9_knows yX9_knows ∈ Wg := t3_in (List.mem_of_getElem? (i := 146) rfl) rfl
theorem wc_259 : Cond.initialized RX9 ∈ Wg := t1_in (List.mem_of_getElem? (i := 11) rfl) rfl
theorem wc_260 : Cond.code yX9_knows cX9_knows 7 (some .boolean) ∈ Wg := t3_in (List.mem_of_getElem? (i := 147) rfl) rfl
theorem wc_261 : Cond.methodLink RX5 157 ⟨"TicketGate$Tickets", "addRow", "()I"⟩ ∈ Wg := t3_in (List.mem_of_getElem? (i := 44) rfl) rfl
theorem wc_262 : Cond.sameMethod "TicketGate$Tickets" "TicketGate$Table" "addRow" "()I" ∈ Wg := t3_in (List.mem_of_getElem? (i := 45) rfl) rfl
theorem wc_263 : Cond.selects RX7 ⟨"TicketGate$Tickets", "addRow", "()I"⟩ yX6_addRow ∈ Wg := t3_in (List.mem_of_getElem? (i := 46) rfl) rfl
theorem wc_264 : Cond.methodLink RX5 136 ⟨"TicketGate$Tickets", "set", "(III)V"⟩ ∈ Wg := t3_in (List.mem_of_getElem? (i := 47) rfl) rfl
theorem wc_265 : Cond.sameMethod "TicketGate$Tickets" "TicketGate$Table" "set" "(III)V" ∈ Wg := t3_in (List.mem_of_getElem? (i := 48) rfl) rfl
theorem wc_266 : Cond.selects RX7 ⟨"TicketGate$Tickets", "set", "(III)V"⟩ yX6_set ∈ Wg := t3_in (List.mem_of_getElem? (i := 49) rfl) rfl
theorem wc_267 : Cond.methodLink RX5 140 yX5_drawKey ∈ Wg := t3_in (List.mem_of_getElem? (i := 50) rfl) rfl
theorem wc_268 : Cond.instanceMethod yX5_drawKey ∈ Wg := t3_in (List.mem_of_getElem? (i := 52) rfl) rfl
theorem wc_269 : Cond.selects RX5 yX5_drawKey yX5_drawKey ∈ Wg := p2_in (q := (⟨"TicketGate$State", "drawKey", "()I"⟩, 10)) (List.mem_of_getElem? (i := 0) rfl)
theorem wc_270 : Cond.code yX5_drawKey cX5_drawKey 1 (some .int) ∈ Wg := t3_in (List.mem_of_getElem? (i := 53) rfl) rfl
theorem wc_271 : Cond.methodLink RX5 160 Lib.Math.max.name ∈ Wg := t3_in (List.mem_of_getElem? (i := 63) rfl) rfl
theorem wc_272 : Cond.static Lib.Math.max.name ∈ Wg := t1_in (List.mem_of_getElem? (i := 48) rfl) rfl
theorem wc_273 : Cond.code Lib.Math.max.name Lib.Math.max.code 2 (some .int) ∈ Wg := t1_in (List.mem_of_getElem? (i := 49) rfl) rfl
theorem wc_274 : Cond.methodLink RX5 123 yX5_makeTicket ∈ Wg := t3_in (List.mem_of_getElem? (i := 40) rfl) rfl
theorem wc_275 : Cond.instanceMethod yX5_makeTicket ∈ Wg := t3_in (List.mem_of_getElem? (i := 42) rfl) rfl
theorem wc_276 : Cond.selects RX5 yX5_makeTicket yX5_makeTicket ∈ Wg := p1_in (q := (⟨"TicketGate$State", "makeTicket", "(III)I"⟩, 10)) (List.mem_of_getElem? (i := 15) rfl)
theorem wc_277 : Cond.code yX5_makeTicket cX5_makeTicket 5 (some .int) ∈ Wg := t3_in (List.mem_of_getElem? (i := 43) rfl) rfl
theorem wc_278 : Cond.constant RX5 127 2147483647 ∈ Wg := t3_in (List.mem_of_getElem? (i := 54) rfl) rfl
theorem wc_279 : Cond.methodLink RX5 128 yX5_setLife ∈ Wg := t3_in (List.mem_of_getElem? (i := 55) rfl) rfl
theorem wc_280 : Cond.instanceMethod yX5_setLife ∈ Wg := t3_in (List.mem_of_getElem? (i := 57) rfl) rfl
theorem wc_281 : Cond.selects RX5 yX5_setLife yX5_setLife ∈ Wg := p2_in (q := (⟨"TicketGate$State", "setLife", "(IZII)V"⟩, 10)) (List.mem_of_getElem? (i := 1) rfl)
theorem wc_282 : Cond.code yX5_setLife cX5_setLife 8 none ∈ Wg := t3_in (List.mem_of_getElem? (i := 58) rfl) rfl
theorem wc_283 : Cond.methodLink RX5 132 yX5_inheritLife ∈ Wg := t3_in (List.mem_of_getElem? (i := 94) rfl) rfl
theorem wc_284 : Cond.instanceMethod yX5_inheritLife ∈ Wg := t3_in (List.mem_of_getElem? (i := 96) rfl) rfl
theorem wc_285 : Cond.selects RX5 yX5_inheritLife yX5_inheritLife ∈ Wg := p2_in (q := (⟨"TicketGate$State", "inheritLife", "(II)V"⟩, 10)) (List.mem_of_getElem? (i := 5) rfl)
theorem wc_286 : Cond.code yX5_inheritLife cX5_inheritLife 4 none ∈ Wg := t3_in (List.mem_of_getElem? (i := 97) rfl) rfl
theorem wc_287 : Cond.methodLink RX5 144 yX9_addUse ∈ Wg := t3_in (List.mem_of_getElem? (i := 161) rfl) rfl
theorem wc_288 : Cond.instanceMethod yX9_addUse ∈ Wg := t3_in (List.mem_of_getElem? (i := 162) rfl) rfl
theorem wc_289 : Cond.selects RX9 yX9_addUse yX9_addUse ∈ Wg := t3_in (List.mem_of_getElem? (i := 163) rfl) rfl
theorem wc_290 : Cond.code yX9_addUse cX9_addUse 6 none ∈ Wg := t3_in (List.mem_of_getElem? (i := 164) rfl) rfl
theorem wc_291 : Cond.methodLink RX5 148 ⟨"TicketGate$Services", "set", "(III)V"⟩ ∈ Wg := t3_in (List.mem_of_getElem? (i := 180) rfl) rfl
theorem wc_292 : Cond.methodLink RX5 149 ⟨"TicketGate$Users", "set", "(III)V"⟩ ∈ Wg := t3_in (List.mem_of_getElem? (i := 181) rfl) rfl
theorem wc_293 : Cond.methodLink RX5 150 yX9_forgetBefore ∈ Wg := t3_in (List.mem_of_getElem? (i := 213) rfl) rfl
theorem wc_294 : Cond.instanceMethod yX9_forgetBefore ∈ Wg := t3_in (List.mem_of_getElem? (i := 214) rfl) rfl
theorem wc_295 : Cond.selects RX9 yX9_forgetBefore yX9_forgetBefore ∈ Wg := t3_in (List.mem_of_getElem? (i := 215) rfl) rfl
theorem wc_296 : Cond.code yX9_forgetBefore cX9_forgetBefore 3 none ∈ Wg := t3_in (List.mem_of_getElem? (i := 216) rfl) rfl
theorem wc_297 : Cond.laysFinal RX1 "TicketGate$Parser" "text" "LTicketGate$Bytes;" ∈ Wg := t1_in (List.mem_of_getElem? (i := 192) rfl) rfl
theorem wc_298 : Cond.laysFinal RX1 "TicketGate$Parser" "draft" "LTicketGate$State;" ∈ Wg := t1_in (List.mem_of_getElem? (i := 194) rfl) rfl
theorem wc_299 : Cond.lays RX1 "TicketGate$Parser" "start" "I" ∈ Wg := t1_in (List.mem_of_getElem? (i := 196) rfl) rfl
theorem wc_300 : Cond.lays RX1 "TicketGate$Parser" "end" "I" ∈ Wg := t1_in (List.mem_of_getElem? (i := 198) rfl) rfl
theorem wc_301 : Cond.lays RX1 "TicketGate$Parser" "kind" "I" ∈ Wg := t1_in (List.mem_of_getElem? (i := 200) rfl) rfl
theorem wc_302 : Cond.lays RX1 "TicketGate$Parser" "value" "I" ∈ Wg := t1_in (List.mem_of_getElem? (i := 202) rfl) rfl
theorem wc_303 : Cond.lays RX1 "TicketGate$Parser" "error" "I" ∈ Wg := t1_in (List.mem_of_getElem? (i := 204) rfl) rfl
theorem wc_304 : Cond.lays RX1 "TicketGate$Parser" "errorAt" "I" ∈ Wg := t1_in (List.mem_of_getElem? (i := 206) rfl) rfl
theorem wc_305 : Cond.fieldLink RX1 151 "TicketGate$Parser" "value" "I" ∈ Wg := t1_in (List.mem_of_getElem? (i := 188) rfl) rfl
theorem wc_306 : Cond.fieldLink RX1 29 "TicketGate$Parser" "error" "I" ∈ Wg := t1_in (List.mem_of_getElem? (i := 189) rfl) rfl
theorem wc_307 : Cond.fieldLink RX1 22 "TicketGate$Parser" "text" "LTicketGate$Bytes;" ∈ Wg := t1_in (List.mem_of_getElem? (i := 182) rfl) rfl
theorem wc_308 : Cond.fieldLink RX1 26 "TicketGate$Parser" "end" "I" ∈ Wg := t1_in (List.mem_of_getElem? (i := 186) rfl) rfl
theorem wc_309 : Cond.methodLink RX1 266 yX0_endOfBlanks ∈ Wg := t2_in (List.mem_of_getElem? (i := 53) rfl) rfl
theorem wc_310 : Cond.instanceMethod yX0_endOfBlanks ∈ Wg := t2_in (List.mem_of_getElem? (i := 54) rfl) rfl
theorem wc_311 : Cond.selects RX0 yX0_endOfBlanks yX0_endOfBlanks ∈ Wg := t2_in (List.mem_of_getElem? (i := 55) rfl) rfl
theorem wc_312 : Cond.code yX0_endOfBlanks cX0_endOfBlanks 3 (some .int) ∈ Wg := t2_in (List.mem_of_getElem? (i := 56) rfl) rfl
theorem wc_313 : Cond.fieldLink RX1 257 "TicketGate$Parser" "start" "I" ∈ Wg := t1_in (List.mem_of_getElem? (i := 185) rfl) rfl
theorem wc_314 : Cond.methodLink RX1 269 yX0_at ∈ Wg := t2_in (List.mem_of_getElem? (i := 61) rfl) rfl
theorem wc_315 : Cond.fieldLink RX1 39 "TicketGate$Parser" "kind" "I" ∈ Wg := t1_in (List.mem_of_getElem? (i := 187) rfl) rfl
theorem wc_316 : Cond.methodLink RX1 272 yX0_endOfRun ∈ Wg := t2_in (List.mem_of_getElem? (i := 62) rfl) rfl
theorem wc_317 : Cond.instanceMethod yX0_endOfRun ∈ Wg := t2_in (List.mem_of_getElem? (i := 63) rfl) rfl
theorem wc_318 : Cond.selects RX0 yX0_endOfRun yX0_endOfRun ∈ Wg := t2_in (List.mem_of_getElem? (i := 64) rfl) rfl
theorem wc_319 : Cond.code yX0_endOfRun cX0_endOfRun 5 (some .int) ∈ Wg := t2_in (List.mem_of_getElem? (i := 65) rfl) rfl
theorem wc_320 : Cond.methodLink RX1 279 yX0_numberBetween ∈ Wg := t2_in (List.mem_of_getElem? (i := 70) rfl) rfl
theorem wc_321 : Cond.instanceMethod yX0_numberBetween ∈ Wg := t2_in (List.mem_of_getElem? (i := 71) rfl) rfl
theorem wc_322 : Cond.selects RX0 yX0_numberBetween yX0_numberBetween ∈ Wg := t2_in (List.mem_of_getElem? (i := 72) rfl) rfl
theorem wc_323 : Cond.code yX0_numberBetween cX0_numberBetween 5 (some .int) ∈ Wg := t2_in (List.mem_of_getElem? (i := 73) rfl) rfl
theorem wc_324 : Cond.methodLink RX1 276 yX0_nameBetween ∈ Wg := t2_in (List.mem_of_getElem? (i := 66) rfl) rfl
theorem wc_325 : Cond.instanceMethod yX0_nameBetween ∈ Wg := t2_in (List.mem_of_getElem? (i := 67) rfl) rfl
theorem wc_326 : Cond.selects RX0 yX0_nameBetween yX0_nameBetween ∈ Wg := t2_in (List.mem_of_getElem? (i := 68) rfl) rfl
theorem wc_327 : Cond.code yX0_nameBetween cX0_nameBetween 6 (some .int) ∈ Wg := t2_in (List.mem_of_getElem? (i := 69) rfl) rfl
theorem wc_328 : Cond.methodLink RX1 260 yX0_isText ∈ Wg := t2_in (List.mem_of_getElem? (i := 87) rfl) rfl
theorem wc_329 : Cond.instanceMethod yX0_isText ∈ Wg := t2_in (List.mem_of_getElem? (i := 88) rfl) rfl
theorem wc_330 : Cond.selects RX0 yX0_isText yX0_isText ∈ Wg := t2_in (List.mem_of_getElem? (i := 89) rfl) rfl
theorem wc_331 : Cond.code yX0_isText cX0_isText 6 (some .boolean) ∈ Wg := t2_in (List.mem_of_getElem? (i := 90) rfl) rfl
theorem wc_332 : Cond.fieldLink RX1 18 "TicketGate$Parser" "errorAt" "I" ∈ Wg := t1_in (List.mem_of_getElem? (i := 191) rfl) rfl
theorem wc_333 : Cond.methodLink RX1 109 yX1_require ∈ Wg := t2_in (List.mem_of_getElem? (i := 91) rfl) rfl
theorem wc_334 : Cond.instanceMethod yX1_require ∈ Wg := t2_in (List.mem_of_getElem? (i := 93) rfl) rfl
theorem wc_335 : Cond.selects RX1 yX1_require yX1_require ∈ Wg := p1_in (q := (⟨"TicketGate$Parser", "require", "(ZI)V"⟩, 8)) (List.mem_of_getElem? (i := 3) rfl)
theorem wc_336 : Cond.initialized RX1 ∈ Wg := t1_in (List.mem_of_getElem? (i := 4) rfl) rfl
theorem wc_337 : Cond.code yX1_require cX1_require 3 none ∈ Wg := t2_in (List.mem_of_getElem? (i := 94) rfl) rfl
theorem wc_338 : Cond.methodLink RX1 32 yX1_take ∈ Wg := t2_in (List.mem_of_getElem? (i := 49) rfl) rfl
theorem wc_339 : Cond.instanceMethod yX1_take ∈ Wg := t2_in (List.mem_of_getElem? (i := 51) rfl) rfl
theorem wc_340 : Cond.selects RX1 yX1_take yX1_take ∈ Wg := p1_in (q := (⟨"TicketGate$Parser", "take", "()I"⟩, 8)) (List.mem_of_getElem? (i := 0) rfl)
theorem wc_341 : Cond.code yX1_take cX1_take 3 (some .int) ∈ Wg := t2_in (List.mem_of_getElem? (i := 52) rfl) rfl
theorem wc_342 : Cond.methodLink RX1 47 yX1_isWord ∈ Wg := t2_in (List.mem_of_getElem? (i := 83) rfl) rfl
theorem wc_343 : Cond.instanceMethod yX1_isWord ∈ Wg := t2_in (List.mem_of_getElem? (i := 85) rfl) rfl
theorem wc_344 : Cond.selects RX1 yX1_isWord yX1_isWord ∈ Wg := p1_in (q := (⟨"TicketGate$Parser", "isWord", "(Ljava/lang/String;)Z"⟩, 8)) (List.mem_of_getElem? (i := 2) rfl)
theorem wc_345 : Cond.code yX1_isWord cX1_isWord 2 (some .boolean) ∈ Wg := t2_in (List.mem_of_getElem? (i := 86) rfl) rfl
theorem wc_346 : Cond.methodLink RX1 115 yX1_number ∈ Wg := t2_in (List.mem_of_getElem? (i := 95) rfl) rfl
theorem wc_347 : Cond.instanceMethod yX1_number ∈ Wg := t2_in (List.mem_of_getElem? (i := 97) rfl) rfl
theorem wc_348 : Cond.selects RX1 yX1_number yX1_number ∈ Wg := p1_in (q := (⟨"TicketGate$Parser", "number", "(II)I"⟩, 8)) (List.mem_of_getElem? (i := 4) rfl)
theorem wc_349 : Cond.code yX1_number cX1_number 3 (some .int) ∈ Wg := t2_in (List.mem_of_getElem? (i := 98) rfl) rfl
theorem wc_350 : Cond.methodLink RX1 119 yX1_semicolon ∈ Wg := t2_in (List.mem_of_getElem? (i := 99) rfl) rfl
theorem wc_351 : Cond.instanceMethod yX1_semicolon ∈ Wg := t2_in (List.mem_of_getElem? (i := 101) rfl) rfl
theorem wc_352 : Cond.selects RX1 yX1_semicolon yX1_semicolon ∈ Wg := p1_in (q := (⟨"TicketGate$Parser", "semicolon", "(Z)Z"⟩, 8)) (List.mem_of_getElem? (i := 5) rfl)
theorem wc_353 : Cond.code yX1_semicolon cX1_semicolon 2 (some .boolean) ∈ Wg := t2_in (List.mem_of_getElem? (i := 102) rfl) rfl
theorem wc_354 : Cond.fieldLink RX1 12 "TicketGate$Parser" "draft" "LTicketGate$State;" ∈ Wg := t1_in (List.mem_of_getElem? (i := 183) rfl) rfl
theorem wc_355 : Cond.methodLink RX1 123 yX5_begin ∈ Wg := t2_in (List.mem_of_getElem? (i := 103) rfl) rfl
theorem wc_356 : Cond.instanceMethod yX5_begin ∈ Wg := t2_in (List.mem_of_getElem? (i := 104) rfl) rfl
theorem wc_357 : Cond.selects RX5 yX5_begin yX5_begin ∈ Wg := t2_in (List.mem_of_getElem? (i := 105) rfl) rfl
theorem wc_358 : Cond.code yX5_begin cX5_begin 3 none ∈ Wg := t2_in (List.mem_of_getElem? (i := 106) rfl) rfl
theorem wc_359 : Cond.methodLink RX1 241 yX5_letPass ∈ Wg := t3_in (List.mem_of_getElem? (i := 209) rfl) rfl
theorem wc_360 : Cond.instanceMethod yX5_letPass ∈ Wg := t3_in (List.mem_of_getElem? (i := 210) rfl) rfl
theorem wc_361 : Cond.selects RX5 yX5_letPass yX5_letPass ∈ Wg := t3_in (List.mem_of_getElem? (i := 211) rfl) rfl
theorem wc_362 : Cond.code yX5_letPass cX5_letPass 2 none ∈ Wg := t3_in (List.mem_of_getElem? (i := 212) rfl) rfl
theorem wc_363 : Cond.methodLink RX1 238 yX7_removeDead ∈ Wg := t3_in (List.mem_of_getElem? (i := 195) rfl) rfl
theorem wc_364 : Cond.instanceMethod yX7_removeDead ∈ Wg := t3_in (List.mem_of_getElem? (i := 196) rfl) rfl
theorem wc_365 : Cond.selects RX7 yX7_removeDead yX7_removeDead ∈ Wg := t3_in (List.mem_of_getElem? (i := 197) rfl) rfl
theorem wc_366 : Cond.code yX7_removeDead cX7_removeDead 4 (some .int) ∈ Wg := t3_in (List.mem_of_getElem? (i := 198) rfl) rfl
theorem wc_367 : Cond.selects RX7 ⟨"TicketGate$Table", "get", "(II)I"⟩ yX6_get ∈ Wg := t2_in (List.mem_of_getElem? (i := 159) rfl) rfl
theorem wc_368 : Cond.methodLink RX1 250 ⟨"TicketGate$Tickets", "rowWith", "(II)I"⟩ ∈ Wg := t3_in (List.mem_of_getElem? (i := 73) rfl) rfl
theorem wc_369 : Cond.sameMethod "TicketGate$Tickets" "TicketGate$Table" "rowWith" "(II)I" ∈ Wg := t3_in (List.mem_of_getElem? (i := 74) rfl) rfl
theorem wc_370 : Cond.selects RX7 ⟨"TicketGate$Tickets", "rowWith", "(II)I"⟩ yX6_rowWith ∈ Wg := t3_in (List.mem_of_getElem? (i := 75) rfl) rfl
theorem wc_371 : Cond.methodLink RX1 197 yX1_knownTicket ∈ Wg := t3_in (List.mem_of_getElem? (i := 69) rfl) rfl
theorem wc_372 : Cond.instanceMethod yX1_knownTicket ∈ Wg := t3_in (List.mem_of_getElem? (i := 71) rfl) rfl
theorem wc_373 : Cond.selects RX1 yX1_knownTicket yX1_knownTicket ∈ Wg := p2_in (q := (⟨"TicketGate$Parser", "knownTicket", "()I"⟩, 8)) (List.mem_of_getElem? (i := 3) rfl)
theorem wc_374 : Cond.code yX1_knownTicket cX1_knownTicket 2 (some .int) ∈ Wg := t3_in (List.mem_of_getElem? (i := 72) rfl) rfl
theorem wc_375 : Cond.methodLink RX1 229 ⟨"TicketGate$Tickets", "removeRow", "(I)V"⟩ ∈ Wg := t3_in (List.mem_of_getElem? (i := 187) rfl) rfl
theorem wc_376 : Cond.methodLink RX1 219 yX5_whyNoCheese ∈ Wg := t3_in (List.mem_of_getElem? (i := 140) rfl) rfl
theorem wc_377 : Cond.instanceMethod yX5_whyNoCheese ∈ Wg := t3_in (List.mem_of_getElem? (i := 141) rfl) rfl
theorem wc_378 : Cond.selects RX5 yX5_whyNoCheese yX5_whyNoCheese ∈ Wg := t3_in (List.mem_of_getElem? (i := 142) rfl) rfl
theorem wc_379 : Cond.code yX5_whyNoCheese cX5_whyNoCheese 6 (some .int) ∈ Wg := t3_in (List.mem_of_getElem? (i := 143) rfl) rfl
theorem wc_380 : Cond.methodLink RX1 222 yX5_giveCheese ∈ Wg := t3_in (List.mem_of_getElem? (i := 157) rfl) rfl
theorem wc_381 : Cond.instanceMethod yX5_giveCheese ∈ Wg := t3_in (List.mem_of_getElem? (i := 158) rfl) rfl
theorem wc_382 : Cond.selects RX5 yX5_giveCheese yX5_giveCheese ∈ Wg := t3_in (List.mem_of_getElem? (i := 159) rfl) rfl
theorem wc_383 : Cond.code yX5_giveCheese cX5_giveCheese 5 (some .int) ∈ Wg := t3_in (List.mem_of_getElem? (i := 160) rfl) rfl
theorem wc_384 : Cond.methodLink RX1 212 yX5_whyNoRenewal ∈ Wg := t3_in (List.mem_of_getElem? (i := 123) rfl) rfl
theorem wc_385 : Cond.instanceMethod yX5_whyNoRenewal ∈ Wg := t3_in (List.mem_of_getElem? (i := 124) rfl) rfl
theorem wc_386 : Cond.selects RX5 yX5_whyNoRenewal yX5_whyNoRenewal ∈ Wg := t3_in (List.mem_of_getElem? (i := 125) rfl) rfl
theorem wc_387 : Cond.code yX5_whyNoRenewal cX5_whyNoRenewal 2 (some .int) ∈ Wg := t3_in (List.mem_of_getElem? (i := 126) rfl) rfl
theorem wc_388 : Cond.methodLink RX1 216 yX5_makeRenewal ∈ Wg := t3_in (List.mem_of_getElem? (i := 131) rfl) rfl
theorem wc_389 : Cond.instanceMethod yX5_makeRenewal ∈ Wg := t3_in (List.mem_of_getElem? (i := 132) rfl) rfl
theorem wc_390 : Cond.selects RX5 yX5_makeRenewal yX5_makeRenewal ∈ Wg := t3_in (List.mem_of_getElem? (i := 133) rfl) rfl
theorem wc_391 : Cond.code yX5_makeRenewal cX5_makeRenewal 3 (some .int) ∈ Wg := t3_in (List.mem_of_getElem? (i := 134) rfl) rfl
theorem wc_392 : Cond.methodLink RX1 247 ⟨"TicketGate$Table", "rowWith", "(II)I"⟩ ∈ Wg := t2_in (List.mem_of_getElem? (i := 202) rfl) rfl
theorem wc_393 : Cond.sameMethod "TicketGate$Table" "TicketGate$Table" "rowWith" "(II)I" ∈ Wg := t7_in (List.mem_of_getElem? (i := 120) rfl) rfl
theorem wc_394 : Cond.selects RX3 ⟨"TicketGate$Table", "rowWith", "(II)I"⟩ yX6_rowWith ∈ Wg := t7_in (List.mem_of_getElem? (i := 122) rfl) rfl
theorem wc_395 : Cond.methodLink RX1 147 yX1_knownName ∈ Wg := t2_in (List.mem_of_getElem? (i := 198) rfl) rfl
theorem wc_396 : Cond.instanceMethod yX1_knownName ∈ Wg := t2_in (List.mem_of_getElem? (i := 200) rfl) rfl
theorem wc_397 : Cond.selects RX1 yX1_knownName yX1_knownName ∈ Wg := p1_in (q := (⟨"TicketGate$Parser", "knownName", "(LTicketGate$Table;I)I"⟩, 8)) (List.mem_of_getElem? (i := 11) rfl)
theorem wc_398 : Cond.code yX1_knownName cX1_knownName 4 (some .int) ∈ Wg := t2_in (List.mem_of_getElem? (i := 201) rfl) rfl
theorem wc_399 : Cond.methodLink RX1 206 yX5_whyNoRequest ∈ Wg := t3_in (List.mem_of_getElem? (i := 107) rfl) rfl
theorem wc_400 : Cond.instanceMethod yX5_whyNoRequest ∈ Wg := t3_in (List.mem_of_getElem? (i := 108) rfl) rfl
theorem wc_401 : Cond.selects RX5 yX5_whyNoRequest yX5_whyNoRequest ∈ Wg := t3_in (List.mem_of_getElem? (i := 109) rfl) rfl
theorem wc_402 : Cond.code yX5_whyNoRequest cX5_whyNoRequest 3 (some .int) ∈ Wg := t3_in (List.mem_of_getElem? (i := 110) rfl) rfl
theorem wc_403 : Cond.methodLink RX1 209 yX5_makeRequest ∈ Wg := t3_in (List.mem_of_getElem? (i := 114) rfl) rfl
theorem wc_404 : Cond.instanceMethod yX5_makeRequest ∈ Wg := t3_in (List.mem_of_getElem? (i := 115) rfl) rfl
theorem wc_405 : Cond.selects RX5 yX5_makeRequest yX5_makeRequest ∈ Wg := t3_in (List.mem_of_getElem? (i := 116) rfl) rfl
theorem wc_406 : Cond.code yX5_makeRequest cX5_makeRequest 5 (some .int) ∈ Wg := t3_in (List.mem_of_getElem? (i := 117) rfl) rfl
theorem wc_407 : Cond.selects RX2 ⟨"TicketGate$Table", "rowWith", "(II)I"⟩ yX6_rowWith ∈ Wg := t7_in (List.mem_of_getElem? (i := 121) rfl) rfl
theorem wc_408 : Cond.methodLink RX1 200 yX5_whyNoReferral ∈ Wg := t3_in (List.mem_of_getElem? (i := 76) rfl) rfl
theorem wc_409 : Cond.instanceMethod yX5_whyNoReferral ∈ Wg := t3_in (List.mem_of_getElem? (i := 77) rfl) rfl
theorem wc_410 : Cond.selects RX5 yX5_whyNoReferral yX5_whyNoReferral ∈ Wg := t3_in (List.mem_of_getElem? (i := 78) rfl) rfl
theorem wc_411 : Cond.code yX5_whyNoReferral cX5_whyNoReferral 3 (some .int) ∈ Wg := t3_in (List.mem_of_getElem? (i := 79) rfl) rfl
theorem wc_412 : Cond.methodLink RX1 203 yX5_makeReferral ∈ Wg := t3_in (List.mem_of_getElem? (i := 90) rfl) rfl
theorem wc_413 : Cond.instanceMethod yX5_makeReferral ∈ Wg := t3_in (List.mem_of_getElem? (i := 91) rfl) rfl
theorem wc_414 : Cond.selects RX5 yX5_makeReferral yX5_makeReferral ∈ Wg := t3_in (List.mem_of_getElem? (i := 92) rfl) rfl
theorem wc_415 : Cond.code yX5_makeReferral cX5_makeReferral 4 (some .int) ∈ Wg := t3_in (List.mem_of_getElem? (i := 93) rfl) rfl
theorem wc_416 : Cond.selects RX8 ⟨"TicketGate$Table", "rowWith", "(II)I"⟩ yX6_rowWith ∈ Wg := t7_in (List.mem_of_getElem? (i := 124) rfl) rfl
theorem wc_417 : Cond.methodLink RX1 190 yX5_whyNoLogin ∈ Wg := t3_in (List.mem_of_getElem? (i := 18) rfl) rfl
theorem wc_418 : Cond.instanceMethod yX5_whyNoLogin ∈ Wg := t3_in (List.mem_of_getElem? (i := 19) rfl) rfl
theorem wc_419 : Cond.selects RX5 yX5_whyNoLogin yX5_whyNoLogin ∈ Wg := t3_in (List.mem_of_getElem? (i := 20) rfl) rfl
theorem wc_420 : Cond.code yX5_whyNoLogin cX5_whyNoLogin 3 (some .int) ∈ Wg := t3_in (List.mem_of_getElem? (i := 21) rfl) rfl
theorem wc_421 : Cond.methodLink RX1 193 yX5_makeLogin ∈ Wg := t3_in (List.mem_of_getElem? (i := 36) rfl) rfl
theorem wc_422 : Cond.instanceMethod yX5_makeLogin ∈ Wg := t3_in (List.mem_of_getElem? (i := 37) rfl) rfl
theorem wc_423 : Cond.selects RX5 yX5_makeLogin yX5_makeLogin ∈ Wg := t3_in (List.mem_of_getElem? (i := 38) rfl) rfl
theorem wc_424 : Cond.code yX5_makeLogin cX5_makeLogin 4 (some .int) ∈ Wg := t3_in (List.mem_of_getElem? (i := 39) rfl) rfl
theorem wc_425 : Cond.methodLink RX1 244 yX5_codeOfName ∈ Wg := t2_in (List.mem_of_getElem? (i := 144) rfl) rfl
theorem wc_426 : Cond.instanceMethod yX5_codeOfName ∈ Wg := t2_in (List.mem_of_getElem? (i := 145) rfl) rfl
theorem wc_427 : Cond.selects RX5 yX5_codeOfName yX5_codeOfName ∈ Wg := t2_in (List.mem_of_getElem? (i := 146) rfl) rfl
theorem wc_428 : Cond.code yX5_codeOfName cX5_codeOfName 5 (some .int) ∈ Wg := t2_in (List.mem_of_getElem? (i := 147) rfl) rfl
theorem wc_429 : Cond.methodLink RX1 178 ⟨"TicketGate$Services", "isFull", "()Z"⟩ ∈ Wg := t2_in (List.mem_of_getElem? (i := 239) rfl) rfl
theorem wc_430 : Cond.sameMethod "TicketGate$Services" "TicketGate$Table" "isFull" "()Z" ∈ Wg := t3_in (List.mem_of_getElem? (i := 0) rfl) rfl
theorem wc_431 : Cond.selects RX3 ⟨"TicketGate$Services", "isFull", "()Z"⟩ yX6_isFull ∈ Wg := t3_in (List.mem_of_getElem? (i := 1) rfl) rfl
theorem wc_432 : Cond.methodLink RX1 137 yX1_newName ∈ Wg := t2_in (List.mem_of_getElem? (i := 140) rfl) rfl
theorem wc_433 : Cond.instanceMethod yX1_newName ∈ Wg := t2_in (List.mem_of_getElem? (i := 142) rfl) rfl
theorem wc_434 : Cond.selects RX1 yX1_newName yX1_newName ∈ Wg := p1_in (q := (⟨"TicketGate$Parser", "newName", "()I"⟩, 8)) (List.mem_of_getElem? (i := 8) rfl)
theorem wc_435 : Cond.code yX1_newName cX1_newName 1 (some .int) ∈ Wg := t2_in (List.mem_of_getElem? (i := 143) rfl) rfl
theorem wc_436 : Cond.methodLink RX1 181 yX3_addService ∈ Wg := t3_in (List.mem_of_getElem? (i := 2) rfl) rfl
theorem wc_437 : Cond.instanceMethod yX3_addService ∈ Wg := t3_in (List.mem_of_getElem? (i := 3) rfl) rfl
theorem wc_438 : Cond.selects RX3 yX3_addService yX3_addService ∈ Wg := t3_in (List.mem_of_getElem? (i := 4) rfl) rfl
theorem wc_439 : Cond.initialized RX3 ∈ Wg := t1_in (List.mem_of_getElem? (i := 9) rfl) rfl
theorem wc_440 : Cond.code yX3_addService cX3_addService 5 none ∈ Wg := t3_in (List.mem_of_getElem? (i := 5) rfl) rfl
theorem wc_441 : Cond.methodLink RX1 168 ⟨"TicketGate$Users", "isFull", "()Z"⟩ ∈ Wg := t2_in (List.mem_of_getElem? (i := 221) rfl) rfl
theorem wc_442 : Cond.sameMethod "TicketGate$Users" "TicketGate$Table" "isFull" "()Z" ∈ Wg := t2_in (List.mem_of_getElem? (i := 222) rfl) rfl
theorem wc_443 : Cond.selects RX8 ⟨"TicketGate$Users", "isFull", "()Z"⟩ yX6_isFull ∈ Wg := t2_in (List.mem_of_getElem? (i := 223) rfl) rfl
theorem wc_444 : Cond.methodLink RX1 140 yX1_clockWord ∈ Wg := t2_in (List.mem_of_getElem? (i := 170) rfl) rfl
theorem wc_445 : Cond.instanceMethod yX1_clockWord ∈ Wg := t2_in (List.mem_of_getElem? (i := 172) rfl) rfl
theorem wc_446 : Cond.selects RX1 yX1_clockWord yX1_clockWord ∈ Wg := p1_in (q := (⟨"TicketGate$Parser", "clockWord", "()I"⟩, 8)) (List.mem_of_getElem? (i := 9) rfl)
theorem wc_447 : Cond.code yX1_clockWord cX1_clockWord 3 (some .int) ∈ Wg := t2_in (List.mem_of_getElem? (i := 173) rfl) rfl
theorem wc_448 : Cond.methodLink RX1 171 yX8_addUser ∈ Wg := t2_in (List.mem_of_getElem? (i := 224) rfl) rfl
theorem wc_449 : Cond.instanceMethod yX8_addUser ∈ Wg := t2_in (List.mem_of_getElem? (i := 225) rfl) rfl
theorem wc_450 : Cond.selects RX8 yX8_addUser yX8_addUser ∈ Wg := t2_in (List.mem_of_getElem? (i := 226) rfl) rfl
theorem wc_451 : Cond.initialized RX8 ∈ Wg := t1_in (List.mem_of_getElem? (i := 8) rfl) rfl
theorem wc_452 : Cond.code yX8_addUser cX8_addUser 6 none ∈ Wg := t2_in (List.mem_of_getElem? (i := 227) rfl) rfl
theorem wc_453 : Cond.methodLink RX1 154 ⟨"TicketGate$Realms", "rowWith", "(II)I"⟩ ∈ Wg := t2_in (List.mem_of_getElem? (i := 203) rfl) rfl
theorem wc_454 : Cond.methodLink RX1 157 yX2_hasTrust ∈ Wg := t2_in (List.mem_of_getElem? (i := 204) rfl) rfl
theorem wc_455 : Cond.methodLink RX1 161 yX2_addTrust ∈ Wg := t2_in (List.mem_of_getElem? (i := 212) rfl) rfl
theorem wc_456 : Cond.instanceMethod yX2_addTrust ∈ Wg := t2_in (List.mem_of_getElem? (i := 213) rfl) rfl
theorem wc_457 : Cond.selects RX2 yX2_addTrust yX2_addTrust ∈ Wg := t2_in (List.mem_of_getElem? (i := 214) rfl) rfl
theorem wc_458 : Cond.code yX2_addTrust cX2_addTrust 3 none ∈ Wg := t2_in (List.mem_of_getElem? (i := 215) rfl) rfl
theorem wc_459 : Cond.methodLink RX1 131 ⟨"TicketGate$Realms", "isFull", "()Z"⟩ ∈ Wg := t2_in (List.mem_of_getElem? (i := 134) rfl) rfl
theorem wc_460 : Cond.sameMethod "TicketGate$Realms" "TicketGate$Table" "isFull" "()Z" ∈ Wg := t2_in (List.mem_of_getElem? (i := 135) rfl) rfl
theorem wc_461 : Cond.selects RX2 ⟨"TicketGate$Realms", "isFull", "()Z"⟩ yX6_isFull ∈ Wg := t2_in (List.mem_of_getElem? (i := 137) rfl) rfl
theorem wc_462 : Cond.methodLink RX1 143 yX2_addRealm ∈ Wg := t2_in (List.mem_of_getElem? (i := 177) rfl) rfl
theorem wc_463 : Cond.instanceMethod yX2_addRealm ∈ Wg := t2_in (List.mem_of_getElem? (i := 178) rfl) rfl
theorem wc_464 : Cond.selects RX2 yX2_addRealm yX2_addRealm ∈ Wg := t2_in (List.mem_of_getElem? (i := 179) rfl) rfl
theorem wc_465 : Cond.code yX2_addRealm cX2_addRealm 6 none ∈ Wg := t2_in (List.mem_of_getElem? (i := 180) rfl) rfl
theorem wc_466 : Cond.methodLink RX1 106 yX1_readPass ∈ Wg := t3_in (List.mem_of_getElem? (i := 205) rfl) rfl
theorem wc_467 : Cond.instanceMethod yX1_readPass ∈ Wg := t3_in (List.mem_of_getElem? (i := 207) rfl) rfl
theorem wc_468 : Cond.selects RX1 yX1_readPass yX1_readPass ∈ Wg := p2_in (q := (⟨"TicketGate$Parser", "readPass", "()V"⟩, 8)) (List.mem_of_getElem? (i := 12) rfl)
theorem wc_469 : Cond.code yX1_readPass cX1_readPass 2 none ∈ Wg := t3_in (List.mem_of_getElem? (i := 208) rfl) rfl
theorem wc_470 : Cond.methodLink RX1 101 yX1_readSweep ∈ Wg := t3_in (List.mem_of_getElem? (i := 191) rfl) rfl
theorem wc_471 : Cond.instanceMethod yX1_readSweep ∈ Wg := t3_in (List.mem_of_getElem? (i := 193) rfl) rfl
theorem wc_472 : Cond.selects RX1 yX1_readSweep yX1_readSweep ∈ Wg := p2_in (q := (⟨"TicketGate$Parser", "readSweep", "()V"⟩, 8)) (List.mem_of_getElem? (i := 11) rfl)
theorem wc_473 : Cond.code yX1_readSweep cX1_readSweep 1 none ∈ Wg := t3_in (List.mem_of_getElem? (i := 194) rfl) rfl
theorem wc_474 : Cond.methodLink RX1 96 yX1_readDrop ∈ Wg := t3_in (List.mem_of_getElem? (i := 183) rfl) rfl
theorem wc_475 : Cond.instanceMethod yX1_readDrop ∈ Wg := t3_in (List.mem_of_getElem? (i := 185) rfl) rfl
theorem wc_476 : Cond.selects RX1 yX1_readDrop yX1_readDrop ∈ Wg := p2_in (q := (⟨"TicketGate$Parser", "readDrop", "()V"⟩, 8)) (List.mem_of_getElem? (i := 10) rfl)
theorem wc_477 : Cond.code yX1_readDrop cX1_readDrop 2 none ∈ Wg := t3_in (List.mem_of_getElem? (i := 186) rfl) rfl
theorem wc_478 : Cond.methodLink RX1 91 yX1_readCheese ∈ Wg := t3_in (List.mem_of_getElem? (i := 136) rfl) rfl
theorem wc_479 : Cond.instanceMethod yX1_readCheese ∈ Wg := t3_in (List.mem_of_getElem? (i := 138) rfl) rfl
theorem wc_480 : Cond.selects RX1 yX1_readCheese yX1_readCheese ∈ Wg := p2_in (q := (⟨"TicketGate$Parser", "readCheese", "()V"⟩, 8)) (List.mem_of_getElem? (i := 9) rfl)
theorem wc_481 : Cond.code yX1_readCheese cX1_readCheese 2 none ∈ Wg := t3_in (List.mem_of_getElem? (i := 139) rfl) rfl
theorem wc_482 : Cond.methodLink RX1 86 yX1_readRenew ∈ Wg := t3_in (List.mem_of_getElem? (i := 119) rfl) rfl
theorem wc_483 : Cond.instanceMethod yX1_readRenew ∈ Wg := t3_in (List.mem_of_getElem? (i := 121) rfl) rfl
theorem wc_484 : Cond.selects RX1 yX1_readRenew yX1_readRenew ∈ Wg := p2_in (q := (⟨"TicketGate$Parser", "readRenew", "()V"⟩, 8)) (List.mem_of_getElem? (i := 7) rfl)
theorem wc_485 : Cond.code yX1_readRenew cX1_readRenew 2 none ∈ Wg := t3_in (List.mem_of_getElem? (i := 122) rfl) rfl
theorem wc_486 : Cond.methodLink RX1 81 yX1_readRequest ∈ Wg := t3_in (List.mem_of_getElem? (i := 103) rfl) rfl
theorem wc_487 : Cond.instanceMethod yX1_readRequest ∈ Wg := t3_in (List.mem_of_getElem? (i := 105) rfl) rfl
theorem wc_488 : Cond.selects RX1 yX1_readRequest yX1_readRequest ∈ Wg := p2_in (q := (⟨"TicketGate$Parser", "readRequest", "()V"⟩, 8)) (List.mem_of_getElem? (i := 6) rfl)
theorem wc_489 : Cond.code yX1_readRequest cX1_readRequest 3 none ∈ Wg := t3_in (List.mem_of_getElem? (i := 106) rfl) rfl
theorem wc_490 : Cond.methodLink RX1 76 yX1_readRefer ∈ Wg := t3_in (List.mem_of_getElem? (i := 65) rfl) rfl
theorem wc_491 : Cond.instanceMethod yX1_readRefer ∈ Wg := t3_in (List.mem_of_getElem? (i := 67) rfl) rfl
theorem wc_492 : Cond.selects RX1 yX1_readRefer yX1_readRefer ∈ Wg := p2_in (q := (⟨"TicketGate$Parser", "readRefer", "()V"⟩, 8)) (List.mem_of_getElem? (i := 2) rfl)
theorem wc_493 : Cond.code yX1_readRefer cX1_readRefer 3 none ∈ Wg := t3_in (List.mem_of_getElem? (i := 68) rfl) rfl
theorem wc_494 : Cond.methodLink RX1 71 yX1_readLogin ∈ Wg := t3_in (List.mem_of_getElem? (i := 13) rfl) rfl
theorem wc_495 : Cond.instanceMethod yX1_readLogin ∈ Wg := t3_in (List.mem_of_getElem? (i := 15) rfl) rfl
theorem wc_496 : Cond.selects RX1 yX1_readLogin yX1_readLogin ∈ Wg := p1_in (q := (⟨"TicketGate$Parser", "readLogin", "()V"⟩, 8)) (List.mem_of_getElem? (i := 14) rfl)
theorem wc_497 : Cond.code yX1_readLogin cX1_readLogin 4 none ∈ Wg := t3_in (List.mem_of_getElem? (i := 16) rfl) rfl
theorem wc_498 : Cond.methodLink RX1 66 yX1_readService ∈ Wg := t2_in (List.mem_of_getElem? (i := 235) rfl) rfl
theorem wc_499 : Cond.instanceMethod yX1_readService ∈ Wg := t2_in (List.mem_of_getElem? (i := 237) rfl) rfl
theorem wc_500 : Cond.selects RX1 yX1_readService yX1_readService ∈ Wg := p1_in (q := (⟨"TicketGate$Parser", "readService", "()V"⟩, 8)) (List.mem_of_getElem? (i := 13) rfl)
theorem wc_501 : Cond.code yX1_readService cX1_readService 4 none ∈ Wg := t2_in (List.mem_of_getElem? (i := 238) rfl) rfl
theorem wc_502 : Cond.methodLink RX1 61 yX1_readUser ∈ Wg := t2_in (List.mem_of_getElem? (i := 217) rfl) rfl
theorem wc_503 : Cond.instanceMethod yX1_readUser ∈ Wg := t2_in (List.mem_of_getElem? (i := 219) rfl) rfl
theorem wc_504 : Cond.selects RX1 yX1_readUser yX1_readUser ∈ Wg := p1_in (q := (⟨"TicketGate$Parser", "readUser", "()V"⟩, 8)) (List.mem_of_getElem? (i := 12) rfl)
theorem wc_505 : Cond.code yX1_readUser cX1_readUser 6 none ∈ Wg := t2_in (List.mem_of_getElem? (i := 220) rfl) rfl
theorem wc_506 : Cond.methodLink RX1 56 yX1_readTrust ∈ Wg := t2_in (List.mem_of_getElem? (i := 194) rfl) rfl
theorem wc_507 : Cond.instanceMethod yX1_readTrust ∈ Wg := t2_in (List.mem_of_getElem? (i := 196) rfl) rfl
theorem wc_508 : Cond.selects RX1 yX1_readTrust yX1_readTrust ∈ Wg := p1_in (q := (⟨"TicketGate$Parser", "readTrust", "()V"⟩, 8)) (List.mem_of_getElem? (i := 10) rfl)
theorem wc_509 : Cond.code yX1_readTrust cX1_readTrust 3 none ∈ Wg := t2_in (List.mem_of_getElem? (i := 197) rfl) rfl
theorem wc_510 : Cond.methodLink RX1 51 yX1_readRealm ∈ Wg := t2_in (List.mem_of_getElem? (i := 130) rfl) rfl
theorem wc_511 : Cond.instanceMethod yX1_readRealm ∈ Wg := t2_in (List.mem_of_getElem? (i := 132) rfl) rfl
theorem wc_512 : Cond.selects RX1 yX1_readRealm yX1_readRealm ∈ Wg := p1_in (q := (⟨"TicketGate$Parser", "readRealm", "()V"⟩, 8)) (List.mem_of_getElem? (i := 7) rfl)
theorem wc_513 : Cond.code yX1_readRealm cX1_readRealm 6 none ∈ Wg := t2_in (List.mem_of_getElem? (i := 133) rfl) rfl
theorem wc_514 : Cond.methodLink RX1 36 yX1_readGate ∈ Wg := t2_in (List.mem_of_getElem? (i := 78) rfl) rfl
theorem wc_515 : Cond.instanceMethod yX1_readGate ∈ Wg := t2_in (List.mem_of_getElem? (i := 80) rfl) rfl
theorem wc_516 : Cond.selects RX1 yX1_readGate yX1_readGate ∈ Wg := p1_in (q := (⟨"TicketGate$Parser", "readGate", "()V"⟩, 8)) (List.mem_of_getElem? (i := 1) rfl)
theorem wc_517 : Cond.code yX1_readGate cX1_readGate 3 none ∈ Wg := t2_in (List.mem_of_getElem? (i := 81) rfl) rfl
theorem wc_518 : Cond.methodLink RX1 42 yX1_readStatement ∈ Wg := t2_in (List.mem_of_getElem? (i := 125) rfl) rfl
theorem wc_519 : Cond.instanceMethod yX1_readStatement ∈ Wg := t2_in (List.mem_of_getElem? (i := 127) rfl) rfl
theorem wc_520 : Cond.selects RX1 yX1_readStatement yX1_readStatement ∈ Wg := p1_in (q := (⟨"TicketGate$Parser", "readStatement", "()V"⟩, 8)) (List.mem_of_getElem? (i := 6) rfl)
theorem wc_521 : Cond.code yX1_readStatement cX1_readStatement 1 none ∈ Wg := t2_in (List.mem_of_getElem? (i := 128) rfl) rfl
theorem layc_X0 : ∀ k, k < 2 → u_lay RX0 TX0 k ∈ Wg := fun k hk => match k, hk with
  | 0, _ => wc_0
  | 1, _ => wc_1
  | k + 2, h => absurd h (by omega)
theorem layc_X2 : ∀ k, k < 4 → u_lay RX2 TX2 k ∈ Wg := fun k hk => match k, hk with
  | 0, _ => wc_41
  | 1, _ => wc_42
  | 2, _ => wc_43
  | 3, _ => wc_44
  | k + 4, h => absurd h (by omega)
theorem layc_X3 : ∀ k, k < 4 → u_lay RX3 TX3 k ∈ Wg := fun k hk => match k, hk with
  | 0, _ => wc_68
  | 1, _ => wc_69
  | 2, _ => wc_70
  | 3, _ => wc_71
  | k + 4, h => absurd h (by omega)
theorem layc_X7 : ∀ k, k < 4 → u_lay RX7 TX7 k ∈ Wg := fun k hk => match k, hk with
  | 0, _ => wc_78
  | 1, _ => wc_79
  | 2, _ => wc_80
  | 3, _ => wc_81
  | k + 4, h => absurd h (by omega)
theorem layc_X8 : ∀ k, k < 4 → u_lay RX8 TX8 k ∈ Wg := fun k hk => match k, hk with
  | 0, _ => wc_98
  | 1, _ => wc_99
  | 2, _ => wc_100
  | 3, _ => wc_101
  | k + 4, h => absurd h (by omega)
theorem layc_X9 : ∀ k, k < 4 → u_lay RX9 TX9 k ∈ Wg := fun k hk => match k, hk with
  | 0, _ => wc_108
  | 1, _ => wc_109
  | 2, _ => wc_110
  | 3, _ => wc_111
  | k + 4, h => absurd h (by omega)
theorem layc_X10 : ∀ k, k < 4 → u_lay RX10 TX10 k ∈ Wg := fun k hk => match k, hk with
  | 0, _ => wc_133
  | 1, _ => wc_134
  | 2, _ => wc_135
  | 3, _ => wc_136
  | k + 4, h => absurd h (by omega)
theorem layc_X5 : ∀ k, k < 10 → u_lay RX5 TX5 k ∈ Wg := fun k hk => match k, hk with
  | 0, _ => wc_154
  | 1, _ => wc_155
  | 2, _ => wc_156
  | 3, _ => wc_157
  | 4, _ => wc_158
  | 5, _ => wc_159
  | 6, _ => wc_160
  | 7, _ => wc_161
  | 8, _ => wc_162
  | 9, _ => wc_163
  | k + 10, h => absurd h (by omega)
theorem layc_X1 : ∀ k, k < 8 → u_lay RX1 TX1 k ∈ Wg := fun k hk => match k, hk with
  | 0, _ => wc_297
  | 1, _ => wc_298
  | 2, _ => wc_299
  | 3, _ => wc_300
  | 4, _ => wc_301
  | 5, _ => wc_302
  | 6, _ => wc_303
  | 7, _ => wc_304
  | k + 8, h => absurd h (by omega)
