theorem wm_0 : Cond.methodLink RX12 62 yJ0_length_8abf5 ∈ Wg := t7_in (List.mem_of_getElem? (i := 48) rfl) rfl
theorem wm_1 : Cond.instanceMethod yJ0_length_8abf5 ∈ Wg := t1_in (List.mem_of_getElem? (i := 225) rfl) rfl
theorem wm_2 : Cond.selects RJ0 yJ0_length_8abf5 yJ0_length_8abf5 ∈ Wg := t1_in (List.mem_of_getElem? (i := 226) rfl) rfl
theorem wm_3 : Cond.initialized RJ0 ∈ Wg := t1_in (List.mem_of_getElem? (i := 13) rfl) rfl
theorem wm_4 : Cond.code yJ0_length_8abf5 cJ0_length_8abf5 1 (some .int) ∈ Wg := t1_in (List.mem_of_getElem? (i := 227) rfl) rfl
theorem wm_5 : Cond.laysFinal RX12 "TicketGateModel" "s" "[I" ∈ Wg := t8_in (List.mem_of_getElem? (i := 98) rfl) rfl
theorem wm_6 : Cond.laysFinal RX12 "TicketGateModel" "parsed" "[I" ∈ Wg := t8_in (List.mem_of_getElem? (i := 100) rfl) rfl
theorem wm_7 : Cond.laysFinal RX12 "TicketGateModel" "tried" "[I" ∈ Wg := t8_in (List.mem_of_getElem? (i := 102) rfl) rfl
theorem wm_8 : Cond.laysFinal RX12 "TicketGateModel" "remembered" "[I" ∈ Wg := t8_in (List.mem_of_getElem? (i := 104) rfl) rfl
theorem wm_9 : Cond.laysFinal RX12 "TicketGateModel" "slots" "[I" ∈ Wg := t8_in (List.mem_of_getElem? (i := 106) rfl) rfl
theorem wm_10 : Cond.laysFinal RX12 "TicketGateModel" "kept" "[Z" ∈ Wg := t8_in (List.mem_of_getElem? (i := 108) rfl) rfl
theorem wm_11 : Cond.lays RX12 "TicketGateModel" "undoable" "I" ∈ Wg := t8_in (List.mem_of_getElem? (i := 110) rfl) rfl
theorem wm_12 : Cond.lays RX12 "TicketGateModel" "undoStart" "I" ∈ Wg := t8_in (List.mem_of_getElem? (i := 112) rfl) rfl
theorem wm_13 : Cond.lays RX12 "TicketGateModel" "thrown" "I" ∈ Wg := t8_in (List.mem_of_getElem? (i := 114) rfl) rfl
theorem wm_14 : Cond.laysFinal RX12 "TicketGateModel" "away" "[I" ∈ Wg := t8_in (List.mem_of_getElem? (i := 116) rfl) rfl
theorem wm_15 : Cond.laysFinal RX12 "TicketGateModel" "input" "[I" ∈ Wg := t8_in (List.mem_of_getElem? (i := 118) rfl) rfl
theorem wm_16 : Cond.lays RX12 "TicketGateModel" "inputLength" "I" ∈ Wg := t8_in (List.mem_of_getElem? (i := 120) rfl) rfl
theorem wm_17 : Cond.lays RX12 "TicketGateModel" "position" "I" ∈ Wg := t8_in (List.mem_of_getElem? (i := 122) rfl) rfl
theorem wm_18 : Cond.lays RX12 "TicketGateModel" "start" "I" ∈ Wg := t8_in (List.mem_of_getElem? (i := 124) rfl) rfl
theorem wm_19 : Cond.lays RX12 "TicketGateModel" "token" "I" ∈ Wg := t8_in (List.mem_of_getElem? (i := 126) rfl) rfl
theorem wm_20 : Cond.lays RX12 "TicketGateModel" "value" "I" ∈ Wg := t8_in (List.mem_of_getElem? (i := 128) rfl) rfl
theorem wm_21 : Cond.lays RX12 "TicketGateModel" "letters" "I" ∈ Wg := t8_in (List.mem_of_getElem? (i := 130) rfl) rfl
theorem wm_22 : Cond.lays RX12 "TicketGateModel" "code" "I" ∈ Wg := t8_in (List.mem_of_getElem? (i := 132) rfl) rfl
theorem wm_23 : Cond.lays RX12 "TicketGateModel" "place" "I" ∈ Wg := t8_in (List.mem_of_getElem? (i := 134) rfl) rfl
theorem wm_24 : Cond.laysFinal RX12 "TicketGateModel" "halfway" "[I" ∈ Wg := t8_in (List.mem_of_getElem? (i := 136) rfl) rfl
theorem wm_25 : Cond.laysFinal RX12 "TicketGateModel" "output" "[B" ∈ Wg := t8_in (List.mem_of_getElem? (i := 138) rfl) rfl
theorem wm_26 : Cond.lays RX12 "TicketGateModel" "outputLength" "I" ∈ Wg := t8_in (List.mem_of_getElem? (i := 140) rfl) rfl
theorem wm_27 : Cond.fieldLink RX12 32 "TicketGateModel" "input" "[I" ∈ Wg := t8_in (List.mem_of_getElem? (i := 86) rfl) rfl
theorem wm_28 : Cond.methodLink RX12 68 yJ0_charAt_5068e ∈ Wg := t7_in (List.mem_of_getElem? (i := 49) rfl) rfl
theorem wm_29 : Cond.instanceMethod yJ0_charAt_5068e ∈ Wg := t1_in (List.mem_of_getElem? (i := 235) rfl) rfl
theorem wm_30 : Cond.selects RJ0 yJ0_charAt_5068e yJ0_charAt_5068e ∈ Wg := t1_in (List.mem_of_getElem? (i := 236) rfl) rfl
theorem wm_31 : Cond.code yJ0_charAt_5068e cJ0_charAt_5068e 2 (some .char) ∈ Wg := t1_in (List.mem_of_getElem? (i := 237) rfl) rfl
theorem wm_32 : Cond.fieldLink RX12 55 "TicketGateModel" "inputLength" "I" ∈ Wg := t8_in (List.mem_of_getElem? (i := 87) rfl) rfl
theorem wm_33 : Cond.fieldLink RX12 72 "TicketGateModel" "thrown" "I" ∈ Wg := t8_in (List.mem_of_getElem? (i := 84) rfl) rfl
theorem wm_34 : Cond.fieldLink RX12 29 "TicketGateModel" "away" "[I" ∈ Wg := t8_in (List.mem_of_getElem? (i := 85) rfl) rfl
theorem wm_35 : Cond.methodLink RX12 75 yX12_trusted ∈ Wg := t7_in (List.mem_of_getElem? (i := 156) rfl) rfl
theorem wm_36 : Cond.static yX12_trusted ∈ Wg := t7_in (List.mem_of_getElem? (i := 157) rfl) rfl
theorem wm_37 : Cond.initialized RX12 ∈ Wg := t1_in (List.mem_of_getElem? (i := 18) rfl) rfl
theorem wm_38 : Cond.code yX12_trusted cX12_trusted 3 (some .boolean) ∈ Wg := t7_in (List.mem_of_getElem? (i := 158) rfl) rfl
theorem wm_39 : Cond.methodLink RX12 79 yX12_lesser ∈ Wg := t7_in (List.mem_of_getElem? (i := 234) rfl) rfl
theorem wm_40 : Cond.static yX12_lesser ∈ Wg := t7_in (List.mem_of_getElem? (i := 235) rfl) rfl
theorem wm_41 : Cond.code yX12_lesser cX12_lesser 2 (some .int) ∈ Wg := t7_in (List.mem_of_getElem? (i := 236) rfl) rfl
theorem wm_42 : Cond.methodLink RX12 83 yX12_spread ∈ Wg := t9_in (List.mem_of_getElem? (i := 0) rfl) rfl
theorem wm_43 : Cond.instanceMethod yX12_spread ∈ Wg := t9_in (List.mem_of_getElem? (i := 2) rfl) rfl
theorem wm_44 : Cond.selects RX12 yX12_spread yX12_spread ∈ Wg := p5_in (q := (⟨"TicketGateModel", "spread", "([II)V"⟩, 22)) (List.mem_of_getElem? (i := 15) rfl)
theorem wm_45 : Cond.code yX12_spread cX12_spread 6 none ∈ Wg := t9_in (List.mem_of_getElem? (i := 3) rfl) rfl
theorem wm_46 : Cond.methodLink RX12 87 yX12_ofUser ∈ Wg := t7_in (List.mem_of_getElem? (i := 123) rfl) rfl
theorem wm_47 : Cond.static yX12_ofUser ∈ Wg := t7_in (List.mem_of_getElem? (i := 124) rfl) rfl
theorem wm_48 : Cond.code yX12_ofUser cX12_ofUser 1 (some .int) ∈ Wg := t7_in (List.mem_of_getElem? (i := 125) rfl) rfl
theorem wm_49 : Cond.methodLink RX12 91 yX12_ofRealm ∈ Wg := t7_in (List.mem_of_getElem? (i := 117) rfl) rfl
theorem wm_50 : Cond.static yX12_ofRealm ∈ Wg := t7_in (List.mem_of_getElem? (i := 118) rfl) rfl
theorem wm_51 : Cond.code yX12_ofRealm cX12_ofRealm 1 (some .int) ∈ Wg := t7_in (List.mem_of_getElem? (i := 119) rfl) rfl
theorem wm_52 : Cond.methodLink RX12 94 yX12_skewOf ∈ Wg := t7_in (List.mem_of_getElem? (i := 189) rfl) rfl
theorem wm_53 : Cond.static yX12_skewOf ∈ Wg := t7_in (List.mem_of_getElem? (i := 190) rfl) rfl
theorem wm_54 : Cond.code yX12_skewOf cX12_skewOf 4 (some .int) ∈ Wg := t7_in (List.mem_of_getElem? (i := 191) rfl) rfl
theorem wm_55 : Cond.methodLink RX12 98 yX12_ofTicket ∈ Wg := t7_in (List.mem_of_getElem? (i := 198) rfl) rfl
theorem wm_56 : Cond.static yX12_ofTicket ∈ Wg := t7_in (List.mem_of_getElem? (i := 199) rfl) rfl
theorem wm_57 : Cond.code yX12_ofTicket cX12_ofTicket 1 (some .int) ∈ Wg := t7_in (List.mem_of_getElem? (i := 200) rfl) rfl
theorem wm_58 : Cond.methodLink RX12 101 yX12_lives ∈ Wg := t7_in (List.mem_of_getElem? (i := 225) rfl) rfl
theorem wm_59 : Cond.static yX12_lives ∈ Wg := t7_in (List.mem_of_getElem? (i := 226) rfl) rfl
theorem wm_60 : Cond.code yX12_lives cX12_lives 2 (some .boolean) ∈ Wg := t7_in (List.mem_of_getElem? (i := 227) rfl) rfl
theorem wm_61 : Cond.methodLink RX12 105 yX12_greater ∈ Wg := t7_in (List.mem_of_getElem? (i := 201) rfl) rfl
theorem wm_62 : Cond.static yX12_greater ∈ Wg := t7_in (List.mem_of_getElem? (i := 202) rfl) rfl
theorem wm_63 : Cond.code yX12_greater cX12_greater 2 (some .int) ∈ Wg := t7_in (List.mem_of_getElem? (i := 203) rfl) rfl
theorem wm_64 : Cond.methodLink RX12 108 yX12_drawKey ∈ Wg := t7_in (List.mem_of_getElem? (i := 204) rfl) rfl
theorem wm_65 : Cond.static yX12_drawKey ∈ Wg := t7_in (List.mem_of_getElem? (i := 205) rfl) rfl
theorem wm_66 : Cond.code yX12_drawKey cX12_drawKey 1 (some .int) ∈ Wg := t7_in (List.mem_of_getElem? (i := 206) rfl) rfl
theorem wm_67 : Cond.methodLink RX12 112 yX12_isSkewed ∈ Wg := t7_in (List.mem_of_getElem? (i := 186) rfl) rfl
theorem wm_68 : Cond.static yX12_isSkewed ∈ Wg := t7_in (List.mem_of_getElem? (i := 187) rfl) rfl
theorem wm_69 : Cond.code yX12_isSkewed cX12_isSkewed 3 (some .boolean) ∈ Wg := t7_in (List.mem_of_getElem? (i := 188) rfl) rfl
theorem wm_70 : Cond.methodLink RX12 115 yX12_whyNotGate ∈ Wg := t7_in (List.mem_of_getElem? (i := 222) rfl) rfl
theorem wm_71 : Cond.static yX12_whyNotGate ∈ Wg := t7_in (List.mem_of_getElem? (i := 223) rfl) rfl
theorem wm_72 : Cond.code yX12_whyNotGate cX12_whyNotGate 2 (some .int) ∈ Wg := t7_in (List.mem_of_getElem? (i := 224) rfl) rfl
theorem wm_73 : Cond.methodLink RX12 119 yX12_whyNotNew ∈ Wg := t7_in (List.mem_of_getElem? (i := 228) rfl) rfl
theorem wm_74 : Cond.static yX12_whyNotNew ∈ Wg := t7_in (List.mem_of_getElem? (i := 229) rfl) rfl
theorem wm_75 : Cond.code yX12_whyNotNew cX12_whyNotNew 3 (some .int) ∈ Wg := t7_in (List.mem_of_getElem? (i := 230) rfl) rfl
theorem wm_76 : Cond.methodLink RX12 122 yX12_ofService ∈ Wg := t7_in (List.mem_of_getElem? (i := 129) rfl) rfl
theorem wm_77 : Cond.static yX12_ofService ∈ Wg := t7_in (List.mem_of_getElem? (i := 130) rfl) rfl
theorem wm_78 : Cond.code yX12_ofService cX12_ofService 1 (some .int) ∈ Wg := t7_in (List.mem_of_getElem? (i := 131) rfl) rfl
theorem wm_79 : Cond.methodLink RX12 125 yX12_newEnd ∈ Wg := t8_in (List.mem_of_getElem? (i := 17) rfl) rfl
theorem wm_80 : Cond.static yX12_newEnd ∈ Wg := t8_in (List.mem_of_getElem? (i := 18) rfl) rfl
theorem wm_81 : Cond.code yX12_newEnd cX12_newEnd 3 (some .int) ∈ Wg := t8_in (List.mem_of_getElem? (i := 19) rfl) rfl
theorem wm_82 : Cond.methodLink RX12 128 yX12_ofUse ∈ Wg := t8_in (List.mem_of_getElem? (i := 34) rfl) rfl
theorem wm_83 : Cond.static yX12_ofUse ∈ Wg := t8_in (List.mem_of_getElem? (i := 35) rfl) rfl
theorem wm_84 : Cond.code yX12_ofUse cX12_ofUse 1 (some .int) ∈ Wg := t8_in (List.mem_of_getElem? (i := 36) rfl) rfl
theorem wm_85 : Cond.methodLink RX12 131 yX12_isUsed ∈ Wg := t8_in (List.mem_of_getElem? (i := 31) rfl) rfl
theorem wm_86 : Cond.static yX12_isUsed ∈ Wg := t8_in (List.mem_of_getElem? (i := 32) rfl) rfl
theorem wm_87 : Cond.code yX12_isUsed cX12_isUsed 6 (some .boolean) ∈ Wg := t8_in (List.mem_of_getElem? (i := 33) rfl) rfl
theorem wm_88 : Cond.methodLink RX12 134 yX12_make ∈ Wg := t7_in (List.mem_of_getElem? (i := 195) rfl) rfl
theorem wm_89 : Cond.static yX12_make ∈ Wg := t7_in (List.mem_of_getElem? (i := 196) rfl) rfl
theorem wm_90 : Cond.code yX12_make cX12_make 8 (some .int) ∈ Wg := t7_in (List.mem_of_getElem? (i := 197) rfl) rfl
theorem wm_91 : Cond.methodLink RX12 138 yX12_remindUse ∈ Wg := t8_in (List.mem_of_getElem? (i := 40) rfl) rfl
theorem wm_92 : Cond.static yX12_remindUse ∈ Wg := t8_in (List.mem_of_getElem? (i := 41) rfl) rfl
theorem wm_93 : Cond.code yX12_remindUse cX12_remindUse 4 none ∈ Wg := t8_in (List.mem_of_getElem? (i := 42) rfl) rfl
theorem wm_94 : Cond.methodLink RX12 142 yX12_drops ∈ Wg := t8_in (List.mem_of_getElem? (i := 48) rfl) rfl
theorem wm_95 : Cond.static yX12_drops ∈ Wg := t8_in (List.mem_of_getElem? (i := 49) rfl) rfl
theorem wm_96 : Cond.code yX12_drops cX12_drops 3 (some .int) ∈ Wg := t8_in (List.mem_of_getElem? (i := 50) rfl) rfl
theorem wm_97 : Cond.methodLink RX12 145 yX12_living ∈ Wg := t8_in (List.mem_of_getElem? (i := 67) rfl) rfl
theorem wm_98 : Cond.static yX12_living ∈ Wg := t8_in (List.mem_of_getElem? (i := 68) rfl) rfl
theorem wm_99 : Cond.code yX12_living cX12_living 3 (some .int) ∈ Wg := t8_in (List.mem_of_getElem? (i := 69) rfl) rfl
theorem wm_100 : Cond.methodLink RX12 148 yX12_forget ∈ Wg := t8_in (List.mem_of_getElem? (i := 70) rfl) rfl
theorem wm_101 : Cond.static yX12_forget ∈ Wg := t8_in (List.mem_of_getElem? (i := 71) rfl) rfl
theorem wm_102 : Cond.code yX12_forget cX12_forget 5 none ∈ Wg := t8_in (List.mem_of_getElem? (i := 72) rfl) rfl
theorem wm_103 : Cond.methodLink RX12 152 yX12_refuses ∈ Wg := t8_in (List.mem_of_getElem? (i := 152) rfl) rfl
theorem wm_104 : Cond.instanceMethod yX12_refuses ∈ Wg := t8_in (List.mem_of_getElem? (i := 154) rfl) rfl
theorem wm_105 : Cond.selects RX12 yX12_refuses yX12_refuses ∈ Wg := p5_in (q := (⟨"TicketGateModel", "refuses", "(ZI)Z"⟩, 22)) (List.mem_of_getElem? (i := 8) rfl)
theorem wm_106 : Cond.code yX12_refuses cX12_refuses 3 (some .boolean) ∈ Wg := t8_in (List.mem_of_getElem? (i := 155) rfl) rfl
theorem wm_107 : Cond.methodLink RX12 156 yX12_appendWord ∈ Wg := t8_in (List.mem_of_getElem? (i := 156) rfl) rfl
theorem wm_108 : Cond.instanceMethod yX12_appendWord ∈ Wg := t8_in (List.mem_of_getElem? (i := 158) rfl) rfl
theorem wm_109 : Cond.selects RX12 yX12_appendWord yX12_appendWord ∈ Wg := p5_in (q := (⟨"TicketGateModel", "appendWord", "(I)V"⟩, 22)) (List.mem_of_getElem? (i := 9) rfl)
theorem wm_110 : Cond.code yX12_appendWord cX12_appendWord 3 none ∈ Wg := t8_in (List.mem_of_getElem? (i := 159) rfl) rfl
theorem wm_111 : Cond.methodLink RX12 167 yX12_isBetween ∈ Wg := t7_in (List.mem_of_getElem? (i := 65) rfl) rfl
theorem wm_112 : Cond.static yX12_isBetween ∈ Wg := t7_in (List.mem_of_getElem? (i := 66) rfl) rfl
theorem wm_113 : Cond.code yX12_isBetween cX12_isBetween 3 (some .boolean) ∈ Wg := t7_in (List.mem_of_getElem? (i := 67) rfl) rfl
theorem wm_114 : Cond.methodLink RX12 160 yX12_noNumber ∈ Wg := t8_in (List.mem_of_getElem? (i := 164) rfl) rfl
theorem wm_115 : Cond.instanceMethod yX12_noNumber ∈ Wg := t8_in (List.mem_of_getElem? (i := 166) rfl) rfl
theorem wm_116 : Cond.selects RX12 yX12_noNumber yX12_noNumber ∈ Wg := p5_in (q := (⟨"TicketGateModel", "noNumber", "(III)Z"⟩, 22)) (List.mem_of_getElem? (i := 10) rfl)
theorem wm_117 : Cond.code yX12_noNumber cX12_noNumber 4 (some .boolean) ∈ Wg := t8_in (List.mem_of_getElem? (i := 167) rfl) rfl
theorem wm_118 : Cond.fieldLink RX12 164 "TicketGateModel" "code" "I" ∈ Wg := t8_in (List.mem_of_getElem? (i := 93) rfl) rfl
theorem wm_119 : Cond.fieldLink RX12 35 "TicketGateModel" "place" "I" ∈ Wg := t8_in (List.mem_of_getElem? (i := 94) rfl) rfl
theorem wm_120 : Cond.fieldLink RX12 170 "TicketGateModel" "position" "I" ∈ Wg := t8_in (List.mem_of_getElem? (i := 88) rfl) rfl
theorem wm_121 : Cond.methodLink RX12 173 yX12_byteAt ∈ Wg := t7_in (List.mem_of_getElem? (i := 58) rfl) rfl
theorem wm_122 : Cond.instanceMethod yX12_byteAt ∈ Wg := t7_in (List.mem_of_getElem? (i := 60) rfl) rfl
theorem wm_123 : Cond.selects RX12 yX12_byteAt yX12_byteAt ∈ Wg := p3_in (q := (⟨"TicketGateModel", "byteAt", "(I)I"⟩, 22)) (List.mem_of_getElem? (i := 10) rfl)
theorem wm_124 : Cond.code yX12_byteAt cX12_byteAt 2 (some .int) ∈ Wg := t7_in (List.mem_of_getElem? (i := 61) rfl) rfl
theorem wm_125 : Cond.fieldLink RX12 176 "TicketGateModel" "start" "I" ∈ Wg := t8_in (List.mem_of_getElem? (i := 89) rfl) rfl
theorem wm_126 : Cond.fieldLink RX12 179 "TicketGateModel" "letters" "I" ∈ Wg := t8_in (List.mem_of_getElem? (i := 92) rfl) rfl
theorem wm_127 : Cond.fieldLink RX12 182 "TicketGateModel" "value" "I" ∈ Wg := t8_in (List.mem_of_getElem? (i := 91) rfl) rfl
theorem wm_128 : Cond.methodLink RX12 188 yX12_isLetter ∈ Wg := t7_in (List.mem_of_getElem? (i := 62) rfl) rfl
theorem wm_129 : Cond.static yX12_isLetter ∈ Wg := t7_in (List.mem_of_getElem? (i := 63) rfl) rfl
theorem wm_130 : Cond.code yX12_isLetter cX12_isLetter 1 (some .boolean) ∈ Wg := t7_in (List.mem_of_getElem? (i := 64) rfl) rfl
theorem wm_131 : Cond.fieldLink RX12 185 "TicketGateModel" "token" "I" ∈ Wg := t8_in (List.mem_of_getElem? (i := 90) rfl) rfl
theorem wm_132 : Cond.constant RX12 192 99999999 ∈ Wg := t7_in (List.mem_of_getElem? (i := 68) rfl) rfl
theorem wm_133 : Cond.methodLink RX12 193 yX12_advance ∈ Wg := t7_in (List.mem_of_getElem? (i := 54) rfl) rfl
theorem wm_134 : Cond.instanceMethod yX12_advance ∈ Wg := t7_in (List.mem_of_getElem? (i := 56) rfl) rfl
theorem wm_135 : Cond.selects RX12 yX12_advance yX12_advance ∈ Wg := p3_in (q := (⟨"TicketGateModel", "advance", "()V"⟩, 22)) (List.mem_of_getElem? (i := 9) rfl)
theorem wm_136 : Cond.code yX12_advance cX12_advance 2 none ∈ Wg := t7_in (List.mem_of_getElem? (i := 57) rfl) rfl
theorem wm_137 : Cond.methodLink RX12 196 yX12_check ∈ Wg := t7_in (List.mem_of_getElem? (i := 74) rfl) rfl
theorem wm_138 : Cond.instanceMethod yX12_check ∈ Wg := t7_in (List.mem_of_getElem? (i := 76) rfl) rfl
theorem wm_139 : Cond.selects RX12 yX12_check yX12_check ∈ Wg := p3_in (q := (⟨"TicketGateModel", "check", "(ZI)Z"⟩, 22)) (List.mem_of_getElem? (i := 12) rfl)
theorem wm_140 : Cond.code yX12_check cX12_check 3 (some .boolean) ∈ Wg := t7_in (List.mem_of_getElem? (i := 77) rfl) rfl
theorem wm_141 : Cond.methodLink RX12 199 yX12_next ∈ Wg := t7_in (List.mem_of_getElem? (i := 78) rfl) rfl
theorem wm_142 : Cond.instanceMethod yX12_next ∈ Wg := t7_in (List.mem_of_getElem? (i := 80) rfl) rfl
theorem wm_143 : Cond.selects RX12 yX12_next yX12_next ∈ Wg := p3_in (q := (⟨"TicketGateModel", "next", "()V"⟩, 22)) (List.mem_of_getElem? (i := 13) rfl)
theorem wm_144 : Cond.code yX12_next cX12_next 1 none ∈ Wg := t7_in (List.mem_of_getElem? (i := 81) rfl) rfl
theorem wm_145 : Cond.methodLink RX12 202 yX12_semicolon ∈ Wg := t7_in (List.mem_of_getElem? (i := 90) rfl) rfl
theorem wm_146 : Cond.instanceMethod yX12_semicolon ∈ Wg := t7_in (List.mem_of_getElem? (i := 92) rfl) rfl
theorem wm_147 : Cond.selects RX12 yX12_semicolon yX12_semicolon ∈ Wg := p4_in (q := (⟨"TicketGateModel", "semicolon", "()V"⟩, 22)) (List.mem_of_getElem? (i := 0) rfl)
theorem wm_148 : Cond.code yX12_semicolon cX12_semicolon 1 none ∈ Wg := t7_in (List.mem_of_getElem? (i := 93) rfl) rfl
theorem wm_149 : Cond.methodLink RX12 205 yX12_realmNamed ∈ Wg := t7_in (List.mem_of_getElem? (i := 114) rfl) rfl
theorem wm_150 : Cond.static yX12_realmNamed ∈ Wg := t7_in (List.mem_of_getElem? (i := 115) rfl) rfl
theorem wm_151 : Cond.code yX12_realmNamed cX12_realmNamed 3 (some .int) ∈ Wg := t7_in (List.mem_of_getElem? (i := 116) rfl) rfl
theorem wm_152 : Cond.methodLink RX12 208 yX12_userNamed ∈ Wg := t7_in (List.mem_of_getElem? (i := 120) rfl) rfl
theorem wm_153 : Cond.static yX12_userNamed ∈ Wg := t7_in (List.mem_of_getElem? (i := 121) rfl) rfl
theorem wm_154 : Cond.code yX12_userNamed cX12_userNamed 3 (some .int) ∈ Wg := t7_in (List.mem_of_getElem? (i := 122) rfl) rfl
theorem wm_155 : Cond.methodLink RX12 211 yX12_serviceNamed ∈ Wg := t7_in (List.mem_of_getElem? (i := 126) rfl) rfl
theorem wm_156 : Cond.static yX12_serviceNamed ∈ Wg := t7_in (List.mem_of_getElem? (i := 127) rfl) rfl
theorem wm_157 : Cond.code yX12_serviceNamed cX12_serviceNamed 3 (some .int) ∈ Wg := t7_in (List.mem_of_getElem? (i := 128) rfl) rfl
theorem wm_158 : Cond.methodLink RX12 214 yX12_nameFrom ∈ Wg := t7_in (List.mem_of_getElem? (i := 107) rfl) rfl
theorem wm_159 : Cond.instanceMethod yX12_nameFrom ∈ Wg := t7_in (List.mem_of_getElem? (i := 109) rfl) rfl
theorem wm_160 : Cond.selects RX12 yX12_nameFrom yX12_nameFrom ∈ Wg := p4_in (q := (⟨"TicketGateModel", "nameFrom", "(II)I"⟩, 22)) (List.mem_of_getElem? (i := 4) rfl)
theorem wm_161 : Cond.code yX12_nameFrom cX12_nameFrom 5 (some .int) ∈ Wg := t7_in (List.mem_of_getElem? (i := 110) rfl) rfl
theorem wm_162 : Cond.fieldLink RX12 13 "TicketGateModel" "parsed" "[I" ∈ Wg := t8_in (List.mem_of_getElem? (i := 77) rfl) rfl
theorem wm_163 : Cond.methodLink RX12 217 yX12_named ∈ Wg := t7_in (List.mem_of_getElem? (i := 111) rfl) rfl
theorem wm_164 : Cond.static yX12_named ∈ Wg := t7_in (List.mem_of_getElem? (i := 112) rfl) rfl
theorem wm_165 : Cond.code yX12_named cX12_named 5 (some .int) ∈ Wg := t7_in (List.mem_of_getElem? (i := 113) rfl) rfl
theorem wm_166 : Cond.methodLink RX12 220 yX12_nameHere ∈ Wg := t7_in (List.mem_of_getElem? (i := 148) rfl) rfl
theorem wm_167 : Cond.instanceMethod yX12_nameHere ∈ Wg := t7_in (List.mem_of_getElem? (i := 150) rfl) rfl
theorem wm_168 : Cond.selects RX12 yX12_nameHere yX12_nameHere ∈ Wg := p4_in (q := (⟨"TicketGateModel", "nameHere", "()I"⟩, 22)) (List.mem_of_getElem? (i := 8) rfl)
theorem wm_169 : Cond.code yX12_nameHere cX12_nameHere 1 (some .int) ∈ Wg := t7_in (List.mem_of_getElem? (i := 151) rfl) rfl
theorem wm_170 : Cond.methodLink RX12 223 yX12_exists ∈ Wg := t7_in (List.mem_of_getElem? (i := 152) rfl) rfl
theorem wm_171 : Cond.instanceMethod yX12_exists ∈ Wg := t7_in (List.mem_of_getElem? (i := 154) rfl) rfl
theorem wm_172 : Cond.selects RX12 yX12_exists yX12_exists ∈ Wg := p4_in (q := (⟨"TicketGateModel", "exists", "(I)I"⟩, 22)) (List.mem_of_getElem? (i := 9) rfl)
theorem wm_173 : Cond.code yX12_exists cX12_exists 2 (some .int) ∈ Wg := t7_in (List.mem_of_getElem? (i := 155) rfl) rfl
theorem wm_174 : Cond.methodLink RX12 226 yX12_find ∈ Wg := t7_in (List.mem_of_getElem? (i := 216) rfl) rfl
theorem wm_175 : Cond.static yX12_find ∈ Wg := t7_in (List.mem_of_getElem? (i := 217) rfl) rfl
theorem wm_176 : Cond.code yX12_find cX12_find 3 (some .int) ∈ Wg := t7_in (List.mem_of_getElem? (i := 218) rfl) rfl
theorem wm_177 : Cond.methodLink RX12 231 yX12_is ∈ Wg := t7_in (List.mem_of_getElem? (i := 70) rfl) rfl
theorem wm_178 : Cond.instanceMethod yX12_is ∈ Wg := t7_in (List.mem_of_getElem? (i := 72) rfl) rfl
theorem wm_179 : Cond.selects RX12 yX12_is yX12_is ∈ Wg := p3_in (q := (⟨"TicketGateModel", "is", "(Ljava/lang/String;)Z"⟩, 22)) (List.mem_of_getElem? (i := 11) rfl)
theorem wm_180 : Cond.code yX12_is cX12_is 3 (some .boolean) ∈ Wg := t7_in (List.mem_of_getElem? (i := 73) rfl) rfl
theorem wm_181 : Cond.methodLink RX12 239 yX12_number ∈ Wg := t7_in (List.mem_of_getElem? (i := 82) rfl) rfl
theorem wm_182 : Cond.instanceMethod yX12_number ∈ Wg := t7_in (List.mem_of_getElem? (i := 84) rfl) rfl
theorem wm_183 : Cond.selects RX12 yX12_number yX12_number ∈ Wg := p3_in (q := (⟨"TicketGateModel", "number", "(II)I"⟩, 22)) (List.mem_of_getElem? (i := 14) rfl)
theorem wm_184 : Cond.code yX12_number cX12_number 4 (some .int) ∈ Wg := t7_in (List.mem_of_getElem? (i := 85) rfl) rfl
theorem wm_185 : Cond.methodLink RX12 242 yX12_newName ∈ Wg := t7_in (List.mem_of_getElem? (i := 103) rfl) rfl
theorem wm_186 : Cond.instanceMethod yX12_newName ∈ Wg := t7_in (List.mem_of_getElem? (i := 105) rfl) rfl
theorem wm_187 : Cond.selects RX12 yX12_newName yX12_newName ∈ Wg := p4_in (q := (⟨"TicketGateModel", "newName", "()I"⟩, 22)) (List.mem_of_getElem? (i := 3) rfl)
theorem wm_188 : Cond.code yX12_newName cX12_newName 2 (some .int) ∈ Wg := t7_in (List.mem_of_getElem? (i := 106) rfl) rfl
theorem wm_189 : Cond.methodLink RX12 245 yX12_clockHere ∈ Wg := t7_in (List.mem_of_getElem? (i := 132) rfl) rfl
theorem wm_190 : Cond.instanceMethod yX12_clockHere ∈ Wg := t7_in (List.mem_of_getElem? (i := 134) rfl) rfl
theorem wm_191 : Cond.selects RX12 yX12_clockHere yX12_clockHere ∈ Wg := p4_in (q := (⟨"TicketGateModel", "clockHere", "()I"⟩, 22)) (List.mem_of_getElem? (i := 5) rfl)
theorem wm_192 : Cond.code yX12_clockHere cX12_clockHere 4 (some .int) ∈ Wg := t7_in (List.mem_of_getElem? (i := 135) rfl) rfl
theorem wm_193 : Cond.methodLink RX12 248 yX12_finish ∈ Wg := t7_in (List.mem_of_getElem? (i := 86) rfl) rfl
theorem wm_194 : Cond.instanceMethod yX12_finish ∈ Wg := t7_in (List.mem_of_getElem? (i := 88) rfl) rfl
theorem wm_195 : Cond.selects RX12 yX12_finish yX12_finish ∈ Wg := p3_in (q := (⟨"TicketGateModel", "finish", "()V"⟩, 22)) (List.mem_of_getElem? (i := 15) rfl)
theorem wm_196 : Cond.code yX12_finish cX12_finish 1 none ∈ Wg := t7_in (List.mem_of_getElem? (i := 89) rfl) rfl
theorem wm_197 : Cond.methodLink RX12 251 yX12_realmHere ∈ Wg := t7_in (List.mem_of_getElem? (i := 144) rfl) rfl
theorem wm_198 : Cond.instanceMethod yX12_realmHere ∈ Wg := t7_in (List.mem_of_getElem? (i := 146) rfl) rfl
theorem wm_199 : Cond.selects RX12 yX12_realmHere yX12_realmHere ∈ Wg := p4_in (q := (⟨"TicketGateModel", "realmHere", "()I"⟩, 22)) (List.mem_of_getElem? (i := 7) rfl)
theorem wm_200 : Cond.code yX12_realmHere cX12_realmHere 1 (some .int) ∈ Wg := t7_in (List.mem_of_getElem? (i := 147) rfl) rfl
theorem wm_201 : Cond.methodLink RX12 254 yX12_mayDo ∈ Wg := t7_in (List.mem_of_getElem? (i := 159) rfl) rfl
theorem wm_202 : Cond.instanceMethod yX12_mayDo ∈ Wg := t7_in (List.mem_of_getElem? (i := 161) rfl) rfl
theorem wm_203 : Cond.selects RX12 yX12_mayDo yX12_mayDo ∈ Wg := p4_in (q := (⟨"TicketGateModel", "mayDo", "(Z)Z"⟩, 22)) (List.mem_of_getElem? (i := 10) rfl)
theorem wm_204 : Cond.code yX12_mayDo cX12_mayDo 2 (some .boolean) ∈ Wg := t7_in (List.mem_of_getElem? (i := 162) rfl) rfl
theorem wm_205 : Cond.methodLink RX12 258 yX12_userHere ∈ Wg := t7_in (List.mem_of_getElem? (i := 178) rfl) rfl
theorem wm_206 : Cond.instanceMethod yX12_userHere ∈ Wg := t7_in (List.mem_of_getElem? (i := 180) rfl) rfl
theorem wm_207 : Cond.selects RX12 yX12_userHere yX12_userHere ∈ Wg := p4_in (q := (⟨"TicketGateModel", "userHere", "()I"⟩, 22)) (List.mem_of_getElem? (i := 14) rfl)
theorem wm_208 : Cond.code yX12_userHere cX12_userHere 1 (some .int) ∈ Wg := t7_in (List.mem_of_getElem? (i := 181) rfl) rfl
theorem wm_209 : Cond.methodLink RX12 263 yX12_whyNotLogin ∈ Wg := t7_in (List.mem_of_getElem? (i := 183) rfl) rfl
theorem wm_210 : Cond.static yX12_whyNotLogin ∈ Wg := t7_in (List.mem_of_getElem? (i := 184) rfl) rfl
theorem wm_211 : Cond.code yX12_whyNotLogin cX12_whyNotLogin 3 (some .int) ∈ Wg := t7_in (List.mem_of_getElem? (i := 185) rfl) rfl
theorem wm_212 : Cond.methodLink RX12 266 yX12_enters ∈ Wg := t7_in (List.mem_of_getElem? (i := 192) rfl) rfl
theorem wm_213 : Cond.static yX12_enters ∈ Wg := t7_in (List.mem_of_getElem? (i := 193) rfl) rfl
theorem wm_214 : Cond.code yX12_enters cX12_enters 4 (some .int) ∈ Wg := t7_in (List.mem_of_getElem? (i := 194) rfl) rfl
theorem wm_215 : Cond.methodLink RX12 270 yX12_ticketHere ∈ Wg := t7_in (List.mem_of_getElem? (i := 212) rfl) rfl
theorem wm_216 : Cond.instanceMethod yX12_ticketHere ∈ Wg := t7_in (List.mem_of_getElem? (i := 214) rfl) rfl
theorem wm_217 : Cond.selects RX12 yX12_ticketHere yX12_ticketHere ∈ Wg := p5_in (q := (⟨"TicketGateModel", "ticketHere", "()I"⟩, 22)) (List.mem_of_getElem? (i := 0) rfl)
theorem wm_218 : Cond.code yX12_ticketHere cX12_ticketHere 1 (some .int) ∈ Wg := t7_in (List.mem_of_getElem? (i := 215) rfl) rfl
theorem wm_219 : Cond.methodLink RX12 273 yX12_whyNotRefer ∈ Wg := t7_in (List.mem_of_getElem? (i := 219) rfl) rfl
theorem wm_220 : Cond.static yX12_whyNotRefer ∈ Wg := t7_in (List.mem_of_getElem? (i := 220) rfl) rfl
theorem wm_221 : Cond.code yX12_whyNotRefer cX12_whyNotRefer 4 (some .int) ∈ Wg := t7_in (List.mem_of_getElem? (i := 221) rfl) rfl
theorem wm_222 : Cond.methodLink RX12 276 yX12_derive ∈ Wg := t7_in (List.mem_of_getElem? (i := 231) rfl) rfl
theorem wm_223 : Cond.static yX12_derive ∈ Wg := t7_in (List.mem_of_getElem? (i := 232) rfl) rfl
theorem wm_224 : Cond.code yX12_derive cX12_derive 7 (some .int) ∈ Wg := t7_in (List.mem_of_getElem? (i := 233) rfl) rfl
theorem wm_225 : Cond.methodLink RX12 280 yX12_serviceHere ∈ Wg := t8_in (List.mem_of_getElem? (i := 2) rfl) rfl
theorem wm_226 : Cond.instanceMethod yX12_serviceHere ∈ Wg := t8_in (List.mem_of_getElem? (i := 4) rfl) rfl
theorem wm_227 : Cond.selects RX12 yX12_serviceHere yX12_serviceHere ∈ Wg := p5_in (q := (⟨"TicketGateModel", "serviceHere", "()I"⟩, 22)) (List.mem_of_getElem? (i := 2) rfl)
theorem wm_228 : Cond.code yX12_serviceHere cX12_serviceHere 1 (some .int) ∈ Wg := t8_in (List.mem_of_getElem? (i := 5) rfl) rfl
theorem wm_229 : Cond.methodLink RX12 283 yX12_whyNotRequest ∈ Wg := t8_in (List.mem_of_getElem? (i := 6) rfl) rfl
theorem wm_230 : Cond.static yX12_whyNotRequest ∈ Wg := t8_in (List.mem_of_getElem? (i := 7) rfl) rfl
theorem wm_231 : Cond.code yX12_whyNotRequest cX12_whyNotRequest 4 (some .int) ∈ Wg := t8_in (List.mem_of_getElem? (i := 8) rfl) rfl
theorem wm_232 : Cond.methodLink RX12 286 yX12_whyNotRenew ∈ Wg := t8_in (List.mem_of_getElem? (i := 14) rfl) rfl
theorem wm_233 : Cond.static yX12_whyNotRenew ∈ Wg := t8_in (List.mem_of_getElem? (i := 15) rfl) rfl
theorem wm_234 : Cond.code yX12_whyNotRenew cX12_whyNotRenew 3 (some .int) ∈ Wg := t8_in (List.mem_of_getElem? (i := 16) rfl) rfl
theorem wm_235 : Cond.methodLink RX12 289 yX12_renews ∈ Wg := t8_in (List.mem_of_getElem? (i := 20) rfl) rfl
theorem wm_236 : Cond.static yX12_renews ∈ Wg := t8_in (List.mem_of_getElem? (i := 21) rfl) rfl
theorem wm_237 : Cond.code yX12_renews cX12_renews 3 (some .int) ∈ Wg := t8_in (List.mem_of_getElem? (i := 22) rfl) rfl
theorem wm_238 : Cond.methodLink RX12 292 yX12_whyNotCheese ∈ Wg := t8_in (List.mem_of_getElem? (i := 28) rfl) rfl
theorem wm_239 : Cond.static yX12_whyNotCheese ∈ Wg := t8_in (List.mem_of_getElem? (i := 29) rfl) rfl
theorem wm_240 : Cond.code yX12_whyNotCheese cX12_whyNotCheese 3 (some .int) ∈ Wg := t8_in (List.mem_of_getElem? (i := 30) rfl) rfl
theorem wm_241 : Cond.methodLink RX12 295 yX12_gives ∈ Wg := t8_in (List.mem_of_getElem? (i := 37) rfl) rfl
theorem wm_242 : Cond.static yX12_gives ∈ Wg := t8_in (List.mem_of_getElem? (i := 38) rfl) rfl
theorem wm_243 : Cond.code yX12_gives cX12_gives 4 (some .int) ∈ Wg := t8_in (List.mem_of_getElem? (i := 39) rfl) rfl
theorem wm_244 : Cond.methodLink RX12 298 yX12_sweeps ∈ Wg := t8_in (List.mem_of_getElem? (i := 56) rfl) rfl
theorem wm_245 : Cond.static yX12_sweeps ∈ Wg := t8_in (List.mem_of_getElem? (i := 57) rfl) rfl
theorem wm_246 : Cond.code yX12_sweeps cX12_sweeps 3 (some .int) ∈ Wg := t8_in (List.mem_of_getElem? (i := 58) rfl) rfl
theorem wm_247 : Cond.methodLink RX12 301 yX12_passes ∈ Wg := t8_in (List.mem_of_getElem? (i := 64) rfl) rfl
theorem wm_248 : Cond.static yX12_passes ∈ Wg := t8_in (List.mem_of_getElem? (i := 65) rfl) rfl
theorem wm_249 : Cond.code yX12_passes cX12_passes 3 (some .int) ∈ Wg := t8_in (List.mem_of_getElem? (i := 66) rfl) rfl
theorem wm_250 : Cond.methodLink RX12 361 yX12_readPass ∈ Wg := t8_in (List.mem_of_getElem? (i := 60) rfl) rfl
theorem wm_251 : Cond.instanceMethod yX12_readPass ∈ Wg := t8_in (List.mem_of_getElem? (i := 62) rfl) rfl
theorem wm_252 : Cond.selects RX12 yX12_readPass yX12_readPass ∈ Wg := p5_in (q := (⟨"TicketGateModel", "readPass", "()V"⟩, 22)) (List.mem_of_getElem? (i := 7) rfl)
theorem wm_253 : Cond.code yX12_readPass cX12_readPass 2 none ∈ Wg := t8_in (List.mem_of_getElem? (i := 63) rfl) rfl
theorem wm_254 : Cond.methodLink RX12 356 yX12_readSweep ∈ Wg := t8_in (List.mem_of_getElem? (i := 52) rfl) rfl
theorem wm_255 : Cond.instanceMethod yX12_readSweep ∈ Wg := t8_in (List.mem_of_getElem? (i := 54) rfl) rfl
theorem wm_256 : Cond.selects RX12 yX12_readSweep yX12_readSweep ∈ Wg := p5_in (q := (⟨"TicketGateModel", "readSweep", "()V"⟩, 22)) (List.mem_of_getElem? (i := 6) rfl)
theorem wm_257 : Cond.code yX12_readSweep cX12_readSweep 1 none ∈ Wg := t8_in (List.mem_of_getElem? (i := 55) rfl) rfl
theorem wm_258 : Cond.methodLink RX12 351 yX12_readDrop ∈ Wg := t8_in (List.mem_of_getElem? (i := 44) rfl) rfl
theorem wm_259 : Cond.instanceMethod yX12_readDrop ∈ Wg := t8_in (List.mem_of_getElem? (i := 46) rfl) rfl
theorem wm_260 : Cond.selects RX12 yX12_readDrop yX12_readDrop ∈ Wg := p5_in (q := (⟨"TicketGateModel", "readDrop", "()V"⟩, 22)) (List.mem_of_getElem? (i := 5) rfl)
theorem wm_261 : Cond.code yX12_readDrop cX12_readDrop 2 none ∈ Wg := t8_in (List.mem_of_getElem? (i := 47) rfl) rfl
theorem wm_262 : Cond.methodLink RX12 346 yX12_readCheese ∈ Wg := t8_in (List.mem_of_getElem? (i := 24) rfl) rfl
theorem wm_263 : Cond.instanceMethod yX12_readCheese ∈ Wg := t8_in (List.mem_of_getElem? (i := 26) rfl) rfl
theorem wm_264 : Cond.selects RX12 yX12_readCheese yX12_readCheese ∈ Wg := p5_in (q := (⟨"TicketGateModel", "readCheese", "()V"⟩, 22)) (List.mem_of_getElem? (i := 4) rfl)
theorem wm_265 : Cond.code yX12_readCheese cX12_readCheese 2 none ∈ Wg := t8_in (List.mem_of_getElem? (i := 27) rfl) rfl
theorem wm_266 : Cond.methodLink RX12 341 yX12_readRenew ∈ Wg := t8_in (List.mem_of_getElem? (i := 10) rfl) rfl
theorem wm_267 : Cond.instanceMethod yX12_readRenew ∈ Wg := t8_in (List.mem_of_getElem? (i := 12) rfl) rfl
theorem wm_268 : Cond.selects RX12 yX12_readRenew yX12_readRenew ∈ Wg := p5_in (q := (⟨"TicketGateModel", "readRenew", "()V"⟩, 22)) (List.mem_of_getElem? (i := 3) rfl)
theorem wm_269 : Cond.code yX12_readRenew cX12_readRenew 2 none ∈ Wg := t8_in (List.mem_of_getElem? (i := 13) rfl) rfl
theorem wm_270 : Cond.methodLink RX12 336 yX12_readRequest ∈ Wg := t7_in (List.mem_of_getElem? (i := 238) rfl) rfl
theorem wm_271 : Cond.instanceMethod yX12_readRequest ∈ Wg := t8_in (List.mem_of_getElem? (i := 0) rfl) rfl
theorem wm_272 : Cond.selects RX12 yX12_readRequest yX12_readRequest ∈ Wg := p5_in (q := (⟨"TicketGateModel", "readRequest", "()V"⟩, 22)) (List.mem_of_getElem? (i := 1) rfl)
theorem wm_273 : Cond.code yX12_readRequest cX12_readRequest 3 none ∈ Wg := t8_in (List.mem_of_getElem? (i := 1) rfl) rfl
theorem wm_274 : Cond.methodLink RX12 331 yX12_readRefer ∈ Wg := t7_in (List.mem_of_getElem? (i := 208) rfl) rfl
theorem wm_275 : Cond.instanceMethod yX12_readRefer ∈ Wg := t7_in (List.mem_of_getElem? (i := 210) rfl) rfl
theorem wm_276 : Cond.selects RX12 yX12_readRefer yX12_readRefer ∈ Wg := p4_in (q := (⟨"TicketGateModel", "readRefer", "()V"⟩, 22)) (List.mem_of_getElem? (i := 15) rfl)
theorem wm_277 : Cond.code yX12_readRefer cX12_readRefer 3 none ∈ Wg := t7_in (List.mem_of_getElem? (i := 211) rfl) rfl
theorem wm_278 : Cond.methodLink RX12 326 yX12_readLogin ∈ Wg := t7_in (List.mem_of_getElem? (i := 174) rfl) rfl
theorem wm_279 : Cond.instanceMethod yX12_readLogin ∈ Wg := t7_in (List.mem_of_getElem? (i := 176) rfl) rfl
theorem wm_280 : Cond.selects RX12 yX12_readLogin yX12_readLogin ∈ Wg := p4_in (q := (⟨"TicketGateModel", "readLogin", "()V"⟩, 22)) (List.mem_of_getElem? (i := 13) rfl)
theorem wm_281 : Cond.code yX12_readLogin cX12_readLogin 4 none ∈ Wg := t7_in (List.mem_of_getElem? (i := 177) rfl) rfl
theorem wm_282 : Cond.methodLink RX12 321 yX12_readService ∈ Wg := t7_in (List.mem_of_getElem? (i := 169) rfl) rfl
theorem wm_283 : Cond.instanceMethod yX12_readService ∈ Wg := t7_in (List.mem_of_getElem? (i := 171) rfl) rfl
theorem wm_284 : Cond.selects RX12 yX12_readService yX12_readService ∈ Wg := p4_in (q := (⟨"TicketGateModel", "readService", "()V"⟩, 22)) (List.mem_of_getElem? (i := 12) rfl)
theorem wm_285 : Cond.code yX12_readService cX12_readService 5 none ∈ Wg := t7_in (List.mem_of_getElem? (i := 172) rfl) rfl
theorem wm_286 : Cond.methodLink RX12 316 yX12_readUser ∈ Wg := t7_in (List.mem_of_getElem? (i := 164) rfl) rfl
theorem wm_287 : Cond.instanceMethod yX12_readUser ∈ Wg := t7_in (List.mem_of_getElem? (i := 166) rfl) rfl
theorem wm_288 : Cond.selects RX12 yX12_readUser yX12_readUser ∈ Wg := p4_in (q := (⟨"TicketGateModel", "readUser", "()V"⟩, 22)) (List.mem_of_getElem? (i := 11) rfl)
theorem wm_289 : Cond.code yX12_readUser cX12_readUser 6 none ∈ Wg := t7_in (List.mem_of_getElem? (i := 167) rfl) rfl
theorem wm_290 : Cond.methodLink RX12 311 yX12_readTrust ∈ Wg := t7_in (List.mem_of_getElem? (i := 140) rfl) rfl
theorem wm_291 : Cond.instanceMethod yX12_readTrust ∈ Wg := t7_in (List.mem_of_getElem? (i := 142) rfl) rfl
theorem wm_292 : Cond.selects RX12 yX12_readTrust yX12_readTrust ∈ Wg := p4_in (q := (⟨"TicketGateModel", "readTrust", "()V"⟩, 22)) (List.mem_of_getElem? (i := 6) rfl)
theorem wm_293 : Cond.code yX12_readTrust cX12_readTrust 3 none ∈ Wg := t7_in (List.mem_of_getElem? (i := 143) rfl) rfl
theorem wm_294 : Cond.methodLink RX12 306 yX12_readRealm ∈ Wg := t7_in (List.mem_of_getElem? (i := 99) rfl) rfl
theorem wm_295 : Cond.instanceMethod yX12_readRealm ∈ Wg := t7_in (List.mem_of_getElem? (i := 101) rfl) rfl
theorem wm_296 : Cond.selects RX12 yX12_readRealm yX12_readRealm ∈ Wg := p4_in (q := (⟨"TicketGateModel", "readRealm", "()V"⟩, 22)) (List.mem_of_getElem? (i := 2) rfl)
theorem wm_297 : Cond.code yX12_readRealm cX12_readRealm 6 none ∈ Wg := t7_in (List.mem_of_getElem? (i := 102) rfl) rfl
theorem wm_298 : Cond.methodLink RX12 366 yX12_readStatement ∈ Wg := t7_in (List.mem_of_getElem? (i := 94) rfl) rfl
theorem wm_299 : Cond.instanceMethod yX12_readStatement ∈ Wg := t7_in (List.mem_of_getElem? (i := 96) rfl) rfl
theorem wm_300 : Cond.selects RX12 yX12_readStatement yX12_readStatement ∈ Wg := p4_in (q := (⟨"TicketGateModel", "readStatement", "()V"⟩, 22)) (List.mem_of_getElem? (i := 1) rfl)
theorem wm_301 : Cond.code yX12_readStatement cX12_readStatement 1 none ∈ Wg := t7_in (List.mem_of_getElem? (i := 97) rfl) rfl
theorem wm_302 : Cond.fieldLink RX12 372 "TicketGateModel" "undoable" "I" ∈ Wg := t8_in (List.mem_of_getElem? (i := 82) rfl) rfl
theorem wm_303 : Cond.fieldLink RX12 375 "TicketGateModel" "undoStart" "I" ∈ Wg := t8_in (List.mem_of_getElem? (i := 83) rfl) rfl
theorem wm_304 : Cond.fieldLink RX12 7 "TicketGateModel" "s" "[I" ∈ Wg := t8_in (List.mem_of_getElem? (i := 76) rfl) rfl
theorem wm_305 : Cond.fieldLink RX12 19 "TicketGateModel" "remembered" "[I" ∈ Wg := t8_in (List.mem_of_getElem? (i := 79) rfl) rfl
theorem wm_306 : Cond.methodLink RX12 58 yX12_copyRow ∈ Wg := t8_in (List.mem_of_getElem? (i := 73) rfl) rfl
theorem wm_307 : Cond.static yX12_copyRow ∈ Wg := t8_in (List.mem_of_getElem? (i := 74) rfl) rfl
theorem wm_308 : Cond.code yX12_copyRow cX12_copyRow 5 none ∈ Wg := t8_in (List.mem_of_getElem? (i := 75) rfl) rfl
theorem wm_309 : Cond.methodLink RX12 52 yX12_read ∈ Wg := t7_in (List.mem_of_getElem? (i := 50) rfl) rfl
theorem wm_310 : Cond.instanceMethod yX12_read ∈ Wg := t7_in (List.mem_of_getElem? (i := 52) rfl) rfl
theorem wm_311 : Cond.selects RX12 yX12_read yX12_read ∈ Wg := p3_in (q := (⟨"TicketGateModel", "read", "()V"⟩, 22)) (List.mem_of_getElem? (i := 8) rfl)
theorem wm_312 : Cond.code yX12_read cX12_read 2 none ∈ Wg := t7_in (List.mem_of_getElem? (i := 53) rfl) rfl
theorem wm_313 : Cond.methodLink RX12 369 yX12_remember ∈ Wg := t8_in (List.mem_of_getElem? (i := 180) rfl) rfl
theorem wm_314 : Cond.instanceMethod yX12_remember ∈ Wg := t8_in (List.mem_of_getElem? (i := 182) rfl) rfl
theorem wm_315 : Cond.selects RX12 yX12_remember yX12_remember ∈ Wg := p5_in (q := (⟨"TicketGateModel", "remember", "()V"⟩, 22)) (List.mem_of_getElem? (i := 11) rfl)
theorem wm_316 : Cond.code yX12_remember cX12_remember 1 none ∈ Wg := t8_in (List.mem_of_getElem? (i := 183) rfl) rfl
theorem wm_317 : Cond.methodLink RX12 378 yX12_noRealm ∈ Wg := t8_in (List.mem_of_getElem? (i := 216) rfl) rfl
theorem wm_318 : Cond.instanceMethod yX12_noRealm ∈ Wg := t8_in (List.mem_of_getElem? (i := 218) rfl) rfl
theorem wm_319 : Cond.selects RX12 yX12_noRealm yX12_noRealm ∈ Wg := p5_in (q := (⟨"TicketGateModel", "noRealm", "(I)Z"⟩, 22)) (List.mem_of_getElem? (i := 12) rfl)
theorem wm_320 : Cond.code yX12_noRealm cX12_noRealm 2 (some .boolean) ∈ Wg := t8_in (List.mem_of_getElem? (i := 219) rfl) rfl
theorem wm_321 : Cond.methodLink RX12 381 yX12_noRealms ∈ Wg := t8_in (List.mem_of_getElem? (i := 228) rfl) rfl
theorem wm_322 : Cond.instanceMethod yX12_noRealms ∈ Wg := t8_in (List.mem_of_getElem? (i := 230) rfl) rfl
theorem wm_323 : Cond.selects RX12 yX12_noRealms yX12_noRealms ∈ Wg := p5_in (q := (⟨"TicketGateModel", "noRealms", "(II)Z"⟩, 22)) (List.mem_of_getElem? (i := 13) rfl)
theorem wm_324 : Cond.code yX12_noRealms cX12_noRealms 3 (some .boolean) ∈ Wg := t8_in (List.mem_of_getElem? (i := 231) rfl) rfl
theorem wm_325 : Cond.methodLink RX12 385 yX12_far ∈ Wg := t8_in (List.mem_of_getElem? (i := 236) rfl) rfl
theorem wm_326 : Cond.instanceMethod yX12_far ∈ Wg := t8_in (List.mem_of_getElem? (i := 238) rfl) rfl
theorem wm_327 : Cond.selects RX12 yX12_far yX12_far ∈ Wg := p5_in (q := (⟨"TicketGateModel", "far", "([III)I"⟩, 22)) (List.mem_of_getElem? (i := 14) rfl)
theorem wm_328 : Cond.code yX12_far cX12_far 4 (some .int) ∈ Wg := t8_in (List.mem_of_getElem? (i := 239) rfl) rfl
theorem wm_329 : Cond.methodLink RX12 388 yX12_noUser ∈ Wg := t9_in (List.mem_of_getElem? (i := 12) rfl) rfl
theorem wm_330 : Cond.instanceMethod yX12_noUser ∈ Wg := t9_in (List.mem_of_getElem? (i := 14) rfl) rfl
theorem wm_331 : Cond.selects RX12 yX12_noUser yX12_noUser ∈ Wg := p6_in (q := (⟨"TicketGateModel", "noUser", "(I)Z"⟩, 22)) (List.mem_of_getElem? (i := 0) rfl)
theorem wm_332 : Cond.code yX12_noUser cX12_noUser 2 (some .boolean) ∈ Wg := t9_in (List.mem_of_getElem? (i := 15) rfl) rfl
theorem wm_333 : Cond.methodLink RX12 391 yX12_noService ∈ Wg := t9_in (List.mem_of_getElem? (i := 28) rfl) rfl
theorem wm_334 : Cond.instanceMethod yX12_noService ∈ Wg := t9_in (List.mem_of_getElem? (i := 30) rfl) rfl
theorem wm_335 : Cond.selects RX12 yX12_noService yX12_noService ∈ Wg := p6_in (q := (⟨"TicketGateModel", "noService", "(I)Z"⟩, 22)) (List.mem_of_getElem? (i := 1) rfl)
theorem wm_336 : Cond.code yX12_noService cX12_noService 2 (some .boolean) ∈ Wg := t9_in (List.mem_of_getElem? (i := 31) rfl) rfl
theorem wm_337 : Cond.methodLink RX12 394 yX12_noTicket ∈ Wg := t9_in (List.mem_of_getElem? (i := 52) rfl) rfl
theorem wm_338 : Cond.instanceMethod yX12_noTicket ∈ Wg := t9_in (List.mem_of_getElem? (i := 54) rfl) rfl
theorem wm_339 : Cond.selects RX12 yX12_noTicket yX12_noTicket ∈ Wg := p6_in (q := (⟨"TicketGateModel", "noTicket", "(I)Z"⟩, 22)) (List.mem_of_getElem? (i := 3) rfl)
theorem wm_340 : Cond.code yX12_noTicket cX12_noTicket 2 (some .boolean) ∈ Wg := t9_in (List.mem_of_getElem? (i := 55) rfl) rfl
theorem wm_341 : Cond.methodLink RX12 397 yX12_ofIt ∈ Wg := t9_in (List.mem_of_getElem? (i := 48) rfl) rfl
theorem wm_342 : Cond.instanceMethod yX12_ofIt ∈ Wg := t9_in (List.mem_of_getElem? (i := 50) rfl) rfl
theorem wm_343 : Cond.selects RX12 yX12_ofIt yX12_ofIt ∈ Wg := p6_in (q := (⟨"TicketGateModel", "ofIt", "(II)I"⟩, 22)) (List.mem_of_getElem? (i := 2) rfl)
theorem wm_344 : Cond.code yX12_ofIt cX12_ofIt 3 (some .int) ∈ Wg := t9_in (List.mem_of_getElem? (i := 51) rfl) rfl
theorem wm_345 : Cond.methodLink RX12 400 yX12_out ∈ Wg := t9_in (List.mem_of_getElem? (i := 100) rfl) rfl
theorem wm_346 : Cond.instanceMethod yX12_out ∈ Wg := t9_in (List.mem_of_getElem? (i := 102) rfl) rfl
theorem wm_347 : Cond.selects RX12 yX12_out yX12_out ∈ Wg := p6_in (q := (⟨"TicketGateModel", "out", "(III)Z"⟩, 22)) (List.mem_of_getElem? (i := 4) rfl)
theorem wm_348 : Cond.code yX12_out cX12_out 4 (some .boolean) ∈ Wg := t9_in (List.mem_of_getElem? (i := 103) rfl) rfl
theorem wm_349 : Cond.fieldLink RX12 16 "TicketGateModel" "tried" "[I" ∈ Wg := t8_in (List.mem_of_getElem? (i := 78) rfl) rfl
theorem wm_350 : Cond.fieldLink RX12 39 "TicketGateModel" "halfway" "[I" ∈ Wg := t8_in (List.mem_of_getElem? (i := 95) rfl) rfl
theorem wm_351 : Cond.methodLink RX12 403 yX12_goHalfway ∈ Wg := t9_in (List.mem_of_getElem? (i := 152) rfl) rfl
theorem wm_352 : Cond.instanceMethod yX12_goHalfway ∈ Wg := t9_in (List.mem_of_getElem? (i := 154) rfl) rfl
theorem wm_353 : Cond.selects RX12 yX12_goHalfway yX12_goHalfway ∈ Wg := p6_in (q := (⟨"TicketGateModel", "goHalfway", "()V"⟩, 22)) (List.mem_of_getElem? (i := 5) rfl)
theorem wm_354 : Cond.code yX12_goHalfway cX12_goHalfway 4 none ∈ Wg := t9_in (List.mem_of_getElem? (i := 155) rfl) rfl
theorem wm_355 : Cond.methodLink RX12 406 yX12_setOf ∈ Wg := t9_in (List.mem_of_getElem? (i := 196) rfl) rfl
theorem wm_356 : Cond.instanceMethod yX12_setOf ∈ Wg := t9_in (List.mem_of_getElem? (i := 198) rfl) rfl
theorem wm_357 : Cond.selects RX12 yX12_setOf yX12_setOf ∈ Wg := p6_in (q := (⟨"TicketGateModel", "setOf", "(III)I"⟩, 22)) (List.mem_of_getElem? (i := 6) rfl)
theorem wm_358 : Cond.code yX12_setOf cX12_setOf 5 (some .int) ∈ Wg := t9_in (List.mem_of_getElem? (i := 199) rfl) rfl
theorem wm_359 : Cond.fieldLink RX12 42 "TicketGateModel" "output" "[B" ∈ Wg := t8_in (List.mem_of_getElem? (i := 96) rfl) rfl
theorem wm_360 : Cond.fieldLink RX12 410 "TicketGateModel" "outputLength" "I" ∈ Wg := t8_in (List.mem_of_getElem? (i := 97) rfl) rfl
theorem wm_361 : Cond.methodLink RX12 413 yX12_print ∈ Wg := t9_in (List.mem_of_getElem? (i := 216) rfl) rfl
theorem wm_362 : Cond.instanceMethod yX12_print ∈ Wg := t9_in (List.mem_of_getElem? (i := 218) rfl) rfl
theorem wm_363 : Cond.selects RX12 yX12_print yX12_print ∈ Wg := p6_in (q := (⟨"TicketGateModel", "print", "(I)V"⟩, 22)) (List.mem_of_getElem? (i := 8) rfl)
theorem wm_364 : Cond.code yX12_print cX12_print 2 none ∈ Wg := t9_in (List.mem_of_getElem? (i := 219) rfl) rfl
theorem wm_365 : Cond.methodLink RX12 416 yX12_printNumber ∈ Wg := t9_in (List.mem_of_getElem? (i := 212) rfl) rfl
theorem wm_366 : Cond.instanceMethod yX12_printNumber ∈ Wg := t9_in (List.mem_of_getElem? (i := 214) rfl) rfl
theorem wm_367 : Cond.selects RX12 yX12_printNumber yX12_printNumber ∈ Wg := p6_in (q := (⟨"TicketGateModel", "printNumber", "(I)V"⟩, 22)) (List.mem_of_getElem? (i := 7) rfl)
theorem wm_368 : Cond.code yX12_printNumber cX12_printNumber 4 none ∈ Wg := t9_in (List.mem_of_getElem? (i := 215) rfl) rfl
theorem wm_369 : Cond.methodLink RX12 419 yX12_printName ∈ Wg := t9_in (List.mem_of_getElem? (i := 220) rfl) rfl
theorem wm_370 : Cond.instanceMethod yX12_printName ∈ Wg := t9_in (List.mem_of_getElem? (i := 222) rfl) rfl
theorem wm_371 : Cond.selects RX12 yX12_printName yX12_printName ∈ Wg := p6_in (q := (⟨"TicketGateModel", "printName", "(I)V"⟩, 22)) (List.mem_of_getElem? (i := 9) rfl)
theorem wm_372 : Cond.code yX12_printName cX12_printName 4 none ∈ Wg := t9_in (List.mem_of_getElem? (i := 223) rfl) rfl
theorem wm_373 : Cond.fieldLink RX12 22 "TicketGateModel" "slots" "[I" ∈ Wg := t8_in (List.mem_of_getElem? (i := 80) rfl) rfl
theorem wm_374 : Cond.fieldLink RX12 25 "TicketGateModel" "kept" "[Z" ∈ Wg := t8_in (List.mem_of_getElem? (i := 81) rfl) rfl
theorem laym_X12 : ∀ k, k < 22 → u_lay RX12 TX12 k ∈ Wg := fun k hk => match k, hk with
  | 0, _ => wm_5
  | 1, _ => wm_6
  | 2, _ => wm_7
  | 3, _ => wm_8
  | 4, _ => wm_9
  | 5, _ => wm_10
  | 6, _ => wm_11
  | 7, _ => wm_12
  | 8, _ => wm_13
  | 9, _ => wm_14
  | 10, _ => wm_15
  | 11, _ => wm_16
  | 12, _ => wm_17
  | 13, _ => wm_18
  | 14, _ => wm_19
  | 15, _ => wm_20
  | 16, _ => wm_21
  | 17, _ => wm_22
  | 18, _ => wm_23
  | 19, _ => wm_24
  | 20, _ => wm_25
  | 21, _ => wm_26
  | k + 22, h => absurd h (by omega)
