theorem wbd_0 : Cond.methodLink RL 169 yL_appendInput ∈ Wg := t4_in (List.mem_of_getElem? (i := 197) rfl) rfl
theorem wbd_1 : Cond.static yL_appendInput ∈ Wg := t4_in (List.mem_of_getElem? (i := 198) rfl) rfl
theorem wbd_2 : Cond.initialized RL ∈ Wg := t1_in (List.mem_of_getElem? (i := 0) rfl) rfl
theorem wbd_3 : Cond.codeWith yL_appendInput cL_appendInput 8 (some .int) [(0, 16, 19, 13)] ∈ Wg := t4_in (List.mem_of_getElem? (i := 199) rfl) rfl
theorem wbd_4 : Cond.methodLink RL 174 yX12_appendInput ∈ Wg := t8_in (List.mem_of_getElem? (i := 148) rfl) rfl
theorem wbd_5 : Cond.instanceMethod yX12_appendInput ∈ Wg := t8_in (List.mem_of_getElem? (i := 149) rfl) rfl
theorem wbd_6 : Cond.selects RX12 yX12_appendInput yX12_appendInput ∈ Wg := t8_in (List.mem_of_getElem? (i := 150) rfl) rfl
theorem wbd_7 : Cond.initialized RX12 ∈ Wg := t1_in (List.mem_of_getElem? (i := 18) rfl) rfl
theorem wbd_8 : Cond.code yX12_appendInput cX12_appendInput 6 (some .int) ∈ Wg := t8_in (List.mem_of_getElem? (i := 151) rfl) rfl
theorem wbd_9 : Cond.methodLink RL 175 yX12_thrown ∈ Wg := t8_in (List.mem_of_getElem? (i := 144) rfl) rfl
theorem wbd_10 : Cond.instanceMethod yX12_thrown ∈ Wg := t8_in (List.mem_of_getElem? (i := 145) rfl) rfl
theorem wbd_11 : Cond.selects RX12 yX12_thrown yX12_thrown ∈ Wg := t8_in (List.mem_of_getElem? (i := 146) rfl) rfl
theorem wbd_12 : Cond.code yX12_thrown cX12_thrown 1 (some .int) ∈ Wg := t8_in (List.mem_of_getElem? (i := 147) rfl) rfl
theorem wbd_13 : Cond.methodLink RL 178 yL_truncateInput ∈ Wg := t5_in (List.mem_of_getElem? (i := 37) rfl) rfl
theorem wbd_14 : Cond.static yL_truncateInput ∈ Wg := t5_in (List.mem_of_getElem? (i := 38) rfl) rfl
theorem wbd_15 : Cond.codeWith yL_truncateInput cL_truncateInput 4 (some .int) [(0, 9, 12, 19)] ∈ Wg := t5_in (List.mem_of_getElem? (i := 39) rfl) rfl
theorem wbd_16 : Cond.methodLink RL 181 yX12_truncateInput ∈ Wg := t8_in (List.mem_of_getElem? (i := 160) rfl) rfl
theorem wbd_17 : Cond.instanceMethod yX12_truncateInput ∈ Wg := t8_in (List.mem_of_getElem? (i := 161) rfl) rfl
theorem wbd_18 : Cond.selects RX12 yX12_truncateInput yX12_truncateInput ∈ Wg := t8_in (List.mem_of_getElem? (i := 162) rfl) rfl
theorem wbd_19 : Cond.code yX12_truncateInput cX12_truncateInput 2 (some .int) ∈ Wg := t8_in (List.mem_of_getElem? (i := 163) rfl) rfl
theorem wbd_20 : Cond.methodLink RL 182 yL_load ∈ Wg := t5_in (List.mem_of_getElem? (i := 61) rfl) rfl
theorem wbd_21 : Cond.static yL_load ∈ Wg := t5_in (List.mem_of_getElem? (i := 62) rfl) rfl
theorem wbd_22 : Cond.codeWith yL_load cL_load 3 (some .int) [(0, 8, 11, 19)] ∈ Wg := t5_in (List.mem_of_getElem? (i := 63) rfl) rfl
theorem wbd_23 : Cond.methodLink RL 185 yX12_load ∈ Wg := t8_in (List.mem_of_getElem? (i := 176) rfl) rfl
theorem wbd_24 : Cond.instanceMethod yX12_load ∈ Wg := t8_in (List.mem_of_getElem? (i := 177) rfl) rfl
theorem wbd_25 : Cond.selects RX12 yX12_load yX12_load ∈ Wg := t8_in (List.mem_of_getElem? (i := 178) rfl) rfl
theorem wbd_26 : Cond.code yX12_load cX12_load 1 (some .int) ∈ Wg := t8_in (List.mem_of_getElem? (i := 179) rfl) rfl
theorem wbd_27 : Cond.methodLink RL 186 yX11_errorCode ∈ Wg := t4_in (List.mem_of_getElem? (i := 28) rfl) rfl
theorem wbd_28 : Cond.instanceMethod yX11_errorCode ∈ Wg := t4_in (List.mem_of_getElem? (i := 29) rfl) rfl
theorem wbd_29 : Cond.selects RX11 yX11_errorCode yX11_errorCode ∈ Wg := t4_in (List.mem_of_getElem? (i := 30) rfl) rfl
theorem wbd_30 : Cond.initialized RX11 ∈ Wg := t1_in (List.mem_of_getElem? (i := 1) rfl) rfl
theorem wbd_31 : Cond.code yX11_errorCode cX11_errorCode 1 (some .int) ∈ Wg := t4_in (List.mem_of_getElem? (i := 31) rfl) rfl
theorem wbd_32 : Cond.methodLink RL 189 yX12_errorCode ∈ Wg := t8_in (List.mem_of_getElem? (i := 168) rfl) rfl
theorem wbd_33 : Cond.instanceMethod yX12_errorCode ∈ Wg := t8_in (List.mem_of_getElem? (i := 169) rfl) rfl
theorem wbd_34 : Cond.selects RX12 yX12_errorCode yX12_errorCode ∈ Wg := t8_in (List.mem_of_getElem? (i := 170) rfl) rfl
theorem wbd_35 : Cond.code yX12_errorCode cX12_errorCode 1 (some .int) ∈ Wg := t8_in (List.mem_of_getElem? (i := 171) rfl) rfl
theorem wbd_36 : Cond.methodLink RL 190 yX11_errorPosition ∈ Wg := t4_in (List.mem_of_getElem? (i := 32) rfl) rfl
theorem wbd_37 : Cond.instanceMethod yX11_errorPosition ∈ Wg := t4_in (List.mem_of_getElem? (i := 33) rfl) rfl
theorem wbd_38 : Cond.selects RX11 yX11_errorPosition yX11_errorPosition ∈ Wg := t4_in (List.mem_of_getElem? (i := 34) rfl) rfl
theorem wbd_39 : Cond.code yX11_errorPosition cX11_errorPosition 1 (some .int) ∈ Wg := t4_in (List.mem_of_getElem? (i := 35) rfl) rfl
theorem wbd_40 : Cond.methodLink RL 193 yX12_errorPosition ∈ Wg := t8_in (List.mem_of_getElem? (i := 172) rfl) rfl
theorem wbd_41 : Cond.instanceMethod yX12_errorPosition ∈ Wg := t8_in (List.mem_of_getElem? (i := 173) rfl) rfl
theorem wbd_42 : Cond.selects RX12 yX12_errorPosition yX12_errorPosition ∈ Wg := t8_in (List.mem_of_getElem? (i := 174) rfl) rfl
theorem wbd_43 : Cond.code yX12_errorPosition cX12_errorPosition 1 (some .int) ∈ Wg := t8_in (List.mem_of_getElem? (i := 175) rfl) rfl
theorem wbd_44 : Cond.methodLink RL 194 yX11_time ∈ Wg := t4_in (List.mem_of_getElem? (i := 36) rfl) rfl
theorem wbd_45 : Cond.instanceMethod yX11_time ∈ Wg := t4_in (List.mem_of_getElem? (i := 37) rfl) rfl
theorem wbd_46 : Cond.selects RX11 yX11_time yX11_time ∈ Wg := t4_in (List.mem_of_getElem? (i := 38) rfl) rfl
theorem wbd_47 : Cond.code yX11_time cX11_time 1 (some .int) ∈ Wg := t4_in (List.mem_of_getElem? (i := 39) rfl) rfl
theorem wbd_48 : Cond.methodLink RL 197 yX12_time ∈ Wg := t8_in (List.mem_of_getElem? (i := 188) rfl) rfl
theorem wbd_49 : Cond.instanceMethod yX12_time ∈ Wg := t8_in (List.mem_of_getElem? (i := 189) rfl) rfl
theorem wbd_50 : Cond.selects RX12 yX12_time yX12_time ∈ Wg := t8_in (List.mem_of_getElem? (i := 190) rfl) rfl
theorem wbd_51 : Cond.code yX12_time cX12_time 1 (some .int) ∈ Wg := t8_in (List.mem_of_getElem? (i := 191) rfl) rfl
theorem wbd_52 : Cond.methodLink RL 198 yX11_seed ∈ Wg := t4_in (List.mem_of_getElem? (i := 40) rfl) rfl
theorem wbd_53 : Cond.instanceMethod yX11_seed ∈ Wg := t4_in (List.mem_of_getElem? (i := 41) rfl) rfl
theorem wbd_54 : Cond.selects RX11 yX11_seed yX11_seed ∈ Wg := t4_in (List.mem_of_getElem? (i := 42) rfl) rfl
theorem wbd_55 : Cond.code yX11_seed cX11_seed 1 (some .int) ∈ Wg := t4_in (List.mem_of_getElem? (i := 43) rfl) rfl
theorem wbd_56 : Cond.methodLink RL 201 yX12_seed ∈ Wg := t8_in (List.mem_of_getElem? (i := 192) rfl) rfl
theorem wbd_57 : Cond.instanceMethod yX12_seed ∈ Wg := t8_in (List.mem_of_getElem? (i := 193) rfl) rfl
theorem wbd_58 : Cond.selects RX12 yX12_seed yX12_seed ∈ Wg := t8_in (List.mem_of_getElem? (i := 194) rfl) rfl
theorem wbd_59 : Cond.code yX12_seed cX12_seed 1 (some .int) ∈ Wg := t8_in (List.mem_of_getElem? (i := 195) rfl) rfl
theorem wbd_60 : Cond.methodLink RL 202 yX11_realmCount ∈ Wg := t4_in (List.mem_of_getElem? (i := 44) rfl) rfl
theorem wbd_61 : Cond.instanceMethod yX11_realmCount ∈ Wg := t4_in (List.mem_of_getElem? (i := 45) rfl) rfl
theorem wbd_62 : Cond.selects RX11 yX11_realmCount yX11_realmCount ∈ Wg := t4_in (List.mem_of_getElem? (i := 46) rfl) rfl
theorem wbd_63 : Cond.code yX11_realmCount cX11_realmCount 1 (some .int) ∈ Wg := t4_in (List.mem_of_getElem? (i := 47) rfl) rfl
theorem wbd_64 : Cond.methodLink RL 205 yX12_realmCount ∈ Wg := t8_in (List.mem_of_getElem? (i := 196) rfl) rfl
theorem wbd_65 : Cond.instanceMethod yX12_realmCount ∈ Wg := t8_in (List.mem_of_getElem? (i := 197) rfl) rfl
theorem wbd_66 : Cond.selects RX12 yX12_realmCount yX12_realmCount ∈ Wg := t8_in (List.mem_of_getElem? (i := 198) rfl) rfl
theorem wbd_67 : Cond.code yX12_realmCount cX12_realmCount 1 (some .int) ∈ Wg := t8_in (List.mem_of_getElem? (i := 199) rfl) rfl
theorem wbd_68 : Cond.methodLink RL 206 yX11_userCount ∈ Wg := t4_in (List.mem_of_getElem? (i := 51) rfl) rfl
theorem wbd_69 : Cond.instanceMethod yX11_userCount ∈ Wg := t4_in (List.mem_of_getElem? (i := 52) rfl) rfl
theorem wbd_70 : Cond.selects RX11 yX11_userCount yX11_userCount ∈ Wg := t4_in (List.mem_of_getElem? (i := 53) rfl) rfl
theorem wbd_71 : Cond.code yX11_userCount cX11_userCount 1 (some .int) ∈ Wg := t4_in (List.mem_of_getElem? (i := 54) rfl) rfl
theorem wbd_72 : Cond.methodLink RL 209 yX12_userCount ∈ Wg := t8_in (List.mem_of_getElem? (i := 200) rfl) rfl
theorem wbd_73 : Cond.instanceMethod yX12_userCount ∈ Wg := t8_in (List.mem_of_getElem? (i := 201) rfl) rfl
theorem wbd_74 : Cond.selects RX12 yX12_userCount yX12_userCount ∈ Wg := t8_in (List.mem_of_getElem? (i := 202) rfl) rfl
theorem wbd_75 : Cond.code yX12_userCount cX12_userCount 1 (some .int) ∈ Wg := t8_in (List.mem_of_getElem? (i := 203) rfl) rfl
theorem wbd_76 : Cond.methodLink RL 210 yX11_serviceCount ∈ Wg := t4_in (List.mem_of_getElem? (i := 58) rfl) rfl
theorem wbd_77 : Cond.instanceMethod yX11_serviceCount ∈ Wg := t4_in (List.mem_of_getElem? (i := 59) rfl) rfl
theorem wbd_78 : Cond.selects RX11 yX11_serviceCount yX11_serviceCount ∈ Wg := t4_in (List.mem_of_getElem? (i := 60) rfl) rfl
theorem wbd_79 : Cond.code yX11_serviceCount cX11_serviceCount 1 (some .int) ∈ Wg := t4_in (List.mem_of_getElem? (i := 61) rfl) rfl
theorem wbd_80 : Cond.methodLink RL 213 yX12_serviceCount ∈ Wg := t8_in (List.mem_of_getElem? (i := 204) rfl) rfl
theorem wbd_81 : Cond.instanceMethod yX12_serviceCount ∈ Wg := t8_in (List.mem_of_getElem? (i := 205) rfl) rfl
theorem wbd_82 : Cond.selects RX12 yX12_serviceCount yX12_serviceCount ∈ Wg := t8_in (List.mem_of_getElem? (i := 206) rfl) rfl
theorem wbd_83 : Cond.code yX12_serviceCount cX12_serviceCount 1 (some .int) ∈ Wg := t8_in (List.mem_of_getElem? (i := 207) rfl) rfl
theorem wbd_84 : Cond.methodLink RL 214 yX11_findName ∈ Wg := t4_in (List.mem_of_getElem? (i := 65) rfl) rfl
theorem wbd_85 : Cond.instanceMethod yX11_findName ∈ Wg := t4_in (List.mem_of_getElem? (i := 66) rfl) rfl
theorem wbd_86 : Cond.selects RX11 yX11_findName yX11_findName ∈ Wg := t4_in (List.mem_of_getElem? (i := 67) rfl) rfl
theorem wbd_87 : Cond.code yX11_findName cX11_findName 1 (some .int) ∈ Wg := t4_in (List.mem_of_getElem? (i := 68) rfl) rfl
theorem wbd_88 : Cond.methodLink RL 217 yX12_findName ∈ Wg := t8_in (List.mem_of_getElem? (i := 208) rfl) rfl
theorem wbd_89 : Cond.instanceMethod yX12_findName ∈ Wg := t8_in (List.mem_of_getElem? (i := 209) rfl) rfl
theorem wbd_90 : Cond.selects RX12 yX12_findName yX12_findName ∈ Wg := t8_in (List.mem_of_getElem? (i := 210) rfl) rfl
theorem wbd_91 : Cond.code yX12_findName cX12_findName 2 (some .int) ∈ Wg := t8_in (List.mem_of_getElem? (i := 211) rfl) rfl
theorem wbd_92 : Cond.methodLink RL 218 yL_lifetimeOf ∈ Wg := t5_in (List.mem_of_getElem? (i := 69) rfl) rfl
theorem wbd_93 : Cond.static yL_lifetimeOf ∈ Wg := t5_in (List.mem_of_getElem? (i := 70) rfl) rfl
theorem wbd_94 : Cond.codeWith yL_lifetimeOf cL_lifetimeOf 4 (some .int) [(0, 9, 12, 28)] ∈ Wg := t5_in (List.mem_of_getElem? (i := 71) rfl) rfl
theorem wbd_95 : Cond.methodLink RL 220 yX12_lifetimeOf ∈ Wg := t8_in (List.mem_of_getElem? (i := 212) rfl) rfl
theorem wbd_96 : Cond.instanceMethod yX12_lifetimeOf ∈ Wg := t8_in (List.mem_of_getElem? (i := 213) rfl) rfl
theorem wbd_97 : Cond.selects RX12 yX12_lifetimeOf yX12_lifetimeOf ∈ Wg := t8_in (List.mem_of_getElem? (i := 214) rfl) rfl
theorem wbd_98 : Cond.code yX12_lifetimeOf cX12_lifetimeOf 2 (some .int) ∈ Wg := t8_in (List.mem_of_getElem? (i := 215) rfl) rfl
theorem wbd_99 : Cond.methodLink RL 221 yL_clockOf ∈ Wg := t5_in (List.mem_of_getElem? (i := 104) rfl) rfl
theorem wbd_100 : Cond.static yL_clockOf ∈ Wg := t5_in (List.mem_of_getElem? (i := 105) rfl) rfl
theorem wbd_101 : Cond.codeWith yL_clockOf cL_clockOf 4 (some .int) [(0, 9, 12, 28)] ∈ Wg := t5_in (List.mem_of_getElem? (i := 106) rfl) rfl
theorem wbd_102 : Cond.methodLink RL 223 yX12_clockOf ∈ Wg := t8_in (List.mem_of_getElem? (i := 220) rfl) rfl
theorem wbd_103 : Cond.instanceMethod yX12_clockOf ∈ Wg := t8_in (List.mem_of_getElem? (i := 221) rfl) rfl
theorem wbd_104 : Cond.selects RX12 yX12_clockOf yX12_clockOf ∈ Wg := t8_in (List.mem_of_getElem? (i := 222) rfl) rfl
theorem wbd_105 : Cond.code yX12_clockOf cX12_clockOf 2 (some .int) ∈ Wg := t8_in (List.mem_of_getElem? (i := 223) rfl) rfl
theorem wbd_106 : Cond.methodLink RL 224 yL_trusts ∈ Wg := t5_in (List.mem_of_getElem? (i := 111) rfl) rfl
theorem wbd_107 : Cond.static yL_trusts ∈ Wg := t5_in (List.mem_of_getElem? (i := 112) rfl) rfl
theorem wbd_108 : Cond.codeWith yL_trusts cL_trusts 5 (some .int) [(0, 17, 20, 28)] ∈ Wg := t5_in (List.mem_of_getElem? (i := 113) rfl) rfl
theorem wbd_109 : Cond.methodLink RL 227 yX12_trusts ∈ Wg := t8_in (List.mem_of_getElem? (i := 224) rfl) rfl
theorem wbd_110 : Cond.instanceMethod yX12_trusts ∈ Wg := t8_in (List.mem_of_getElem? (i := 225) rfl) rfl
theorem wbd_111 : Cond.selects RX12 yX12_trusts yX12_trusts ∈ Wg := t8_in (List.mem_of_getElem? (i := 226) rfl) rfl
theorem wbd_112 : Cond.code yX12_trusts cX12_trusts 3 (some .boolean) ∈ Wg := t8_in (List.mem_of_getElem? (i := 227) rfl) rfl
theorem wbd_113 : Cond.methodLink RL 228 yL_distance ∈ Wg := t5_in (List.mem_of_getElem? (i := 119) rfl) rfl
theorem wbd_114 : Cond.static yL_distance ∈ Wg := t5_in (List.mem_of_getElem? (i := 120) rfl) rfl
theorem wbd_115 : Cond.codeWith yL_distance cL_distance 5 (some .int) [(0, 10, 13, 28)] ∈ Wg := t5_in (List.mem_of_getElem? (i := 121) rfl) rfl
theorem wbd_116 : Cond.methodLink RL 230 yX12_distance ∈ Wg := t8_in (List.mem_of_getElem? (i := 232) rfl) rfl
theorem wbd_117 : Cond.instanceMethod yX12_distance ∈ Wg := t8_in (List.mem_of_getElem? (i := 233) rfl) rfl
theorem wbd_118 : Cond.selects RX12 yX12_distance yX12_distance ∈ Wg := t8_in (List.mem_of_getElem? (i := 234) rfl) rfl
theorem wbd_119 : Cond.code yX12_distance cX12_distance 3 (some .int) ∈ Wg := t8_in (List.mem_of_getElem? (i := 235) rfl) rfl
theorem wbd_120 : Cond.methodLink RL 231 yL_nextRealm ∈ Wg := t5_in (List.mem_of_getElem? (i := 127) rfl) rfl
theorem wbd_121 : Cond.static yL_nextRealm ∈ Wg := t5_in (List.mem_of_getElem? (i := 128) rfl) rfl
theorem wbd_122 : Cond.codeWith yL_nextRealm cL_nextRealm 5 (some .int) [(0, 10, 13, 28)] ∈ Wg := t5_in (List.mem_of_getElem? (i := 129) rfl) rfl
theorem wbd_123 : Cond.methodLink RL 233 yX12_nextRealm ∈ Wg := t9_in (List.mem_of_getElem? (i := 4) rfl) rfl
theorem wbd_124 : Cond.instanceMethod yX12_nextRealm ∈ Wg := t9_in (List.mem_of_getElem? (i := 5) rfl) rfl
theorem wbd_125 : Cond.selects RX12 yX12_nextRealm yX12_nextRealm ∈ Wg := t9_in (List.mem_of_getElem? (i := 6) rfl) rfl
theorem wbd_126 : Cond.code yX12_nextRealm cX12_nextRealm 5 (some .int) ∈ Wg := t9_in (List.mem_of_getElem? (i := 7) rfl) rfl
theorem wbd_127 : Cond.methodLink RL 234 yL_homeOf ∈ Wg := t5_in (List.mem_of_getElem? (i := 139) rfl) rfl
theorem wbd_128 : Cond.static yL_homeOf ∈ Wg := t5_in (List.mem_of_getElem? (i := 140) rfl) rfl
theorem wbd_129 : Cond.codeWith yL_homeOf cL_homeOf 4 (some .int) [(0, 9, 12, 28)] ∈ Wg := t5_in (List.mem_of_getElem? (i := 141) rfl) rfl
theorem wbd_130 : Cond.methodLink RL 236 yX12_homeOf ∈ Wg := t9_in (List.mem_of_getElem? (i := 8) rfl) rfl
theorem wbd_131 : Cond.instanceMethod yX12_homeOf ∈ Wg := t9_in (List.mem_of_getElem? (i := 9) rfl) rfl
theorem wbd_132 : Cond.selects RX12 yX12_homeOf yX12_homeOf ∈ Wg := t9_in (List.mem_of_getElem? (i := 10) rfl) rfl
theorem wbd_133 : Cond.code yX12_homeOf cX12_homeOf 2 (some .int) ∈ Wg := t9_in (List.mem_of_getElem? (i := 11) rfl) rfl
theorem wbd_134 : Cond.methodLink RL 237 yL_cheesesOf ∈ Wg := t5_in (List.mem_of_getElem? (i := 155) rfl) rfl
theorem wbd_135 : Cond.static yL_cheesesOf ∈ Wg := t5_in (List.mem_of_getElem? (i := 156) rfl) rfl
theorem wbd_136 : Cond.codeWith yL_cheesesOf cL_cheesesOf 4 (some .int) [(0, 9, 12, 28)] ∈ Wg := t5_in (List.mem_of_getElem? (i := 157) rfl) rfl
theorem wbd_137 : Cond.methodLink RL 239 yX12_cheesesOf ∈ Wg := t9_in (List.mem_of_getElem? (i := 16) rfl) rfl
theorem wbd_138 : Cond.instanceMethod yX12_cheesesOf ∈ Wg := t9_in (List.mem_of_getElem? (i := 17) rfl) rfl
theorem wbd_139 : Cond.selects RX12 yX12_cheesesOf yX12_cheesesOf ∈ Wg := t9_in (List.mem_of_getElem? (i := 18) rfl) rfl
theorem wbd_140 : Cond.code yX12_cheesesOf cX12_cheesesOf 2 (some .int) ∈ Wg := t9_in (List.mem_of_getElem? (i := 19) rfl) rfl
theorem wbd_141 : Cond.methodLink RL 240 yL_skew ∈ Wg := t5_in (List.mem_of_getElem? (i := 162) rfl) rfl
theorem wbd_142 : Cond.static yL_skew ∈ Wg := t5_in (List.mem_of_getElem? (i := 163) rfl) rfl
theorem wbd_143 : Cond.codeWith yL_skew cL_skew 5 (some .int) [(0, 10, 13, 28)] ∈ Wg := t5_in (List.mem_of_getElem? (i := 164) rfl) rfl
theorem wbd_144 : Cond.methodLink RL 242 yX12_skew ∈ Wg := t9_in (List.mem_of_getElem? (i := 20) rfl) rfl
theorem wbd_145 : Cond.instanceMethod yX12_skew ∈ Wg := t9_in (List.mem_of_getElem? (i := 21) rfl) rfl
theorem wbd_146 : Cond.selects RX12 yX12_skew yX12_skew ∈ Wg := t9_in (List.mem_of_getElem? (i := 22) rfl) rfl
theorem wbd_147 : Cond.code yX12_skew cX12_skew 3 (some .int) ∈ Wg := t9_in (List.mem_of_getElem? (i := 23) rfl) rfl
theorem wbd_148 : Cond.methodLink RL 243 yL_realmOfService ∈ Wg := t5_in (List.mem_of_getElem? (i := 170) rfl) rfl
theorem wbd_149 : Cond.static yL_realmOfService ∈ Wg := t5_in (List.mem_of_getElem? (i := 171) rfl) rfl
theorem wbd_150 : Cond.codeWith yL_realmOfService cL_realmOfService 4 (some .int) [(0, 9, 12, 28)] ∈ Wg := t5_in (List.mem_of_getElem? (i := 172) rfl) rfl
theorem wbd_151 : Cond.methodLink RL 245 yX12_realmOfService ∈ Wg := t9_in (List.mem_of_getElem? (i := 24) rfl) rfl
theorem wbd_152 : Cond.instanceMethod yX12_realmOfService ∈ Wg := t9_in (List.mem_of_getElem? (i := 25) rfl) rfl
theorem wbd_153 : Cond.selects RX12 yX12_realmOfService yX12_realmOfService ∈ Wg := t9_in (List.mem_of_getElem? (i := 26) rfl) rfl
theorem wbd_154 : Cond.code yX12_realmOfService cX12_realmOfService 2 (some .int) ∈ Wg := t9_in (List.mem_of_getElem? (i := 27) rfl) rfl
theorem wbd_155 : Cond.methodLink RL 246 yL_cheesesLeft ∈ Wg := t5_in (List.mem_of_getElem? (i := 186) rfl) rfl
theorem wbd_156 : Cond.static yL_cheesesLeft ∈ Wg := t5_in (List.mem_of_getElem? (i := 187) rfl) rfl
theorem wbd_157 : Cond.codeWith yL_cheesesLeft cL_cheesesLeft 4 (some .int) [(0, 9, 12, 28)] ∈ Wg := t5_in (List.mem_of_getElem? (i := 188) rfl) rfl
theorem wbd_158 : Cond.methodLink RL 248 yX12_cheesesLeft ∈ Wg := t9_in (List.mem_of_getElem? (i := 32) rfl) rfl
theorem wbd_159 : Cond.instanceMethod yX12_cheesesLeft ∈ Wg := t9_in (List.mem_of_getElem? (i := 33) rfl) rfl
theorem wbd_160 : Cond.selects RX12 yX12_cheesesLeft yX12_cheesesLeft ∈ Wg := t9_in (List.mem_of_getElem? (i := 34) rfl) rfl
theorem wbd_161 : Cond.code yX12_cheesesLeft cX12_cheesesLeft 2 (some .int) ∈ Wg := t9_in (List.mem_of_getElem? (i := 35) rfl) rfl
theorem wbd_162 : Cond.methodLink RL 249 yX11_ticketCount ∈ Wg := t4_in (List.mem_of_getElem? (i := 75) rfl) rfl
theorem wbd_163 : Cond.instanceMethod yX11_ticketCount ∈ Wg := t4_in (List.mem_of_getElem? (i := 76) rfl) rfl
theorem wbd_164 : Cond.selects RX11 yX11_ticketCount yX11_ticketCount ∈ Wg := t4_in (List.mem_of_getElem? (i := 77) rfl) rfl
theorem wbd_165 : Cond.code yX11_ticketCount cX11_ticketCount 1 (some .int) ∈ Wg := t4_in (List.mem_of_getElem? (i := 78) rfl) rfl
theorem wbd_166 : Cond.methodLink RL 252 yX12_ticketCount ∈ Wg := t9_in (List.mem_of_getElem? (i := 36) rfl) rfl
theorem wbd_167 : Cond.instanceMethod yX12_ticketCount ∈ Wg := t9_in (List.mem_of_getElem? (i := 37) rfl) rfl
theorem wbd_168 : Cond.selects RX12 yX12_ticketCount yX12_ticketCount ∈ Wg := t9_in (List.mem_of_getElem? (i := 38) rfl) rfl
theorem wbd_169 : Cond.code yX12_ticketCount cX12_ticketCount 1 (some .int) ∈ Wg := t9_in (List.mem_of_getElem? (i := 39) rfl) rfl
theorem wbd_170 : Cond.methodLink RL 253 yL_ticketAt ∈ Wg := t5_in (List.mem_of_getElem? (i := 193) rfl) rfl
theorem wbd_171 : Cond.static yL_ticketAt ∈ Wg := t5_in (List.mem_of_getElem? (i := 194) rfl) rfl
theorem wbd_172 : Cond.codeWith yL_ticketAt cL_ticketAt 4 (some .int) [(0, 9, 12, 28)] ∈ Wg := t5_in (List.mem_of_getElem? (i := 195) rfl) rfl
theorem wbd_173 : Cond.methodLink RL 255 yX12_ticketAt ∈ Wg := t9_in (List.mem_of_getElem? (i := 40) rfl) rfl
theorem wbd_174 : Cond.instanceMethod yX12_ticketAt ∈ Wg := t9_in (List.mem_of_getElem? (i := 41) rfl) rfl
theorem wbd_175 : Cond.selects RX12 yX12_ticketAt yX12_ticketAt ∈ Wg := t9_in (List.mem_of_getElem? (i := 42) rfl) rfl
theorem wbd_176 : Cond.code yX12_ticketAt cX12_ticketAt 2 (some .int) ∈ Wg := t9_in (List.mem_of_getElem? (i := 43) rfl) rfl
theorem wbd_177 : Cond.methodLink RL 256 yL_kindOf ∈ Wg := t5_in (List.mem_of_getElem? (i := 205) rfl) rfl
theorem wbd_178 : Cond.static yL_kindOf ∈ Wg := t5_in (List.mem_of_getElem? (i := 206) rfl) rfl
theorem wbd_179 : Cond.codeWith yL_kindOf cL_kindOf 4 (some .int) [(0, 9, 12, 65)] ∈ Wg := t5_in (List.mem_of_getElem? (i := 207) rfl) rfl
theorem wbd_180 : Cond.methodLink RL 258 yX12_kindOf ∈ Wg := t9_in (List.mem_of_getElem? (i := 44) rfl) rfl
theorem wbd_181 : Cond.instanceMethod yX12_kindOf ∈ Wg := t9_in (List.mem_of_getElem? (i := 45) rfl) rfl
theorem wbd_182 : Cond.selects RX12 yX12_kindOf yX12_kindOf ∈ Wg := t9_in (List.mem_of_getElem? (i := 46) rfl) rfl
theorem wbd_183 : Cond.code yX12_kindOf cX12_kindOf 2 (some .int) ∈ Wg := t9_in (List.mem_of_getElem? (i := 47) rfl) rfl
theorem wbd_184 : Cond.methodLink RL 259 yL_ownerOf ∈ Wg := t5_in (List.mem_of_getElem? (i := 234) rfl) rfl
theorem wbd_185 : Cond.static yL_ownerOf ∈ Wg := t5_in (List.mem_of_getElem? (i := 235) rfl) rfl
theorem wbd_186 : Cond.codeWith yL_ownerOf cL_ownerOf 4 (some .int) [(0, 9, 12, 65)] ∈ Wg := t5_in (List.mem_of_getElem? (i := 236) rfl) rfl
theorem wbd_187 : Cond.methodLink RL 261 yX12_ownerOf ∈ Wg := t9_in (List.mem_of_getElem? (i := 56) rfl) rfl
theorem wbd_188 : Cond.instanceMethod yX12_ownerOf ∈ Wg := t9_in (List.mem_of_getElem? (i := 57) rfl) rfl
theorem wbd_189 : Cond.selects RX12 yX12_ownerOf yX12_ownerOf ∈ Wg := t9_in (List.mem_of_getElem? (i := 58) rfl) rfl
theorem wbd_190 : Cond.code yX12_ownerOf cX12_ownerOf 2 (some .int) ∈ Wg := t9_in (List.mem_of_getElem? (i := 59) rfl) rfl
theorem wbd_191 : Cond.methodLink RL 262 yL_realmOf ∈ Wg := t6_in (List.mem_of_getElem? (i := 1) rfl) rfl
theorem wbd_192 : Cond.static yL_realmOf ∈ Wg := t6_in (List.mem_of_getElem? (i := 2) rfl) rfl
theorem wbd_193 : Cond.codeWith yL_realmOf cL_realmOf 4 (some .int) [(0, 9, 12, 65)] ∈ Wg := t6_in (List.mem_of_getElem? (i := 3) rfl) rfl
theorem wbd_194 : Cond.methodLink RL 264 yX12_realmOf ∈ Wg := t9_in (List.mem_of_getElem? (i := 60) rfl) rfl
theorem wbd_195 : Cond.instanceMethod yX12_realmOf ∈ Wg := t9_in (List.mem_of_getElem? (i := 61) rfl) rfl
theorem wbd_196 : Cond.selects RX12 yX12_realmOf yX12_realmOf ∈ Wg := t9_in (List.mem_of_getElem? (i := 62) rfl) rfl
theorem wbd_197 : Cond.code yX12_realmOf cX12_realmOf 2 (some .int) ∈ Wg := t9_in (List.mem_of_getElem? (i := 63) rfl) rfl
theorem wbd_198 : Cond.methodLink RL 265 yL_serviceOf ∈ Wg := t6_in (List.mem_of_getElem? (i := 8) rfl) rfl
theorem wbd_199 : Cond.static yL_serviceOf ∈ Wg := t6_in (List.mem_of_getElem? (i := 9) rfl) rfl
theorem wbd_200 : Cond.codeWith yL_serviceOf cL_serviceOf 4 (some .int) [(0, 9, 12, 65)] ∈ Wg := t6_in (List.mem_of_getElem? (i := 10) rfl) rfl
theorem wbd_201 : Cond.methodLink RL 267 yX12_serviceOf ∈ Wg := t9_in (List.mem_of_getElem? (i := 64) rfl) rfl
theorem wbd_202 : Cond.instanceMethod yX12_serviceOf ∈ Wg := t9_in (List.mem_of_getElem? (i := 65) rfl) rfl
theorem wbd_203 : Cond.selects RX12 yX12_serviceOf yX12_serviceOf ∈ Wg := t9_in (List.mem_of_getElem? (i := 66) rfl) rfl
theorem wbd_204 : Cond.code yX12_serviceOf cX12_serviceOf 2 (some .int) ∈ Wg := t9_in (List.mem_of_getElem? (i := 67) rfl) rfl
theorem wbd_205 : Cond.methodLink RL 268 yL_startOf ∈ Wg := t6_in (List.mem_of_getElem? (i := 15) rfl) rfl
theorem wbd_206 : Cond.static yL_startOf ∈ Wg := t6_in (List.mem_of_getElem? (i := 16) rfl) rfl
theorem wbd_207 : Cond.codeWith yL_startOf cL_startOf 4 (some .int) [(0, 9, 12, 65)] ∈ Wg := t6_in (List.mem_of_getElem? (i := 17) rfl) rfl
theorem wbd_208 : Cond.methodLink RL 270 yX12_startOf ∈ Wg := t9_in (List.mem_of_getElem? (i := 68) rfl) rfl
theorem wbd_209 : Cond.instanceMethod yX12_startOf ∈ Wg := t9_in (List.mem_of_getElem? (i := 69) rfl) rfl
theorem wbd_210 : Cond.selects RX12 yX12_startOf yX12_startOf ∈ Wg := t9_in (List.mem_of_getElem? (i := 70) rfl) rfl
theorem wbd_211 : Cond.code yX12_startOf cX12_startOf 2 (some .int) ∈ Wg := t9_in (List.mem_of_getElem? (i := 71) rfl) rfl
theorem wbd_212 : Cond.methodLink RL 271 yL_endOf ∈ Wg := t6_in (List.mem_of_getElem? (i := 22) rfl) rfl
theorem wbd_213 : Cond.static yL_endOf ∈ Wg := t6_in (List.mem_of_getElem? (i := 23) rfl) rfl
theorem wbd_214 : Cond.codeWith yL_endOf cL_endOf 4 (some .int) [(0, 9, 12, 65)] ∈ Wg := t6_in (List.mem_of_getElem? (i := 24) rfl) rfl
theorem wbd_215 : Cond.methodLink RL 273 yX12_endOf ∈ Wg := t9_in (List.mem_of_getElem? (i := 72) rfl) rfl
theorem wbd_216 : Cond.instanceMethod yX12_endOf ∈ Wg := t9_in (List.mem_of_getElem? (i := 73) rfl) rfl
theorem wbd_217 : Cond.selects RX12 yX12_endOf yX12_endOf ∈ Wg := t9_in (List.mem_of_getElem? (i := 74) rfl) rfl
theorem wbd_218 : Cond.code yX12_endOf cX12_endOf 2 (some .int) ∈ Wg := t9_in (List.mem_of_getElem? (i := 75) rfl) rfl
theorem wbd_219 : Cond.methodLink RL 274 yL_lastEndOf ∈ Wg := t6_in (List.mem_of_getElem? (i := 29) rfl) rfl
theorem wbd_220 : Cond.static yL_lastEndOf ∈ Wg := t6_in (List.mem_of_getElem? (i := 30) rfl) rfl
theorem wbd_221 : Cond.codeWith yL_lastEndOf cL_lastEndOf 4 (some .int) [(0, 9, 12, 65)] ∈ Wg := t6_in (List.mem_of_getElem? (i := 31) rfl) rfl
theorem wbd_222 : Cond.methodLink RL 276 yX12_lastEndOf ∈ Wg := t9_in (List.mem_of_getElem? (i := 76) rfl) rfl
theorem wbd_223 : Cond.instanceMethod yX12_lastEndOf ∈ Wg := t9_in (List.mem_of_getElem? (i := 77) rfl) rfl
theorem wbd_224 : Cond.selects RX12 yX12_lastEndOf yX12_lastEndOf ∈ Wg := t9_in (List.mem_of_getElem? (i := 78) rfl) rfl
theorem wbd_225 : Cond.code yX12_lastEndOf cX12_lastEndOf 2 (some .int) ∈ Wg := t9_in (List.mem_of_getElem? (i := 79) rfl) rfl
theorem wbd_226 : Cond.methodLink RL 277 yL_keyOf ∈ Wg := t6_in (List.mem_of_getElem? (i := 36) rfl) rfl
theorem wbd_227 : Cond.static yL_keyOf ∈ Wg := t6_in (List.mem_of_getElem? (i := 37) rfl) rfl
theorem wbd_228 : Cond.codeWith yL_keyOf cL_keyOf 4 (some .int) [(0, 9, 12, 65)] ∈ Wg := t6_in (List.mem_of_getElem? (i := 38) rfl) rfl
theorem wbd_229 : Cond.methodLink RL 279 yX12_keyOf ∈ Wg := t9_in (List.mem_of_getElem? (i := 80) rfl) rfl
theorem wbd_230 : Cond.instanceMethod yX12_keyOf ∈ Wg := t9_in (List.mem_of_getElem? (i := 81) rfl) rfl
theorem wbd_231 : Cond.selects RX12 yX12_keyOf yX12_keyOf ∈ Wg := t9_in (List.mem_of_getElem? (i := 82) rfl) rfl
theorem wbd_232 : Cond.code yX12_keyOf cX12_keyOf 2 (some .int) ∈ Wg := t9_in (List.mem_of_getElem? (i := 83) rfl) rfl
theorem wbd_233 : Cond.methodLink RL 280 yL_isRenewable ∈ Wg := t6_in (List.mem_of_getElem? (i := 43) rfl) rfl
theorem wbd_234 : Cond.static yL_isRenewable ∈ Wg := t6_in (List.mem_of_getElem? (i := 44) rfl) rfl
theorem wbd_235 : Cond.codeWith yL_isRenewable cL_isRenewable 4 (some .int) [(0, 16, 19, 65)] ∈ Wg := t6_in (List.mem_of_getElem? (i := 45) rfl) rfl
theorem wbd_236 : Cond.methodLink RL 282 yX12_isRenewable ∈ Wg := t9_in (List.mem_of_getElem? (i := 84) rfl) rfl
theorem wbd_237 : Cond.instanceMethod yX12_isRenewable ∈ Wg := t9_in (List.mem_of_getElem? (i := 85) rfl) rfl
theorem wbd_238 : Cond.selects RX12 yX12_isRenewable yX12_isRenewable ∈ Wg := t9_in (List.mem_of_getElem? (i := 86) rfl) rfl
theorem wbd_239 : Cond.code yX12_isRenewable cX12_isRenewable 2 (some .boolean) ∈ Wg := t9_in (List.mem_of_getElem? (i := 87) rfl) rfl
theorem wbd_240 : Cond.methodLink RL 283 yL_isValid ∈ Wg := t6_in (List.mem_of_getElem? (i := 51) rfl) rfl
theorem wbd_241 : Cond.static yL_isValid ∈ Wg := t6_in (List.mem_of_getElem? (i := 52) rfl) rfl
theorem wbd_242 : Cond.codeWith yL_isValid cL_isValid 4 (some .int) [(0, 16, 19, 65)] ∈ Wg := t6_in (List.mem_of_getElem? (i := 53) rfl) rfl
theorem wbd_243 : Cond.methodLink RL 285 yX12_isValid ∈ Wg := t9_in (List.mem_of_getElem? (i := 88) rfl) rfl
theorem wbd_244 : Cond.instanceMethod yX12_isValid ∈ Wg := t9_in (List.mem_of_getElem? (i := 89) rfl) rfl
theorem wbd_245 : Cond.selects RX12 yX12_isValid yX12_isValid ∈ Wg := t9_in (List.mem_of_getElem? (i := 90) rfl) rfl
theorem wbd_246 : Cond.code yX12_isValid cX12_isValid 2 (some .boolean) ∈ Wg := t9_in (List.mem_of_getElem? (i := 91) rfl) rfl
theorem wbd_247 : Cond.methodLink RL 286 yL_minutesLeft ∈ Wg := t6_in (List.mem_of_getElem? (i := 59) rfl) rfl
theorem wbd_248 : Cond.static yL_minutesLeft ∈ Wg := t6_in (List.mem_of_getElem? (i := 60) rfl) rfl
theorem wbd_249 : Cond.codeWith yL_minutesLeft cL_minutesLeft 4 (some .int) [(0, 9, 12, 65)] ∈ Wg := t6_in (List.mem_of_getElem? (i := 61) rfl) rfl
theorem wbd_250 : Cond.methodLink RL 288 yX12_minutesLeft ∈ Wg := t9_in (List.mem_of_getElem? (i := 92) rfl) rfl
theorem wbd_251 : Cond.instanceMethod yX12_minutesLeft ∈ Wg := t9_in (List.mem_of_getElem? (i := 93) rfl) rfl
theorem wbd_252 : Cond.selects RX12 yX12_minutesLeft yX12_minutesLeft ∈ Wg := t9_in (List.mem_of_getElem? (i := 94) rfl) rfl
theorem wbd_253 : Cond.code yX12_minutesLeft cX12_minutesLeft 2 (some .int) ∈ Wg := t9_in (List.mem_of_getElem? (i := 95) rfl) rfl
theorem wbd_254 : Cond.methodLink RL 289 yL_loginRefusal ∈ Wg := t6_in (List.mem_of_getElem? (i := 67) rfl) rfl
theorem wbd_255 : Cond.static yL_loginRefusal ∈ Wg := t6_in (List.mem_of_getElem? (i := 68) rfl) rfl
theorem wbd_256 : Cond.codeWith yL_loginRefusal cL_loginRefusal 5 (some .int) [(0, 10, 13, 28), (0, 10, 17, 19)] ∈ Wg := t6_in (List.mem_of_getElem? (i := 69) rfl) rfl
theorem wbd_257 : Cond.methodLink RL 291 yX12_loginRefusal ∈ Wg := t9_in (List.mem_of_getElem? (i := 96) rfl) rfl
theorem wbd_258 : Cond.instanceMethod yX12_loginRefusal ∈ Wg := t9_in (List.mem_of_getElem? (i := 97) rfl) rfl
theorem wbd_259 : Cond.selects RX12 yX12_loginRefusal yX12_loginRefusal ∈ Wg := t9_in (List.mem_of_getElem? (i := 98) rfl) rfl
theorem wbd_260 : Cond.code yX12_loginRefusal cX12_loginRefusal 3 (some .int) ∈ Wg := t9_in (List.mem_of_getElem? (i := 99) rfl) rfl
theorem wbd_261 : Cond.methodLink RL 292 yL_referRefusal ∈ Wg := t6_in (List.mem_of_getElem? (i := 80) rfl) rfl
theorem wbd_262 : Cond.static yL_referRefusal ∈ Wg := t6_in (List.mem_of_getElem? (i := 81) rfl) rfl
theorem wbd_263 : Cond.codeWith yL_referRefusal cL_referRefusal 5 (some .int) [(0, 10, 13, 65), (0, 10, 17, 28)] ∈ Wg := t6_in (List.mem_of_getElem? (i := 82) rfl) rfl
theorem wbd_264 : Cond.methodLink RL 294 yX12_referRefusal ∈ Wg := t9_in (List.mem_of_getElem? (i := 104) rfl) rfl
theorem wbd_265 : Cond.instanceMethod yX12_referRefusal ∈ Wg := t9_in (List.mem_of_getElem? (i := 105) rfl) rfl
theorem wbd_266 : Cond.selects RX12 yX12_referRefusal yX12_referRefusal ∈ Wg := t9_in (List.mem_of_getElem? (i := 106) rfl) rfl
theorem wbd_267 : Cond.code yX12_referRefusal cX12_referRefusal 3 (some .int) ∈ Wg := t9_in (List.mem_of_getElem? (i := 107) rfl) rfl
theorem wbd_268 : Cond.methodLink RL 295 yL_requestRefusal ∈ Wg := t6_in (List.mem_of_getElem? (i := 88) rfl) rfl
theorem wbd_269 : Cond.static yL_requestRefusal ∈ Wg := t6_in (List.mem_of_getElem? (i := 89) rfl) rfl
theorem wbd_270 : Cond.codeWith yL_requestRefusal cL_requestRefusal 5 (some .int) [(0, 10, 13, 65), (0, 10, 17, 28)] ∈ Wg := t6_in (List.mem_of_getElem? (i := 90) rfl) rfl
theorem wbd_271 : Cond.methodLink RL 297 yX12_requestRefusal ∈ Wg := t9_in (List.mem_of_getElem? (i := 108) rfl) rfl
theorem wbd_272 : Cond.instanceMethod yX12_requestRefusal ∈ Wg := t9_in (List.mem_of_getElem? (i := 109) rfl) rfl
theorem wbd_273 : Cond.selects RX12 yX12_requestRefusal yX12_requestRefusal ∈ Wg := t9_in (List.mem_of_getElem? (i := 110) rfl) rfl
theorem wbd_274 : Cond.code yX12_requestRefusal cX12_requestRefusal 3 (some .int) ∈ Wg := t9_in (List.mem_of_getElem? (i := 111) rfl) rfl
theorem wbd_275 : Cond.methodLink RL 298 yL_renewRefusal ∈ Wg := t6_in (List.mem_of_getElem? (i := 96) rfl) rfl
theorem wbd_276 : Cond.static yL_renewRefusal ∈ Wg := t6_in (List.mem_of_getElem? (i := 97) rfl) rfl
theorem wbd_277 : Cond.codeWith yL_renewRefusal cL_renewRefusal 4 (some .int) [(0, 9, 12, 65)] ∈ Wg := t6_in (List.mem_of_getElem? (i := 98) rfl) rfl
theorem wbd_278 : Cond.methodLink RL 300 yX12_renewRefusal ∈ Wg := t9_in (List.mem_of_getElem? (i := 112) rfl) rfl
theorem wbd_279 : Cond.instanceMethod yX12_renewRefusal ∈ Wg := t9_in (List.mem_of_getElem? (i := 113) rfl) rfl
theorem wbd_280 : Cond.selects RX12 yX12_renewRefusal yX12_renewRefusal ∈ Wg := t9_in (List.mem_of_getElem? (i := 114) rfl) rfl
theorem wbd_281 : Cond.code yX12_renewRefusal cX12_renewRefusal 2 (some .int) ∈ Wg := t9_in (List.mem_of_getElem? (i := 115) rfl) rfl
theorem wbd_282 : Cond.methodLink RL 301 yL_cheeseRefusal ∈ Wg := t6_in (List.mem_of_getElem? (i := 104) rfl) rfl
theorem wbd_283 : Cond.static yL_cheeseRefusal ∈ Wg := t6_in (List.mem_of_getElem? (i := 105) rfl) rfl
theorem wbd_284 : Cond.codeWith yL_cheeseRefusal cL_cheeseRefusal 4 (some .int) [(0, 9, 12, 65)] ∈ Wg := t6_in (List.mem_of_getElem? (i := 106) rfl) rfl
theorem wbd_285 : Cond.methodLink RL 303 yX12_cheeseRefusal ∈ Wg := t9_in (List.mem_of_getElem? (i := 116) rfl) rfl
theorem wbd_286 : Cond.instanceMethod yX12_cheeseRefusal ∈ Wg := t9_in (List.mem_of_getElem? (i := 117) rfl) rfl
theorem wbd_287 : Cond.selects RX12 yX12_cheeseRefusal yX12_cheeseRefusal ∈ Wg := t9_in (List.mem_of_getElem? (i := 118) rfl) rfl
theorem wbd_288 : Cond.code yX12_cheeseRefusal cX12_cheeseRefusal 2 (some .int) ∈ Wg := t9_in (List.mem_of_getElem? (i := 119) rfl) rfl
theorem wbd_289 : Cond.methodLink RL 304 yX11_validTickets ∈ Wg := t4_in (List.mem_of_getElem? (i := 80) rfl) rfl
theorem wbd_290 : Cond.instanceMethod yX11_validTickets ∈ Wg := t4_in (List.mem_of_getElem? (i := 81) rfl) rfl
theorem wbd_291 : Cond.selects RX11 yX11_validTickets yX11_validTickets ∈ Wg := t4_in (List.mem_of_getElem? (i := 82) rfl) rfl
theorem wbd_292 : Cond.code yX11_validTickets cX11_validTickets 1 (some .int) ∈ Wg := t4_in (List.mem_of_getElem? (i := 83) rfl) rfl
theorem wbd_293 : Cond.methodLink RL 307 yX12_validTickets ∈ Wg := t9_in (List.mem_of_getElem? (i := 120) rfl) rfl
theorem wbd_294 : Cond.instanceMethod yX12_validTickets ∈ Wg := t9_in (List.mem_of_getElem? (i := 121) rfl) rfl
theorem wbd_295 : Cond.selects RX12 yX12_validTickets yX12_validTickets ∈ Wg := t9_in (List.mem_of_getElem? (i := 122) rfl) rfl
theorem wbd_296 : Cond.code yX12_validTickets cX12_validTickets 1 (some .int) ∈ Wg := t9_in (List.mem_of_getElem? (i := 123) rfl) rfl
theorem wbd_297 : Cond.methodLink RL 308 yL_validAfter ∈ Wg := t6_in (List.mem_of_getElem? (i := 112) rfl) rfl
theorem wbd_298 : Cond.static yL_validAfter ∈ Wg := t6_in (List.mem_of_getElem? (i := 113) rfl) rfl
theorem wbd_299 : Cond.codeWith yL_validAfter cL_validAfter 4 (some .int) [(0, 9, 12, 19)] ∈ Wg := t6_in (List.mem_of_getElem? (i := 114) rfl) rfl
theorem wbd_300 : Cond.methodLink RL 310 yX12_validAfter ∈ Wg := t9_in (List.mem_of_getElem? (i := 124) rfl) rfl
theorem wbd_301 : Cond.instanceMethod yX12_validAfter ∈ Wg := t9_in (List.mem_of_getElem? (i := 125) rfl) rfl
theorem wbd_302 : Cond.selects RX12 yX12_validAfter yX12_validAfter ∈ Wg := t9_in (List.mem_of_getElem? (i := 126) rfl) rfl
theorem wbd_303 : Cond.code yX12_validAfter cX12_validAfter 2 (some .int) ∈ Wg := t9_in (List.mem_of_getElem? (i := 127) rfl) rfl
theorem wbd_304 : Cond.methodLink RL 311 yL_minutesUntilCheese ∈ Wg := t6_in (List.mem_of_getElem? (i := 120) rfl) rfl
theorem wbd_305 : Cond.static yL_minutesUntilCheese ∈ Wg := t6_in (List.mem_of_getElem? (i := 121) rfl) rfl
theorem wbd_306 : Cond.codeWith yL_minutesUntilCheese cL_minutesUntilCheese 4 (some .int) [(0, 9, 12, 65)] ∈ Wg := t6_in (List.mem_of_getElem? (i := 122) rfl) rfl
theorem wbd_307 : Cond.methodLink RL 313 yX12_minutesUntilCheese ∈ Wg := t9_in (List.mem_of_getElem? (i := 128) rfl) rfl
theorem wbd_308 : Cond.instanceMethod yX12_minutesUntilCheese ∈ Wg := t9_in (List.mem_of_getElem? (i := 129) rfl) rfl
theorem wbd_309 : Cond.selects RX12 yX12_minutesUntilCheese yX12_minutesUntilCheese ∈ Wg := t9_in (List.mem_of_getElem? (i := 130) rfl) rfl
theorem wbd_310 : Cond.code yX12_minutesUntilCheese cX12_minutesUntilCheese 3 (some .int) ∈ Wg := t9_in (List.mem_of_getElem? (i := 131) rfl) rfl
theorem wbd_311 : Cond.methodLink RL 314 yL_bestTicket ∈ Wg := t6_in (List.mem_of_getElem? (i := 127) rfl) rfl
theorem wbd_312 : Cond.static yL_bestTicket ∈ Wg := t6_in (List.mem_of_getElem? (i := 128) rfl) rfl
theorem wbd_313 : Cond.codeWith yL_bestTicket cL_bestTicket 5 (some .int) [(0, 10, 13, 28)] ∈ Wg := t6_in (List.mem_of_getElem? (i := 129) rfl) rfl
theorem wbd_314 : Cond.methodLink RL 316 yX12_bestTicket ∈ Wg := t9_in (List.mem_of_getElem? (i := 132) rfl) rfl
theorem wbd_315 : Cond.instanceMethod yX12_bestTicket ∈ Wg := t9_in (List.mem_of_getElem? (i := 133) rfl) rfl
theorem wbd_316 : Cond.selects RX12 yX12_bestTicket yX12_bestTicket ∈ Wg := t9_in (List.mem_of_getElem? (i := 134) rfl) rfl
theorem wbd_317 : Cond.code yX12_bestTicket cX12_bestTicket 7 (some .int) ∈ Wg := t9_in (List.mem_of_getElem? (i := 135) rfl) rfl
theorem wbd_318 : Cond.methodLink RL 317 yX11_useCount ∈ Wg := t4_in (List.mem_of_getElem? (i := 88) rfl) rfl
theorem wbd_319 : Cond.instanceMethod yX11_useCount ∈ Wg := t4_in (List.mem_of_getElem? (i := 89) rfl) rfl
theorem wbd_320 : Cond.selects RX11 yX11_useCount yX11_useCount ∈ Wg := t4_in (List.mem_of_getElem? (i := 90) rfl) rfl
theorem wbd_321 : Cond.code yX11_useCount cX11_useCount 1 (some .int) ∈ Wg := t4_in (List.mem_of_getElem? (i := 91) rfl) rfl
theorem wbd_322 : Cond.methodLink RL 320 yX12_useCount ∈ Wg := t9_in (List.mem_of_getElem? (i := 136) rfl) rfl
theorem wbd_323 : Cond.instanceMethod yX12_useCount ∈ Wg := t9_in (List.mem_of_getElem? (i := 137) rfl) rfl
theorem wbd_324 : Cond.selects RX12 yX12_useCount yX12_useCount ∈ Wg := t9_in (List.mem_of_getElem? (i := 138) rfl) rfl
theorem wbd_325 : Cond.code yX12_useCount cX12_useCount 1 (some .int) ∈ Wg := t9_in (List.mem_of_getElem? (i := 139) rfl) rfl
theorem wbd_326 : Cond.methodLink RL 321 yX11_cheeseDifference ∈ Wg := t4_in (List.mem_of_getElem? (i := 93) rfl) rfl
theorem wbd_327 : Cond.instanceMethod yX11_cheeseDifference ∈ Wg := t4_in (List.mem_of_getElem? (i := 94) rfl) rfl
theorem wbd_328 : Cond.selects RX11 yX11_cheeseDifference yX11_cheeseDifference ∈ Wg := t4_in (List.mem_of_getElem? (i := 95) rfl) rfl
theorem wbd_329 : Cond.code yX11_cheeseDifference cX11_cheeseDifference 1 (some .int) ∈ Wg := t4_in (List.mem_of_getElem? (i := 96) rfl) rfl
theorem wbd_330 : Cond.methodLink RL 324 yX12_cheeseDifference ∈ Wg := t9_in (List.mem_of_getElem? (i := 140) rfl) rfl
theorem wbd_331 : Cond.instanceMethod yX12_cheeseDifference ∈ Wg := t9_in (List.mem_of_getElem? (i := 141) rfl) rfl
theorem wbd_332 : Cond.selects RX12 yX12_cheeseDifference yX12_cheeseDifference ∈ Wg := t9_in (List.mem_of_getElem? (i := 142) rfl) rfl
theorem wbd_333 : Cond.code yX12_cheeseDifference cX12_cheeseDifference 3 (some .int) ∈ Wg := t9_in (List.mem_of_getElem? (i := 143) rfl) rfl
theorem wbd_334 : Cond.methodLink RL 325 yX11_lifeErrors ∈ Wg := t4_in (List.mem_of_getElem? (i := 106) rfl) rfl
theorem wbd_335 : Cond.instanceMethod yX11_lifeErrors ∈ Wg := t4_in (List.mem_of_getElem? (i := 107) rfl) rfl
theorem wbd_336 : Cond.selects RX11 yX11_lifeErrors yX11_lifeErrors ∈ Wg := t4_in (List.mem_of_getElem? (i := 108) rfl) rfl
theorem wbd_337 : Cond.code yX11_lifeErrors cX11_lifeErrors 1 (some .int) ∈ Wg := t4_in (List.mem_of_getElem? (i := 109) rfl) rfl
theorem wbd_338 : Cond.methodLink RL 328 yX12_lifeErrors ∈ Wg := t9_in (List.mem_of_getElem? (i := 144) rfl) rfl
theorem wbd_339 : Cond.instanceMethod yX12_lifeErrors ∈ Wg := t9_in (List.mem_of_getElem? (i := 145) rfl) rfl
theorem wbd_340 : Cond.selects RX12 yX12_lifeErrors yX12_lifeErrors ∈ Wg := t9_in (List.mem_of_getElem? (i := 146) rfl) rfl
theorem wbd_341 : Cond.code yX12_lifeErrors cX12_lifeErrors 4 (some .int) ∈ Wg := t9_in (List.mem_of_getElem? (i := 147) rfl) rfl
theorem wbd_342 : Cond.methodLink RL 329 yX11_distanceErrors ∈ Wg := t4_in (List.mem_of_getElem? (i := 114) rfl) rfl
theorem wbd_343 : Cond.instanceMethod yX11_distanceErrors ∈ Wg := t4_in (List.mem_of_getElem? (i := 115) rfl) rfl
theorem wbd_344 : Cond.selects RX11 yX11_distanceErrors yX11_distanceErrors ∈ Wg := t4_in (List.mem_of_getElem? (i := 116) rfl) rfl
theorem wbd_345 : Cond.code yX11_distanceErrors cX11_distanceErrors 1 (some .int) ∈ Wg := t4_in (List.mem_of_getElem? (i := 117) rfl) rfl
theorem wbd_346 : Cond.methodLink RL 332 yX12_distanceErrors ∈ Wg := t9_in (List.mem_of_getElem? (i := 148) rfl) rfl
theorem wbd_347 : Cond.instanceMethod yX12_distanceErrors ∈ Wg := t9_in (List.mem_of_getElem? (i := 149) rfl) rfl
theorem wbd_348 : Cond.selects RX12 yX12_distanceErrors yX12_distanceErrors ∈ Wg := t9_in (List.mem_of_getElem? (i := 150) rfl) rfl
theorem wbd_349 : Cond.code yX12_distanceErrors cX12_distanceErrors 5 (some .int) ∈ Wg := t9_in (List.mem_of_getElem? (i := 151) rfl) rfl
theorem wbd_350 : Cond.methodLink RL 333 yX11_validShare ∈ Wg := t4_in (List.mem_of_getElem? (i := 169) rfl) rfl
theorem wbd_351 : Cond.instanceMethod yX11_validShare ∈ Wg := t4_in (List.mem_of_getElem? (i := 170) rfl) rfl
theorem wbd_352 : Cond.selects RX11 yX11_validShare yX11_validShare ∈ Wg := t4_in (List.mem_of_getElem? (i := 171) rfl) rfl
theorem wbd_353 : Cond.code yX11_validShare cX11_validShare 2 (some .float) ∈ Wg := t4_in (List.mem_of_getElem? (i := 172) rfl) rfl
theorem wbd_354 : Cond.methodLink RL 337 yX12_validShare ∈ Wg := t9_in (List.mem_of_getElem? (i := 156) rfl) rfl
theorem wbd_355 : Cond.instanceMethod yX12_validShare ∈ Wg := t9_in (List.mem_of_getElem? (i := 157) rfl) rfl
theorem wbd_356 : Cond.selects RX12 yX12_validShare yX12_validShare ∈ Wg := t9_in (List.mem_of_getElem? (i := 158) rfl) rfl
theorem wbd_357 : Cond.code yX12_validShare cX12_validShare 1 (some .float) ∈ Wg := t9_in (List.mem_of_getElem? (i := 159) rfl) rfl
theorem wbd_358 : Cond.methodLink RL 338 yX11_averageLife ∈ Wg := t4_in (List.mem_of_getElem? (i := 174) rfl) rfl
theorem wbd_359 : Cond.instanceMethod yX11_averageLife ∈ Wg := t4_in (List.mem_of_getElem? (i := 175) rfl) rfl
theorem wbd_360 : Cond.selects RX11 yX11_averageLife yX11_averageLife ∈ Wg := t4_in (List.mem_of_getElem? (i := 176) rfl) rfl
theorem wbd_361 : Cond.code yX11_averageLife cX11_averageLife 3 (some .double) ∈ Wg := t4_in (List.mem_of_getElem? (i := 177) rfl) rfl
theorem wbd_362 : Cond.methodLink RL 342 yX12_averageLife ∈ Wg := t9_in (List.mem_of_getElem? (i := 160) rfl) rfl
theorem wbd_363 : Cond.instanceMethod yX12_averageLife ∈ Wg := t9_in (List.mem_of_getElem? (i := 161) rfl) rfl
theorem wbd_364 : Cond.selects RX12 yX12_averageLife yX12_averageLife ∈ Wg := t9_in (List.mem_of_getElem? (i := 162) rfl) rfl
theorem wbd_365 : Cond.code yX12_averageLife cX12_averageLife 3 (some .double) ∈ Wg := t9_in (List.mem_of_getElem? (i := 163) rfl) rfl
theorem wbd_366 : Cond.methodLink RL 343 yL_login ∈ Wg := t6_in (List.mem_of_getElem? (i := 138) rfl) rfl
theorem wbd_367 : Cond.static yL_login ∈ Wg := t6_in (List.mem_of_getElem? (i := 139) rfl) rfl
theorem wbd_368 : Cond.codeWith yL_login cL_login 6 (some .int) [(0, 12, 15, 28), (0, 12, 19, 19), (0, 12, 23, 13)] ∈ Wg := t6_in (List.mem_of_getElem? (i := 140) rfl) rfl
theorem wbd_369 : Cond.methodLink RL 346 yX12_login ∈ Wg := t9_in (List.mem_of_getElem? (i := 164) rfl) rfl
theorem wbd_370 : Cond.instanceMethod yX12_login ∈ Wg := t9_in (List.mem_of_getElem? (i := 165) rfl) rfl
theorem wbd_371 : Cond.selects RX12 yX12_login yX12_login ∈ Wg := t9_in (List.mem_of_getElem? (i := 166) rfl) rfl
theorem wbd_372 : Cond.code yX12_login cX12_login 4 (some .int) ∈ Wg := t9_in (List.mem_of_getElem? (i := 167) rfl) rfl
theorem wbd_373 : Cond.methodLink RL 347 yL_refer ∈ Wg := t6_in (List.mem_of_getElem? (i := 151) rfl) rfl
theorem wbd_374 : Cond.static yL_refer ∈ Wg := t6_in (List.mem_of_getElem? (i := 152) rfl) rfl
theorem wbd_375 : Cond.codeWith yL_refer cL_refer 5 (some .int) [(0, 10, 13, 65), (0, 10, 17, 28), (0, 10, 21, 13)] ∈ Wg := t6_in (List.mem_of_getElem? (i := 153) rfl) rfl
theorem wbd_376 : Cond.methodLink RL 349 yX12_refer ∈ Wg := t9_in (List.mem_of_getElem? (i := 168) rfl) rfl
theorem wbd_377 : Cond.instanceMethod yX12_refer ∈ Wg := t9_in (List.mem_of_getElem? (i := 169) rfl) rfl
theorem wbd_378 : Cond.selects RX12 yX12_refer yX12_refer ∈ Wg := t9_in (List.mem_of_getElem? (i := 170) rfl) rfl
theorem wbd_379 : Cond.code yX12_refer cX12_refer 3 (some .int) ∈ Wg := t9_in (List.mem_of_getElem? (i := 171) rfl) rfl
theorem wbd_380 : Cond.methodLink RL 350 yL_request ∈ Wg := t6_in (List.mem_of_getElem? (i := 159) rfl) rfl
theorem wbd_381 : Cond.static yL_request ∈ Wg := t6_in (List.mem_of_getElem? (i := 160) rfl) rfl
theorem wbd_382 : Cond.codeWith yL_request cL_request 5 (some .int) [(0, 10, 13, 65), (0, 10, 17, 28), (0, 10, 21, 13)] ∈ Wg := t6_in (List.mem_of_getElem? (i := 161) rfl) rfl
theorem wbd_383 : Cond.methodLink RL 352 yX12_request ∈ Wg := t9_in (List.mem_of_getElem? (i := 172) rfl) rfl
theorem wbd_384 : Cond.instanceMethod yX12_request ∈ Wg := t9_in (List.mem_of_getElem? (i := 173) rfl) rfl
theorem wbd_385 : Cond.selects RX12 yX12_request yX12_request ∈ Wg := t9_in (List.mem_of_getElem? (i := 174) rfl) rfl
theorem wbd_386 : Cond.code yX12_request cX12_request 3 (some .int) ∈ Wg := t9_in (List.mem_of_getElem? (i := 175) rfl) rfl
theorem wbd_387 : Cond.methodLink RL 353 yL_renew ∈ Wg := t6_in (List.mem_of_getElem? (i := 167) rfl) rfl
theorem wbd_388 : Cond.static yL_renew ∈ Wg := t6_in (List.mem_of_getElem? (i := 168) rfl) rfl
theorem wbd_389 : Cond.codeWith yL_renew cL_renew 4 (some .int) [(0, 9, 12, 65), (0, 9, 15, 13)] ∈ Wg := t6_in (List.mem_of_getElem? (i := 169) rfl) rfl
theorem wbd_390 : Cond.methodLink RL 355 yX12_renew ∈ Wg := t9_in (List.mem_of_getElem? (i := 176) rfl) rfl
theorem wbd_391 : Cond.instanceMethod yX12_renew ∈ Wg := t9_in (List.mem_of_getElem? (i := 177) rfl) rfl
theorem wbd_392 : Cond.selects RX12 yX12_renew yX12_renew ∈ Wg := t9_in (List.mem_of_getElem? (i := 178) rfl) rfl
theorem wbd_393 : Cond.code yX12_renew cX12_renew 2 (some .int) ∈ Wg := t9_in (List.mem_of_getElem? (i := 179) rfl) rfl
theorem wbd_394 : Cond.methodLink RL 356 yL_cheese ∈ Wg := t6_in (List.mem_of_getElem? (i := 175) rfl) rfl
theorem wbd_395 : Cond.static yL_cheese ∈ Wg := t6_in (List.mem_of_getElem? (i := 176) rfl) rfl
theorem wbd_396 : Cond.codeWith yL_cheese cL_cheese 4 (some .int) [(0, 9, 12, 65), (0, 9, 15, 13)] ∈ Wg := t6_in (List.mem_of_getElem? (i := 177) rfl) rfl
theorem wbd_397 : Cond.methodLink RL 358 yX12_cheese ∈ Wg := t9_in (List.mem_of_getElem? (i := 180) rfl) rfl
theorem wbd_398 : Cond.instanceMethod yX12_cheese ∈ Wg := t9_in (List.mem_of_getElem? (i := 181) rfl) rfl
theorem wbd_399 : Cond.selects RX12 yX12_cheese yX12_cheese ∈ Wg := t9_in (List.mem_of_getElem? (i := 182) rfl) rfl
theorem wbd_400 : Cond.code yX12_cheese cX12_cheese 2 (some .int) ∈ Wg := t9_in (List.mem_of_getElem? (i := 183) rfl) rfl
theorem wbd_401 : Cond.methodLink RL 359 yL_drop ∈ Wg := t6_in (List.mem_of_getElem? (i := 183) rfl) rfl
theorem wbd_402 : Cond.static yL_drop ∈ Wg := t6_in (List.mem_of_getElem? (i := 184) rfl) rfl
theorem wbd_403 : Cond.codeWith yL_drop cL_drop 4 (some .int) [(0, 9, 12, 65)] ∈ Wg := t6_in (List.mem_of_getElem? (i := 185) rfl) rfl
theorem wbd_404 : Cond.methodLink RL 361 yX12_drop ∈ Wg := t9_in (List.mem_of_getElem? (i := 184) rfl) rfl
theorem wbd_405 : Cond.instanceMethod yX12_drop ∈ Wg := t9_in (List.mem_of_getElem? (i := 185) rfl) rfl
theorem wbd_406 : Cond.selects RX12 yX12_drop yX12_drop ∈ Wg := t9_in (List.mem_of_getElem? (i := 186) rfl) rfl
theorem wbd_407 : Cond.code yX12_drop cX12_drop 2 (some .int) ∈ Wg := t9_in (List.mem_of_getElem? (i := 187) rfl) rfl
theorem wbd_408 : Cond.methodLink RL 362 yX11_sweep ∈ Wg := t4_in (List.mem_of_getElem? (i := 181) rfl) rfl
theorem wbd_409 : Cond.instanceMethod yX11_sweep ∈ Wg := t4_in (List.mem_of_getElem? (i := 182) rfl) rfl
theorem wbd_410 : Cond.selects RX11 yX11_sweep yX11_sweep ∈ Wg := t4_in (List.mem_of_getElem? (i := 183) rfl) rfl
theorem wbd_411 : Cond.code yX11_sweep cX11_sweep 1 (some .int) ∈ Wg := t4_in (List.mem_of_getElem? (i := 184) rfl) rfl
theorem wbd_412 : Cond.methodLink RL 365 yX12_sweep ∈ Wg := t9_in (List.mem_of_getElem? (i := 188) rfl) rfl
theorem wbd_413 : Cond.instanceMethod yX12_sweep ∈ Wg := t9_in (List.mem_of_getElem? (i := 189) rfl) rfl
theorem wbd_414 : Cond.selects RX12 yX12_sweep yX12_sweep ∈ Wg := t9_in (List.mem_of_getElem? (i := 190) rfl) rfl
theorem wbd_415 : Cond.code yX12_sweep cX12_sweep 1 (some .int) ∈ Wg := t9_in (List.mem_of_getElem? (i := 191) rfl) rfl
theorem wbd_416 : Cond.methodLink RL 366 yL_setPassword ∈ Wg := t6_in (List.mem_of_getElem? (i := 191) rfl) rfl
theorem wbd_417 : Cond.static yL_setPassword ∈ Wg := t6_in (List.mem_of_getElem? (i := 192) rfl) rfl
theorem wbd_418 : Cond.codeWith yL_setPassword cL_setPassword 5 (some .int) [(0, 10, 13, 28), (0, 10, 17, 19)] ∈ Wg := t6_in (List.mem_of_getElem? (i := 193) rfl) rfl
theorem wbd_419 : Cond.methodLink RL 368 yX12_setPassword ∈ Wg := t9_in (List.mem_of_getElem? (i := 192) rfl) rfl
theorem wbd_420 : Cond.instanceMethod yX12_setPassword ∈ Wg := t9_in (List.mem_of_getElem? (i := 193) rfl) rfl
theorem wbd_421 : Cond.selects RX12 yX12_setPassword yX12_setPassword ∈ Wg := t9_in (List.mem_of_getElem? (i := 194) rfl) rfl
theorem wbd_422 : Cond.code yX12_setPassword cX12_setPassword 3 (some .int) ∈ Wg := t9_in (List.mem_of_getElem? (i := 195) rfl) rfl
theorem wbd_423 : Cond.methodLink RL 369 yL_setClock ∈ Wg := t6_in (List.mem_of_getElem? (i := 199) rfl) rfl
theorem wbd_424 : Cond.static yL_setClock ∈ Wg := t6_in (List.mem_of_getElem? (i := 200) rfl) rfl
theorem wbd_425 : Cond.codeWith yL_setClock cL_setClock 5 (some .int) [(0, 10, 13, 28), (0, 10, 17, 19)] ∈ Wg := t6_in (List.mem_of_getElem? (i := 201) rfl) rfl
theorem wbd_426 : Cond.methodLink RL 371 yX12_setClock ∈ Wg := t9_in (List.mem_of_getElem? (i := 200) rfl) rfl
theorem wbd_427 : Cond.instanceMethod yX12_setClock ∈ Wg := t9_in (List.mem_of_getElem? (i := 201) rfl) rfl
theorem wbd_428 : Cond.selects RX12 yX12_setClock yX12_setClock ∈ Wg := t9_in (List.mem_of_getElem? (i := 202) rfl) rfl
theorem wbd_429 : Cond.code yX12_setClock cX12_setClock 3 (some .int) ∈ Wg := t9_in (List.mem_of_getElem? (i := 203) rfl) rfl
theorem wbd_430 : Cond.methodLink RL 372 yL_pass ∈ Wg := t6_in (List.mem_of_getElem? (i := 207) rfl) rfl
theorem wbd_431 : Cond.static yL_pass ∈ Wg := t6_in (List.mem_of_getElem? (i := 208) rfl) rfl
theorem wbd_432 : Cond.codeWith yL_pass cL_pass 4 (some .int) [(0, 9, 12, 19)] ∈ Wg := t6_in (List.mem_of_getElem? (i := 209) rfl) rfl
theorem wbd_433 : Cond.methodLink RL 374 yX12_pass ∈ Wg := t9_in (List.mem_of_getElem? (i := 204) rfl) rfl
theorem wbd_434 : Cond.instanceMethod yX12_pass ∈ Wg := t9_in (List.mem_of_getElem? (i := 205) rfl) rfl
theorem wbd_435 : Cond.selects RX12 yX12_pass yX12_pass ∈ Wg := t9_in (List.mem_of_getElem? (i := 206) rfl) rfl
theorem wbd_436 : Cond.code yX12_pass cX12_pass 2 (some .int) ∈ Wg := t9_in (List.mem_of_getElem? (i := 207) rfl) rfl
theorem wbd_437 : Cond.methodLink RL 375 yL_writeTicket ∈ Wg := t6_in (List.mem_of_getElem? (i := 215) rfl) rfl
theorem wbd_438 : Cond.static yL_writeTicket ∈ Wg := t6_in (List.mem_of_getElem? (i := 216) rfl) rfl
theorem wbd_439 : Cond.codeWith yL_writeTicket cL_writeTicket 4 (some .int) [(0, 9, 12, 65)] ∈ Wg := t6_in (List.mem_of_getElem? (i := 217) rfl) rfl
theorem wbd_440 : Cond.methodLink RL 377 yX12_writeTicket ∈ Wg := t9_in (List.mem_of_getElem? (i := 208) rfl) rfl
theorem wbd_441 : Cond.instanceMethod yX12_writeTicket ∈ Wg := t9_in (List.mem_of_getElem? (i := 209) rfl) rfl
theorem wbd_442 : Cond.selects RX12 yX12_writeTicket yX12_writeTicket ∈ Wg := t9_in (List.mem_of_getElem? (i := 210) rfl) rfl
theorem wbd_443 : Cond.code yX12_writeTicket cX12_writeTicket 3 (some .int) ∈ Wg := t9_in (List.mem_of_getElem? (i := 211) rfl) rfl
theorem wbd_444 : Cond.methodLink RL 378 yL_outputByte ∈ Wg := t6_in (List.mem_of_getElem? (i := 232) rfl) rfl
theorem wbd_445 : Cond.static yL_outputByte ∈ Wg := t6_in (List.mem_of_getElem? (i := 233) rfl) rfl
theorem wbd_446 : Cond.codeWith yL_outputByte cL_outputByte 4 (some .int) [(0, 9, 12, 65)] ∈ Wg := t6_in (List.mem_of_getElem? (i := 234) rfl) rfl
theorem wbd_447 : Cond.methodLink RL 380 yX12_outputByte ∈ Wg := t9_in (List.mem_of_getElem? (i := 224) rfl) rfl
theorem wbd_448 : Cond.instanceMethod yX12_outputByte ∈ Wg := t9_in (List.mem_of_getElem? (i := 225) rfl) rfl
theorem wbd_449 : Cond.selects RX12 yX12_outputByte yX12_outputByte ∈ Wg := t9_in (List.mem_of_getElem? (i := 226) rfl) rfl
theorem wbd_450 : Cond.code yX12_outputByte cX12_outputByte 2 (some .int) ∈ Wg := t9_in (List.mem_of_getElem? (i := 227) rfl) rfl
theorem wbd_451 : Cond.methodLink RL 381 yL_save ∈ Wg := t7_in (List.mem_of_getElem? (i := 1) rfl) rfl
theorem wbd_452 : Cond.static yL_save ∈ Wg := t7_in (List.mem_of_getElem? (i := 2) rfl) rfl
theorem wbd_453 : Cond.codeWith yL_save cL_save 4 (some .int) [(0, 9, 12, 28)] ∈ Wg := t7_in (List.mem_of_getElem? (i := 3) rfl) rfl
theorem wbd_454 : Cond.methodLink RL 383 yX12_save ∈ Wg := t9_in (List.mem_of_getElem? (i := 228) rfl) rfl
theorem wbd_455 : Cond.instanceMethod yX12_save ∈ Wg := t9_in (List.mem_of_getElem? (i := 229) rfl) rfl
theorem wbd_456 : Cond.selects RX12 yX12_save yX12_save ∈ Wg := t9_in (List.mem_of_getElem? (i := 230) rfl) rfl
theorem wbd_457 : Cond.code yX12_save cX12_save 2 (some .int) ∈ Wg := t9_in (List.mem_of_getElem? (i := 231) rfl) rfl
theorem wbd_458 : Cond.methodLink RL 384 yL_restore ∈ Wg := t7_in (List.mem_of_getElem? (i := 13) rfl) rfl
theorem wbd_459 : Cond.static yL_restore ∈ Wg := t7_in (List.mem_of_getElem? (i := 14) rfl) rfl
theorem wbd_460 : Cond.codeWith yL_restore cL_restore 4 (some .int) [(0, 9, 12, 28), (0, 9, 15, 13)] ∈ Wg := t7_in (List.mem_of_getElem? (i := 15) rfl) rfl
theorem wbd_461 : Cond.methodLink RL 386 yX12_restore ∈ Wg := t9_in (List.mem_of_getElem? (i := 232) rfl) rfl
theorem wbd_462 : Cond.instanceMethod yX12_restore ∈ Wg := t9_in (List.mem_of_getElem? (i := 233) rfl) rfl
theorem wbd_463 : Cond.selects RX12 yX12_restore yX12_restore ∈ Wg := t9_in (List.mem_of_getElem? (i := 234) rfl) rfl
theorem wbd_464 : Cond.code yX12_restore cX12_restore 2 (some .int) ∈ Wg := t9_in (List.mem_of_getElem? (i := 235) rfl) rfl
theorem wbd_465 : Cond.methodLink RL 387 yL_undo ∈ Wg := t7_in (List.mem_of_getElem? (i := 29) rfl) rfl
theorem wbd_466 : Cond.static yL_undo ∈ Wg := t7_in (List.mem_of_getElem? (i := 30) rfl) rfl
theorem wbd_467 : Cond.codeWith yL_undo cL_undo 3 (some .int) [(0, 8, 11, 13)] ∈ Wg := t7_in (List.mem_of_getElem? (i := 31) rfl) rfl
theorem wbd_468 : Cond.methodLink RL 389 yX12_undo ∈ Wg := t8_in (List.mem_of_getElem? (i := 184) rfl) rfl
theorem wbd_469 : Cond.instanceMethod yX12_undo ∈ Wg := t8_in (List.mem_of_getElem? (i := 185) rfl) rfl
theorem wbd_470 : Cond.selects RX12 yX12_undo yX12_undo ∈ Wg := t8_in (List.mem_of_getElem? (i := 186) rfl) rfl
theorem wbd_471 : Cond.code yX12_undo cX12_undo 1 (some .int) ∈ Wg := t8_in (List.mem_of_getElem? (i := 187) rfl) rfl
