theorem wbd_0 : Cond.methodLink RL 169 yL_appendInput ∈ Wg := t4_in (List.mem_of_getElem? (i := 197) rfl) rfl
theorem wbd_1 : Cond.static yL_appendInput ∈ Wg := t4_in (List.mem_of_getElem? (i := 198) rfl) rfl
theorem wbd_2 : Cond.initialized RL ∈ Wg := t1_in (List.mem_of_getElem? (i := 0) rfl) rfl
theorem wbd_3 : Cond.codeWith yL_appendInput cL_appendInput 8 (some .int) [(0, 16, 19, 13)] ∈ Wg := t4_in (List.mem_of_getElem? (i := 199) rfl) rfl
theorem wbd_4 : Cond.methodLink RL 174 yX12_appendInput ∈ Wg := t8_in (List.mem_of_getElem? (i := 148) rfl) rfl
theorem wbd_5 : Cond.instanceMethod yX12_appendInput ∈ Wg := t8_in (List.mem_of_getElem? (i := 149) rfl) rfl
theorem wbd_6 : Cond.selects RX12 yX12_appendInput yX12_appendInput ∈ Wg := t8_in (List.mem_of_getElem? (i := 150) rfl) rfl
theorem wbd_7 : Cond.initialized RX12 ∈ Wg := t1_in (List.mem_of_getElem? (i := 18) rfl) rfl
theorem wbd_8 : Cond.code yX12_appendInput cX12_appendInput 6 (some .int) ∈ Wg := t8_in (List.mem_of_getElem? (i := 151) rfl) rfl
theorem wbd_9 : Cond.methodLink RL 175 yX12_thrown ∈ Wg := t8_in (List.mem_of_getElem? (i := 144) rfl) rfl
theorem wbd_10 : Cond.instanceMethod yX12_thrown ∈ Wg := t8_in (List.mem_of_getElem? (i := 145) rfl) rfl
theorem wbd_11 : Cond.selects RX12 yX12_thrown yX12_thrown ∈ Wg := t8_in (List.mem_of_getElem? (i := 146) rfl) rfl
theorem wbd_12 : Cond.code yX12_thrown cX12_thrown 1 (some .int) ∈ Wg := t8_in (List.mem_of_getElem? (i := 147) rfl) rfl
theorem wbd_13 : Cond.methodLink RL 178 yL_truncateInput ∈ Wg := t5_in (List.mem_of_getElem? (i := 37) rfl) rfl
theorem wbd_14 : Cond.static yL_truncateInput ∈ Wg := t5_in (List.mem_of_getElem? (i := 38) rfl) rfl
theorem wbd_15 : Cond.codeWith yL_truncateInput cL_truncateInput 4 (some .int) [(0, 9, 12, 19)] ∈ Wg := t5_in (List.mem_of_getElem? (i := 39) rfl) rfl
theorem wbd_16 : Cond.methodLink RL 181 yX12_truncateInput ∈ Wg := t8_in (List.mem_of_getElem? (i := 160) rfl) rfl
theorem wbd_17 : Cond.instanceMethod yX12_truncateInput ∈ Wg := t8_in (List.mem_of_getElem? (i := 161) rfl) rfl
theorem wbd_18 : Cond.selects RX12 yX12_truncateInput yX12_truncateInput ∈ Wg := t8_in (List.mem_of_getElem? (i := 162) rfl) rfl
theorem wbd_19 : Cond.code yX12_truncateInput cX12_truncateInput 2 (some .int) ∈ Wg := t8_in (List.mem_of_getElem? (i := 163) rfl) rfl
theorem wbd_20 : Cond.methodLink RL 182 yL_load ∈ Wg := t5_in (List.mem_of_getElem? (i := 61) rfl) rfl
theorem wbd_21 : Cond.static yL_load ∈ Wg := t5_in (List.mem_of_getElem? (i := 62) rfl) rfl
theorem wbd_22 : Cond.codeWith yL_load cL_load 3 (some .int) [(0, 8, 11, 19)] ∈ Wg := t5_in (List.mem_of_getElem? (i := 63) rfl) rfl
theorem wbd_23 : Cond.methodLink RL 185 yX12_load ∈ Wg := t8_in (List.mem_of_getElem? (i := 176) rfl) rfl
theorem wbd_24 : Cond.instanceMethod yX12_load ∈ Wg := t8_in (List.mem_of_getElem? (i := 177) rfl) rfl
theorem wbd_25 : Cond.selects RX12 yX12_load yX12_load ∈ Wg := t8_in (List.mem_of_getElem? (i := 178) rfl) rfl
theorem wbd_26 : Cond.code yX12_load cX12_load 1 (some .int) ∈ Wg := t8_in (List.mem_of_getElem? (i := 179) rfl) rfl
theorem wbd_27 : Cond.methodLink RL 186 yX11_errorCode ∈ Wg := t4_in (List.mem_of_getElem? (i := 28) rfl) rfl
theorem wbd_28 : Cond.instanceMethod yX11_errorCode ∈ Wg := t4_in (List.mem_of_getElem? (i := 29) rfl) rfl
theorem wbd_29 : Cond.selects RX11 yX11_errorCode yX11_errorCode ∈ Wg := t4_in (List.mem_of_getElem? (i := 30) rfl) rfl
theorem wbd_30 : Cond.initialized RX11 ∈ Wg := t1_in (List.mem_of_getElem? (i := 1) rfl) rfl
theorem wbd_31 : Cond.code yX11_errorCode cX11_errorCode 1 (some .int) ∈ Wg := t4_in (List.mem_of_getElem? (i := 31) rfl) rfl
theorem wbd_32 : Cond.methodLink RL 189 yX12_errorCode ∈ Wg := t8_in (List.mem_of_getElem? (i := 168) rfl) rfl
theorem wbd_33 : Cond.instanceMethod yX12_errorCode ∈ Wg := t8_in (List.mem_of_getElem? (i := 169) rfl) rfl
theorem wbd_34 : Cond.selects RX12 yX12_errorCode yX12_errorCode ∈ Wg := t8_in (List.mem_of_getElem? (i := 170) rfl) rfl
theorem wbd_35 : Cond.code yX12_errorCode cX12_errorCode 1 (some .int) ∈ Wg := t8_in (List.mem_of_getElem? (i := 171) rfl) rfl
theorem wbd_36 : Cond.methodLink RL 190 yX11_errorPosition ∈ Wg := t4_in (List.mem_of_getElem? (i := 32) rfl) rfl
theorem wbd_37 : Cond.instanceMethod yX11_errorPosition ∈ Wg := t4_in (List.mem_of_getElem? (i := 33) rfl) rfl
theorem wbd_38 : Cond.selects RX11 yX11_errorPosition yX11_errorPosition ∈ Wg := t4_in (List.mem_of_getElem? (i := 34) rfl) rfl
theorem wbd_39 : Cond.code yX11_errorPosition cX11_errorPosition 1 (some .int) ∈ Wg := t4_in (List.mem_of_getElem? (i := 35) rfl) rfl
theorem wbd_40 : Cond.methodLink RL 193 yX12_errorPosition ∈ Wg := t8_in (List.mem_of_getElem? (i := 172) rfl) rfl
theorem wbd_41 : Cond.instanceMethod yX12_errorPosition ∈ Wg := t8_in (List.mem_of_getElem? (i := 173) rfl) rfl
theorem wbd_42 : Cond.selects RX12 yX12_errorPosition yX12_errorPosition ∈ Wg := t8_in (List.mem_of_getElem? (i := 174) rfl) rfl
theorem wbd_43 : Cond.code yX12_errorPosition cX12_errorPosition 1 (some .int) ∈ Wg := t8_in (List.mem_of_getElem? (i := 175) rfl) rfl
theorem wbd_44 : Cond.methodLink RL 194 yX11_time ∈ Wg := t4_in (List.mem_of_getElem? (i := 36) rfl) rfl
theorem wbd_45 : Cond.instanceMethod yX11_time ∈ Wg := t4_in (List.mem_of_getElem? (i := 37) rfl) rfl
theorem wbd_46 : Cond.selects RX11 yX11_time yX11_time ∈ Wg := t4_in (List.mem_of_getElem? (i := 38) rfl) rfl
theorem wbd_47 : Cond.code yX11_time cX11_time 1 (some .int) ∈ Wg := t4_in (List.mem_of_getElem? (i := 39) rfl) rfl
theorem wbd_48 : Cond.methodLink RL 197 yX12_time ∈ Wg := t8_in (List.mem_of_getElem? (i := 188) rfl) rfl
theorem wbd_49 : Cond.instanceMethod yX12_time ∈ Wg := t8_in (List.mem_of_getElem? (i := 189) rfl) rfl
theorem wbd_50 : Cond.selects RX12 yX12_time yX12_time ∈ Wg := t8_in (List.mem_of_getElem? (i := 190) rfl) rfl
theorem wbd_51 : Cond.code yX12_time cX12_time 1 (some .int) ∈ Wg := t8_in (List.mem_of_getElem? (i := 191) rfl) rfl
theorem wbd_52 : Cond.methodLink RL 198 yX11_seed ∈ Wg := t4_in (List.mem_of_getElem? (i := 40) rfl) rfl
theorem wbd_53 : Cond.instanceMethod yX11_seed ∈ Wg := t4_in (List.mem_of_getElem? (i := 41) rfl) rfl
theorem wbd_54 : Cond.selects RX11 yX11_seed yX11_seed ∈ Wg := t4_in (List.mem_of_getElem? (i := 42) rfl) rfl
theorem wbd_55 : Cond.code yX11_seed cX11_seed 1 (some .int) ∈ Wg := t4_in (List.mem_of_getElem? (i := 43) rfl) rfl
theorem wbd_56 : Cond.methodLink RL 201 yX12_seed ∈ Wg := t8_in (List.mem_of_getElem? (i := 192) rfl) rfl
theorem wbd_57 : Cond.instanceMethod yX12_seed ∈ Wg := t8_in (List.mem_of_getElem? (i := 193) rfl) rfl
theorem wbd_58 : Cond.selects RX12 yX12_seed yX12_seed ∈ Wg := t8_in (List.mem_of_getElem? (i := 194) rfl) rfl
theorem wbd_59 : Cond.code yX12_seed cX12_seed 1 (some .int) ∈ Wg := t8_in (List.mem_of_getElem? (i := 195) rfl) rfl
theorem wbd_60 : Cond.methodLink RL 202 yX11_realmCount ∈ Wg := t4_in (List.mem_of_getElem? (i := 44) rfl) rfl
theorem wbd_61 : Cond.instanceMethod yX11_realmCount ∈ Wg := t4_in (List.mem_of_getElem? (i := 45) rfl) rfl
theorem wbd_62 : Cond.selects RX11 yX11_realmCount yX11_realmCount ∈ Wg := t4_in (List.mem_of_getElem? (i := 46) rfl) rfl
theorem wbd_63 : Cond.code yX11_realmCount cX11_realmCount 1 (some .int) ∈ Wg := t4_in (List.mem_of_getElem? (i := 47) rfl) rfl
theorem wbd_64 : Cond.methodLink RL 205 yX12_realmCount ∈ Wg := t8_in (List.mem_of_getElem? (i := 196) rfl) rfl
theorem wbd_65 : Cond.instanceMethod yX12_realmCount ∈ Wg := t8_in (List.mem_of_getElem? (i := 197) rfl) rfl
theorem wbd_66 : Cond.selects RX12 yX12_realmCount yX12_realmCount ∈ Wg := t8_in (List.mem_of_getElem? (i := 198) rfl) rfl
theorem wbd_67 : Cond.code yX12_realmCount cX12_realmCount 1 (some .int) ∈ Wg := t8_in (List.mem_of_getElem? (i := 199) rfl) rfl
theorem wbd_68 : Cond.methodLink RL 206 yX11_userCount ∈ Wg := t4_in (List.mem_of_getElem? (i := 51) rfl) rfl
theorem wbd_69 : Cond.instanceMethod yX11_userCount ∈ Wg := t4_in (List.mem_of_getElem? (i := 52) rfl) rfl
theorem wbd_70 : Cond.selects RX11 yX11_userCount yX11_userCount ∈ Wg := t4_in (List.mem_of_getElem? (i := 53) rfl) rfl
theorem wbd_71 : Cond.code yX11_userCount cX11_userCount 1 (some .int) ∈ Wg := t4_in (List.mem_of_getElem? (i := 54) rfl) rfl
theorem wbd_72 : Cond.methodLink RL 209 yX12_userCount ∈ Wg := t8_in (List.mem_of_getElem? (i := 200) rfl) rfl
theorem wbd_73 : Cond.instanceMethod yX12_userCount ∈ Wg := t8_in (List.mem_of_getElem? (i := 201) rfl) rfl
theorem wbd_74 : Cond.selects RX12 yX12_userCount yX12_userCount ∈ Wg := t8_in (List.mem_of_getElem? (i := 202) rfl) rfl
theorem wbd_75 : Cond.code yX12_userCount cX12_userCount 1 (some .int) ∈ Wg := t8_in (List.mem_of_getElem? (i := 203) rfl) rfl
theorem wbd_76 : Cond.methodLink RL 210 yX11_serviceCount ∈ Wg := t4_in (List.mem_of_getElem? (i := 58) rfl) rfl
theorem wbd_77 : Cond.instanceMethod yX11_serviceCount ∈ Wg := t4_in (List.mem_of_getElem? (i := 59) rfl) rfl
theorem wbd_78 : Cond.selects RX11 yX11_serviceCount yX11_serviceCount ∈ Wg := t4_in (List.mem_of_getElem? (i := 60) rfl) rfl
theorem wbd_79 : Cond.code yX11_serviceCount cX11_serviceCount 1 (some .int) ∈ Wg := t4_in (List.mem_of_getElem? (i := 61) rfl) rfl
theorem wbd_80 : Cond.methodLink RL 213 yX12_serviceCount ∈ Wg := t8_in (List.mem_of_getElem? (i := 204) rfl) rfl
theorem wbd_81 : Cond.instanceMethod yX12_serviceCount ∈ Wg := t8_in (List.mem_of_getElem? (i := 205) rfl) rfl
theorem wbd_82 : Cond.selects RX12 yX12_serviceCount yX12_serviceCount ∈ Wg := t8_in (List.mem_of_getElem? (i := 206) rfl) rfl
theorem wbd_83 : Cond.code yX12_serviceCount cX12_serviceCount 1 (some .int) ∈ Wg := t8_in (List.mem_of_getElem? (i := 207) rfl) rfl
theorem wbd_84 : Cond.methodLink RL 214 yX11_findName ∈ Wg := t4_in (List.mem_of_getElem? (i := 65) rfl) rfl
theorem wbd_85 : Cond.instanceMethod yX11_findName ∈ Wg := t4_in (List.mem_of_getElem? (i := 66) rfl) rfl
theorem wbd_86 : Cond.selects RX11 yX11_findName yX11_findName ∈ Wg := t4_in (List.mem_of_getElem? (i := 67) rfl) rfl
theorem wbd_87 : Cond.code yX11_findName cX11_findName 1 (some .int) ∈ Wg := t4_in (List.mem_of_getElem? (i := 68) rfl) rfl
theorem wbd_88 : Cond.methodLink RL 217 yX12_findName ∈ Wg := t8_in (List.mem_of_getElem? (i := 208) rfl) rfl
theorem wbd_89 : Cond.instanceMethod yX12_findName ∈ Wg := t8_in (List.mem_of_getElem? (i := 209) rfl) rfl
theorem wbd_90 : Cond.selects RX12 yX12_findName yX12_findName ∈ Wg := t8_in (List.mem_of_getElem? (i := 210) rfl) rfl
theorem wbd_91 : Cond.code yX12_findName cX12_findName 2 (some .int) ∈ Wg := t8_in (List.mem_of_getElem? (i := 211) rfl) rfl
theorem wbd_92 : Cond.methodLink RL 218 yL_lifetimeOf ∈ Wg := t5_in (List.mem_of_getElem? (i := 69) rfl) rfl
theorem wbd_93 : Cond.static yL_lifetimeOf ∈ Wg := t5_in (List.mem_of_getElem? (i := 70) rfl) rfl
theorem wbd_94 : Cond.codeWith yL_lifetimeOf cL_lifetimeOf 4 (some .int) [(0, 9, 12, 28)] ∈ Wg := t5_in (List.mem_of_getElem? (i := 71) rfl) rfl
theorem wbd_95 : Cond.methodLink RL 220 yX12_lifetimeOf ∈ Wg := t8_in (List.mem_of_getElem? (i := 212) rfl) rfl
theorem wbd_96 : Cond.instanceMethod yX12_lifetimeOf ∈ Wg := t8_in (List.mem_of_getElem? (i := 213) rfl) rfl
theorem wbd_97 : Cond.selects RX12 yX12_lifetimeOf yX12_lifetimeOf ∈ Wg := t8_in (List.mem_of_getElem? (i := 214) rfl) rfl
theorem wbd_98 : Cond.code yX12_lifetimeOf cX12_lifetimeOf 2 (some .int) ∈ Wg := t8_in (List.mem_of_getElem? (i := 215) rfl) rfl
theorem wbd_99 : Cond.methodLink RL 221 yL_clockOf ∈ Wg := t5_in (List.mem_of_getElem? (i := 104) rfl) rfl
theorem wbd_100 : Cond.static yL_clockOf ∈ Wg := t5_in (List.mem_of_getElem? (i := 105) rfl) rfl
theorem wbd_101 : Cond.codeWith yL_clockOf cL_clockOf 4 (some .int) [(0, 9, 12, 28)] ∈ Wg := t5_in (List.mem_of_getElem? (i := 106) rfl) rfl
theorem wbd_102 : Cond.methodLink RL 223 yX12_clockOf ∈ Wg := t8_in (List.mem_of_getElem? (i := 220) rfl) rfl
theorem wbd_103 : Cond.instanceMethod yX12_clockOf ∈ Wg := t8_in (List.mem_of_getElem? (i := 221) rfl) rfl
theorem wbd_104 : Cond.selects RX12 yX12_clockOf yX12_clockOf ∈ Wg := t8_in (List.mem_of_getElem? (i := 222) rfl) rfl
theorem wbd_105 : Cond.code yX12_clockOf cX12_clockOf 2 (some .int) ∈ Wg := t8_in (List.mem_of_getElem? (i := 223) rfl) rfl
theorem wbd_106 : Cond.methodLink RL 224 yL_trusts ∈ Wg := t5_in (List.mem_of_getElem? (i := 111) rfl) rfl
theorem wbd_107 : Cond.static yL_trusts ∈ Wg := t5_in (List.mem_of_getElem? (i := 112) rfl) rfl
theorem wbd_108 : Cond.codeWith yL_trusts cL_trusts 5 (some .int) [(0, 17, 20, 28)] ∈ Wg := t5_in (List.mem_of_getElem? (i := 113) rfl) rfl
theorem wbd_109 : Cond.methodLink RL 227 yX12_trusts ∈ Wg := t8_in (List.mem_of_getElem? (i := 224) rfl) rfl
theorem wbd_110 : Cond.instanceMethod yX12_trusts ∈ Wg := t8_in (List.mem_of_getElem? (i := 225) rfl) rfl
theorem wbd_111 : Cond.selects RX12 yX12_trusts yX12_trusts ∈ Wg := t8_in (List.mem_of_getElem? (i := 226) rfl) rfl
theorem wbd_112 : Cond.code yX12_trusts cX12_trusts 3 (some .boolean) ∈ Wg := t8_in (List.mem_of_getElem? (i := 227) rfl) rfl
theorem wbd_113 : Cond.methodLink RL 228 yL_distance ∈ Wg := t5_in (List.mem_of_getElem? (i := 119) rfl) rfl
theorem wbd_114 : Cond.static yL_distance ∈ Wg := t5_in (List.mem_of_getElem? (i := 120) rfl) rfl
theorem wbd_115 : Cond.codeWith yL_distance cL_distance 5 (some .int) [(0, 10, 13, 28)] ∈ Wg := t5_in (List.mem_of_getElem? (i := 121) rfl) rfl
theorem wbd_116 : Cond.methodLink RL 230 yX12_distance ∈ Wg := t8_in (List.mem_of_getElem? (i := 232) rfl) rfl
theorem wbd_117 : Cond.instanceMethod yX12_distance ∈ Wg := t8_in (List.mem_of_getElem? (i := 233) rfl) rfl
theorem wbd_118 : Cond.selects RX12 yX12_distance yX12_distance ∈ Wg := t8_in (List.mem_of_getElem? (i := 234) rfl) rfl
theorem wbd_119 : Cond.code yX12_distance cX12_distance 3 (some .int) ∈ Wg := t8_in (List.mem_of_getElem? (i := 235) rfl) rfl
theorem wbd_120 : Cond.methodLink RL 231 yL_nextRealm ∈ Wg := t5_in (List.mem_of_getElem? (i := 127) rfl) rfl
theorem wbd_121 : Cond.static yL_nextRealm ∈ Wg := t5_in (List.mem_of_getElem? (i := 128) rfl) rfl
theorem wbd_122 : Cond.codeWith yL_nextRealm cL_nextRealm 5 (some .int) [(0, 10, 13, 28)] ∈ Wg := t5_in (List.mem_of_getElem? (i := 129) rfl) rfl
theorem wbd_123 : Cond.methodLink RL 233 yX12_nextRealm ∈ Wg := t9_in (List.mem_of_getElem? (i := 4) rfl) rfl
theorem wbd_124 : Cond.instanceMethod yX12_nextRealm ∈ Wg := t9_in (List.mem_of_getElem? (i := 5) rfl) rfl
theorem wbd_125 : Cond.selects RX12 yX12_nextRealm yX12_nextRealm ∈ Wg := t9_in (List.mem_of_getElem? (i := 6) rfl) rfl
theorem wbd_126 : Cond.code yX12_nextRealm cX12_nextRealm 5 (some .int) ∈ Wg := t9_in (List.mem_of_getElem? (i := 7) rfl) rfl
theorem wbd_127 : Cond.methodLink RL 234 yL_homeOf ∈ Wg := t5_in (List.mem_of_getElem? (i := 139) rfl) rfl
theorem wbd_128 : Cond.static yL_homeOf ∈ Wg := t5_in (List.mem_of_getElem? (i := 140) rfl) rfl
theorem wbd_129 : Cond.codeWith yL_homeOf cL_homeOf 4 (some .int) [(0, 9, 12, 28)] ∈ Wg := t5_in (List.mem_of_getElem? (i := 141) rfl) rfl
theorem wbd_130 : Cond.methodLink RL 236 yX12_homeOf ∈ Wg := t9_in (List.mem_of_getElem? (i := 8) rfl) rfl
theorem wbd_131 : Cond.instanceMethod yX12_homeOf ∈ Wg := t9_in (List.mem_of_getElem? (i := 9) rfl) rfl
theorem wbd_132 : Cond.selects RX12 yX12_homeOf yX12_homeOf ∈ Wg := t9_in (List.mem_of_getElem? (i := 10) rfl) rfl
theorem wbd_133 : Cond.code yX12_homeOf cX12_homeOf 2 (some .int) ∈ Wg := t9_in (List.mem_of_getElem? (i := 11) rfl) rfl
theorem wbd_134 : Cond.methodLink RL 237 yL_cheesesOf ∈ Wg := t5_in (List.mem_of_getElem? (i := 155) rfl) rfl
theorem wbd_135 : Cond.static yL_cheesesOf ∈ Wg := t5_in (List.mem_of_getElem? (i := 156) rfl) rfl
theorem wbd_136 : Cond.codeWith yL_cheesesOf cL_cheesesOf 4 (some .int) [(0, 9, 12, 28)] ∈ Wg := t5_in (List.mem_of_getElem? (i := 157) rfl) rfl
theorem wbd_137 : Cond.methodLink RL 239 yX12_cheesesOf ∈ Wg := t9_in (List.mem_of_getElem? (i := 16) rfl) rfl
theorem wbd_138 : Cond.instanceMethod yX12_cheesesOf ∈ Wg := t9_in (List.mem_of_getElem? (i := 17) rfl) rfl
theorem wbd_139 : Cond.selects RX12 yX12_cheesesOf yX12_cheesesOf ∈ Wg := t9_in (List.mem_of_getElem? (i := 18) rfl) rfl
theorem wbd_140 : Cond.code yX12_cheesesOf cX12_cheesesOf 2 (some .int) ∈ Wg := t9_in (List.mem_of_getElem? (i := 19) rfl) rfl
theorem wbd_141 : Cond.methodLink RL 240 yL_skew ∈ Wg := t5_in (List.mem_of_getElem? (i := 162) rfl) rfl
theorem wbd_142 : Cond.static yL_skew ∈ Wg := t5_in (List.mem_of_getElem? (i := 163) rfl) rfl
theorem wbd_143 : Cond.codeWith yL_skew cL_skew 5 (some .int) [(0, 10, 13, 28)] ∈ Wg := t5_in (List.mem_of_getElem? (i := 164) rfl) rfl
theorem wbd_144 : Cond.methodLink RL 242 yX12_skew ∈ Wg := t9_in (List.mem_of_getElem? (i := 20) rfl) rfl
theorem wbd_145 : Cond.instanceMethod yX12_skew ∈ Wg := t9_in (List.mem_of_getElem? (i := 21) rfl) rfl
theorem wbd_146 : Cond.selects RX12 yX12_skew yX12_skew ∈ Wg := t9_in (List.mem_of_getElem? (i := 22) rfl) rfl
theorem wbd_147 : Cond.code yX12_skew cX12_skew 3 (some .int) ∈ Wg := t9_in (List.mem_of_getElem? (i := 23) rfl) rfl
theorem wbd_148 : Cond.methodLink RL 243 yL_realmOfService ∈ Wg := t5_in (List.mem_of_getElem? (i := 170) rfl) rfl
theorem wbd_149 : Cond.static yL_realmOfService ∈ Wg := t5_in (List.mem_of_getElem? (i := 171) rfl) rfl
theorem wbd_150 : Cond.codeWith yL_realmOfService cL_realmOfService 4 (some .int) [(0, 9, 12, 28)] ∈ Wg := t5_in (List.mem_of_getElem? (i := 172) rfl) rfl
theorem wbd_151 : Cond.methodLink RL 245 yX12_realmOfService ∈ Wg := t9_in (List.mem_of_getElem? (i := 24) rfl) rfl
theorem wbd_152 : Cond.instanceMethod yX12_realmOfService ∈ Wg := t9_in (List.mem_of_getElem? (i := 25) rfl) rfl
theorem wbd_153 : Cond.selects RX12 yX12_realmOfService yX12_realmOfService ∈ Wg := t9_in (List.mem_of_getElem? (i := 26) rfl) rfl
theorem wbd_154 : Cond.code yX12_realmOfService cX12_realmOfService 2 (some .int) ∈ Wg := t9_in (List.mem_of_getElem? (i := 27) rfl) rfl
theorem wbd_155 : Cond.methodLink RL 246 yL_cheesesLeft ∈ Wg := t5_in (List.mem_of_getElem? (i := 186) rfl) rfl
theorem wbd_156 : Cond.static yL_cheesesLeft ∈ Wg := t5_in (List.mem_of_getElem? (i := 187) rfl) rfl
theorem wbd_157 : Cond.codeWith yL_cheesesLeft cL_cheesesLeft 4 (some .int) [(0, 9, 12, 28)] ∈ Wg := t5_in (List.mem_of_getElem? (i := 188) rfl) rfl
theorem wbd_158 : Cond.methodLink RL 248 yX12_cheesesLeft ∈ Wg := t9_in (List.mem_of_getElem? (i := 32) rfl) rfl
theorem wbd_159 : Cond.instanceMethod yX12_cheesesLeft ∈ Wg := t9_in (List.mem_of_getElem? (i := 33) rfl) rfl
theorem wbd_160 : Cond.selects RX12 yX12_cheesesLeft yX12_cheesesLeft ∈ Wg := t9_in (List.mem_of_getElem? (i := 34) rfl) rfl
theorem wbd_161 : Cond.code yX12_cheesesLeft cX12_cheesesLeft 2 (some .int) ∈ Wg := t9_in (List.mem_of_getElem? (i := 35) rfl) rfl
theorem wbd_162 : Cond.methodLink RL 249 yX11_ticketCount ∈ Wg := t4_in (List.mem_of_getElem? (i := 75) rfl) rfl
theorem wbd_163 : Cond.instanceMethod yX11_ticketCount ∈ Wg := t4_in (List.mem_of_getElem? (i := 76) rfl) rfl
theorem wbd_164 : Cond.selects RX11 yX11_ticketCount yX11_ticketCount ∈ Wg := t4_in (List.mem_of_getElem? (i := 77) rfl) rfl
theorem wbd_165 : Cond.code yX11_ticketCount cX11_ticketCount 1 (some .int) ∈ Wg := t4_in (List.mem_of_getElem? (i := 78) rfl) rfl
theorem wbd_166 : Cond.methodLink RL 252 yX12_ticketCount ∈ Wg := t9_in (List.mem_of_getElem? (i := 36) rfl) rfl
theorem wbd_167 : Cond.instanceMethod yX12_ticketCount ∈ Wg := t9_in (List.mem_of_getElem? (i := 37) rfl) rfl
theorem wbd_168 : Cond.selects RX12 yX12_ticketCount yX12_ticketCount ∈ Wg := t9_in (List.mem_of_getElem? (i := 38) rfl) rfl
theorem wbd_169 : Cond.code yX12_ticketCount cX12_ticketCount 1 (some .int) ∈ Wg := t9_in (List.mem_of_getElem? (i := 39) rfl) rfl
theorem wbd_170 : Cond.methodLink RL 253 yL_ticketAt ∈ Wg := t5_in (List.mem_of_getElem? (i := 193) rfl) rfl
theorem wbd_171 : Cond.static yL_ticketAt ∈ Wg := t5_in (List.mem_of_getElem? (i := 194) rfl) rfl
theorem wbd_172 : Cond.codeWith yL_ticketAt cL_ticketAt 4 (some .int) [(0, 9, 12, 28)] ∈ Wg := t5_in (List.mem_of_getElem? (i := 195) rfl) rfl
theorem wbd_173 : Cond.methodLink RL 255 yX12_ticketAt ∈ Wg := t9_in (List.mem_of_getElem? (i := 40) rfl) rfl
theorem wbd_174 : Cond.instanceMethod yX12_ticketAt ∈ Wg := t9_in (List.mem_of_getElem? (i := 41) rfl) rfl
theorem wbd_175 : Cond.selects RX12 yX12_ticketAt yX12_ticketAt ∈ Wg := t9_in (List.mem_of_getElem? (i := 42) rfl) rfl
theorem wbd_176 : Cond.code yX12_ticketAt cX12_ticketAt 2 (some .int) ∈ Wg := t9_in (List.mem_of_getElem? (i := 43) rfl) rfl
theorem wbd_177 : Cond.methodLink RL 256 yL_kindOf ∈ Wg := t5_in (List.mem_of_getElem? (i := 205) rfl) rfl
theorem wbd_178 : Cond.static yL_kindOf ∈ Wg := t5_in (List.mem_of_getElem? (i := 206) rfl) rfl
theorem wbd_179 : Cond.codeWith yL_kindOf cL_kindOf 4 (some .int) [(0, 9, 12, 65)] ∈ Wg := t5_in (List.mem_of_getElem? (i := 207) rfl) rfl
theorem wbd_180 : Cond.methodLink RL 258 yX12_kindOf ∈ Wg := t9_in (List.mem_of_getElem? (i := 44) rfl) rfl
theorem wbd_181 : Cond.instanceMethod yX12_kindOf ∈ Wg := t9_in (List.mem_of_getElem? (i := 45) rfl) rfl
theorem wbd_182 : Cond.selects RX12 yX12_kindOf yX12_kindOf ∈ Wg := t9_in (List.mem_of_getElem? (i := 46) rfl) rfl
theorem wbd_183 : Cond.code yX12_kindOf cX12_kindOf 2 (some .int) ∈ Wg := t9_in (List.mem_of_getElem? (i := 47) rfl) rfl
theorem wbd_184 : Cond.methodLink RL 259 yL_ownerOf ∈ Wg := t5_in (List.mem_of_getElem? (i := 234) rfl) rfl
theorem wbd_185 : Cond.static yL_ownerOf ∈ Wg := t5_in (List.mem_of_getElem? (i := 235) rfl) rfl
theorem wbd_186 : Cond.codeWith yL_ownerOf cL_ownerOf 4 (some .int) [(0, 9, 12, 65)] ∈ Wg := t5_in (List.mem_of_getElem? (i := 236) rfl) rfl
theorem wbd_187 : Cond.methodLink RL 261 yX12_ownerOf ∈ Wg := t9_in (List.mem_of_getElem? (i := 56) rfl) rfl
theorem wbd_188 : Cond.instanceMethod yX12_ownerOf ∈ Wg := t9_in (List.mem_of_getElem? (i := 57) rfl) rfl
theorem wbd_189 : Cond.selects RX12 yX12_ownerOf yX12_ownerOf ∈ Wg := t9_in (List.mem_of_getElem? (i := 58) rfl) rfl
theorem wbd_190 : Cond.code yX12_ownerOf cX12_ownerOf 2 (some .int) ∈ Wg := t9_in (List.mem_of_getElem? (i := 59) rfl) rfl
theorem wbd_191 : Cond.methodLink RL 262 yL_realmOf ∈ Wg := t6_in (List.mem_of_getElem? (i := 1) rfl) rfl
theorem wbd_192 : Cond.static yL_realmOf ∈ Wg := t6_in (List.mem_of_getElem? (i := 2) rfl) rfl
theorem wbd_193 : Cond.codeWith yL_realmOf cL_realmOf 4 (some .int) [(0, 9, 12, 65)] ∈ Wg := t6_in (List.mem_of_getElem? (i := 3) rfl) rfl
theorem wbd_194 : Cond.methodLink RL 264 yX12_realmOf ∈ Wg := t9_in (List.mem_of_getElem? (i := 60) rfl) rfl
theorem wbd_195 : Cond.instanceMethod yX12_realmOf ∈ Wg := t9_in (List.mem_of_getElem? (i := 61) rfl) rfl
theorem wbd_196 : Cond.selects RX12 yX12_realmOf yX12_realmOf ∈ Wg := t9_in (List.mem_of_getElem? (i := 62) rfl) rfl
theorem wbd_197 : Cond.code yX12_realmOf cX12_realmOf 2 (some .int) ∈ Wg := t9_in (List.mem_of_getElem? (i := 63) rfl) rfl
theorem wbd_198 : Cond.methodLink RL 265 yL_serviceOf ∈ Wg := t6_in (List.mem_of_getElem? (i := 8) rfl) rfl
theorem wbd_199 : Cond.static yL_serviceOf ∈ Wg := t6_in (List.mem_of_getElem? (i := 9) rfl) rfl
theorem wbd_200 : Cond.codeWith yL_serviceOf cL_serviceOf 4 (some .int) [(0, 9, 12, 65)] ∈ Wg := t6_in (List.mem_of_getElem? (i := 10) rfl) rfl
theorem wbd_201 : Cond.methodLink RL 267 yX12_serviceOf ∈ Wg := t9_in (List.mem_of_getElem? (i := 64) rfl) rfl
theorem wbd_202 : Cond.instanceMethod yX12_serviceOf ∈ Wg := t9_in (List.mem_of_getElem? (i := 65) rfl) rfl
theorem wbd_203 : Cond.selects RX12 yX12_serviceOf yX12_serviceOf ∈ Wg := t9_in (List.mem_of_getElem? (i := 66) rfl) rfl
theorem wbd_204 : Cond.code yX12_serviceOf cX12_serviceOf 2 (some .int) ∈ Wg := t9_in (List.mem_of_getElem? (i := 67) rfl) rfl
theorem wbd_205 : Cond.methodLink RL 268 yL_startOf ∈ Wg := t6_in (List.mem_of_getElem? (i := 15) rfl) rfl
theorem wbd_206 : Cond.static yL_startOf ∈ Wg := t6_in (List.mem_of_getElem? (i := 16) rfl) rfl
theorem wbd_207 : Cond.codeWith yL_startOf cL_startOf 4 (some .int) [(0, 9, 12, 65)] ∈ Wg := t6_in (List.mem_of_getElem? (i := 17) rfl) rfl
theorem wbd_208 : Cond.methodLink RL 270 yX12_startOf ∈ Wg := t9_in (List.mem_of_getElem? (i := 68) rfl) rfl
theorem wbd_209 : Cond.instanceMethod yX12_startOf ∈ Wg := t9_in (List.mem_of_getElem? (i := 69) rfl) rfl
theorem wbd_210 : Cond.selects RX12 yX12_startOf yX12_startOf ∈ Wg := t9_in (List.mem_of_getElem? (i := 70) rfl) rfl
theorem wbd_211 : Cond.code yX12_startOf cX12_startOf 2 (some .int) ∈ Wg := t9_in (List.mem_of_getElem? (i := 71) rfl) rfl
theorem wbd_212 : Cond.methodLink RL 271 yL_endOf ∈ Wg := t6_in (List.mem_of_getElem? (i := 22) rfl) rfl
theorem wbd_213 : Cond.static yL_endOf ∈ Wg := t6_in (List.mem_of_getElem? (i := 23) rfl) rfl
theorem wbd_214 : Cond.codeWith yL_endOf cL_endOf 4 (some .int) [(0, 9, 12, 65)] ∈ Wg := t6_in (List.mem_of_getElem? (i := 24) rfl) rfl
theorem wbd_215 : Cond.methodLink RL 273 yX12_endOf ∈ Wg := t9_in (List.mem_of_getElem? (i := 72) rfl) rfl
theorem wbd_216 : Cond.instanceMethod yX12_endOf ∈ Wg := t9_in (List.mem_of_getElem? (i := 73) rfl) rfl
theorem wbd_217 : Cond.selects RX12 yX12_endOf yX12_endOf ∈ Wg := t9_in (List.mem_of_getElem? (i := 74) rfl) rfl
theorem wbd_218 : Cond.code yX12_endOf cX12_endOf 2 (some .int) ∈ Wg := t9_in (List.mem_of_getElem? (i := 75) rfl) rfl
theorem wbd_219 : Cond.methodLink RL 274 yL_lastEndOf ∈ Wg := t6_in (List.mem_of_getElem? (i := 29) rfl) rfl
theorem wbd_220 : Cond.static yL_lastEndOf ∈ Wg := t6_in (List.mem_of_getElem? (i := 30) rfl) rfl
theorem wbd_221 : Cond.codeWith yL_lastEndOf cL_lastEndOf 4 (some .int) [(0, 9, 12, 65)] ∈ Wg := t6_in (List.mem_of_getElem? (i := 31) rfl) rfl
theorem wbd_222 : Cond.methodLink RL 276 yX12_lastEndOf ∈ Wg := t9_in (List.mem_of_getElem? (i := 76) rfl) rfl
theorem wbd_223 : Cond.instanceMethod yX12_lastEndOf ∈ Wg := t9_in (List.mem_of_getElem? (i := 77) rfl) rfl
theorem wbd_224 : Cond.selects RX12 yX12_lastEndOf yX12_lastEndOf ∈ Wg := t9_in (List.mem_of_getElem? (i := 78) rfl) rfl
theorem wbd_225 : Cond.code yX12_lastEndOf cX12_lastEndOf 2 (some .int) ∈ Wg := t9_in (List.mem_of_getElem? (i := 79) rfl) rfl
theorem wbd_226 : Cond.methodLink RL 277 yL_keyOf ∈ Wg := t6_in (List.mem_of_getElem? (i := 36) rfl) rfl
theorem wbd_227 : Cond.static yL_keyOf ∈ Wg := t6_in (List.mem_of_getElem? (i := 37) rfl) rfl
theorem wbd_228 : Cond.codeWith yL_keyOf cL_keyOf 4 (some .int) [(0, 9, 12, 65)] ∈ Wg := t6_in (List.mem_of_getElem? (i := 38) rfl) rfl
theorem wbd_229 : Cond.methodLink RL 279 yX12_keyOf ∈ Wg := t9_in (List.mem_of_getElem? (i := 80) rfl) rfl
theorem wbd_230 : Cond.instanceMethod yX12_keyOf ∈ Wg := t9_in (List.mem_of_getElem? (i := 81) rfl) rfl
theorem wbd_231 : Cond.selects RX12 yX12_keyOf yX12_keyOf ∈ Wg := t9_in (List.mem_of_getElem? (i := 82) rfl) rfl
theorem wbd_232 : Cond.code yX12_keyOf cX12_keyOf 2 (some .int) ∈ Wg := t9_in (List.mem_of_getElem? (i := 83) rfl) rfl
theorem wbd_233 : Cond.methodLink RL 280 yL_isRenewable ∈ Wg := t6_in (List.mem_of_getElem? (i := 43) rfl) rfl
theorem wbd_234 : Cond.static yL_isRenewable ∈ Wg := t6_in (List.mem_of_getElem? (i := 44) rfl) rfl
theorem wbd_235 : Cond.codeWith yL_isRenewable cL_isRenewable 4 (some .int) [(0, 16, 19, 65)] ∈ Wg := t6_in (List.mem_of_getElem? (i := 45) rfl) rfl
theorem wbd_236 : Cond.methodLink RL 282 yX12_isRenewable ∈ Wg := t9_in (List.mem_of_getElem? (i := 84) rfl) rfl
theorem wbd_237 : Cond.instanceMethod yX12_isRenewable ∈ Wg := t9_in (List.mem_of_getElem? (i := 85) rfl) rfl
theorem wbd_238 : Cond.selects RX12 yX12_isRenewable yX12_isRenewable ∈ Wg := t9_in (List.mem_of_getElem? (i := 86) rfl) rfl
theorem wbd_239 : Cond.code yX12_isRenewable cX12_isRenewable 2 (some .boolean) ∈ Wg := t9_in (List.mem_of_getElem? (i := 87) rfl) rfl
theorem wbd_240 : Cond.methodLink RL 283 yL_isValid ∈ Wg := t6_in (List.mem_of_getElem? (i := 51) rfl) rfl
theorem wbd_241 : Cond.static yL_isValid ∈ Wg := t6_in (List.mem_of_getElem? (i := 52) rfl) rfl
theorem wbd_242 : Cond.codeWith yL_isValid cL_isValid 4 (some .int) [(0, 16, 19, 65)] ∈ Wg := t6_in (List.mem_of_getElem? (i := 53) rfl) rfl
theorem wbd_243 : Cond.methodLink RL 285 yX12_isValid ∈ Wg := t9_in (List.mem_of_getElem? (i := 88) rfl) rfl
theorem wbd_244 : Cond.instanceMethod yX12_isValid ∈ Wg := t9_in (List.mem_of_getElem? (i := 89) rfl) rfl
theorem wbd_245 : Cond.selects RX12 yX12_isValid yX12_isValid ∈ Wg := t9_in (List.mem_of_getElem? (i := 90) rfl) rfl
theorem wbd_246 : Cond.code yX12_isValid cX12_isValid 2 (some .boolean) ∈ Wg := t9_in (List.mem_of_getElem? (i := 91) rfl) rfl
theorem wbd_247 : Cond.methodLink RL 286 yL_minutesLeft ∈ Wg := t6_in (List.mem_of_getElem? (i := 59) rfl) rfl
theorem wbd_248 : Cond.static yL_minutesLeft ∈ Wg := t6_in (List.mem_of_getElem? (i := 60) rfl) rfl
theorem wbd_249 : Cond.codeWith yL_minutesLeft cL_minutesLeft 4 (some .int) [(0, 9, 12, 65)] ∈ Wg := t6_in (List.mem_of_getElem? (i := 61) rfl) rfl
theorem wbd_250 : Cond.methodLink RL 288 yX12_minutesLeft ∈ Wg := t9_in (List.mem_of_getElem? (i := 92) rfl) rfl
theorem wbd_251 : Cond.instanceMethod yX12_minutesLeft ∈ Wg := t9_in (List.mem_of_getElem? (i := 93) rfl) rfl
theorem wbd_252 : Cond.selects RX12 yX12_minutesLeft yX12_minutesLeft ∈ Wg := t9_in (List.mem_of_getElem? (i := 94) rfl) rfl
theorem wbd_253 : Cond.code yX12_minutesLeft cX12_minutesLeft 2 (some .int) ∈ Wg := t9_in (List.mem_of_getElem? (i := 95) rfl) rfl
theorem wbd_254 : Cond.methodLink RL 289 yL_loginRefusal ∈ Wg := t6_in (List.mem_of_getElem? (i := 67) rfl) rfl
theorem wbd_255 : Cond.static yL_loginRefusal ∈ Wg := t6_in (List.mem_of_getElem? (i := 68) rfl) rfl
theorem wbd_256 : Cond.codeWith yL_loginRefusal cL_loginRefusal 5 (some .int) [(0, 10, 13, 28), (0, 10, 17, 19)] ∈ Wg := t6_in (List.mem_of_getElem? (i := 69) rfl) rfl
theorem wbd_257 : Cond.methodLink RL 291 yX12_loginRefusal ∈ Wg := t9_in (List.mem_of_getElem? (i := 96) rfl) rfl
theorem wbd_258 : Cond.instanceMethod yX12_loginRefusal ∈ Wg := t9_in (List.mem_of_getElem? (i := 97) rfl) rfl
theorem wbd_259 : Cond.selects RX12 yX12_loginRefusal yX12_loginRefusal ∈ Wg := t9_in (List.mem_of_getElem? (i := 98) rfl) rfl
theorem wbd_260 : Cond.code yX12_loginRefusal cX12_loginRefusal 3 (some .int) ∈ Wg := t9_in (List.mem_of_getElem? (i := 99) rfl) rfl
theorem wbd_261 : Cond.methodLink RL 292 yL_referRefusal ∈ Wg := t6_in (List.mem_of_getElem? (i := 80) rfl) rfl
theorem wbd_262 : Cond.static yL_referRefusal ∈ Wg := t6_in (List.mem_of_getElem? (i := 81) rfl) rfl
theorem wbd_263 : Cond.codeWith yL_referRefusal cL_referRefusal 5 (some .int) [(0, 10, 13, 65), (0, 10, 17, 28)] ∈ Wg := t6_in (List.mem_of_getElem? (i := 82) rfl) rfl
theorem wbd_264 : Cond.methodLink RL 294 yX12_referRefusal ∈ Wg := t9_in (List.mem_of_getElem? (i := 104) rfl) rfl
theorem wbd_265 : Cond.instanceMethod yX12_referRefusal ∈ Wg := t9_in (List.mem_of_getElem? (i := 105) rfl) rfl
theorem wbd_266 : Cond.selects RX12 yX12_referRefusal yX12_referRefusal ∈ Wg := t9_in (List.mem_of_getElem? (i := 106) rfl) rfl
theorem wbd_267 : Cond.code yX12_referRefusal cX12_referRefusal 3 (some .int) ∈ Wg := t9_in (List.mem_of_getElem? (i := 107) rfl) rfl
theorem wbd_268 : Cond.methodLink RL 295 yL_requestRefusal ∈ Wg := t6_in (List.mem_of_getElem? (i := 88) rfl) rfl
theorem wbd_269 : Cond.static yL_requestRefusal ∈ Wg := t6_in (List.mem_of_getElem? (i := 89) rfl) rfl
theorem wbd_270 : Cond.codeWith yL_requestRefusal cL_requestRefusal 5 (some .int) [(0, 10, 13, 65), (0, 10, 17, 28)] ∈ Wg := t6_in (List.mem_of_getElem? (i := 90) rfl) rfl
theorem wbd_271 : Cond.methodLink RL 297 yX12_requestRefusal ∈ Wg := t9_in (List.mem_of_getElem? (i := 108) rfl) rfl
theorem wbd_272 : Cond.instanceMethod yX12_requestRefusal ∈ Wg := t9_in (List.mem_of_getElem? (i := 109) rfl) rfl
theorem wbd_273 : Cond.selects RX12 yX12_requestRefusal yX12_requestRefusal ∈ Wg := t9_in (List.mem_of_getElem? (i := 110) rfl) rfl
theorem wbd_274 : Cond.code yX12_requestRefusal cX12_requestRefusal 3 (some .int) ∈ Wg := t9_in (List.mem_of_getElem? (i := 111) rfl) rfl
theorem wbd_275 : Cond.methodLink RL 298 yL_renewRefusal ∈ Wg := t6_in (List.mem_of_getElem? (i := 96) rfl) rfl
theorem wbd_276 : Cond.static yL_renewRefusal ∈ Wg := t6_in (List.mem_of_getElem? (i := 97) rfl) rfl
theorem wbd_277 : Cond.codeWith yL_renewRefusal cL_renewRefusal 4 (some .int) [(0, 9, 12, 65)] ∈ Wg := t6_in (List.mem_of_getElem? (i := 98) rfl) rfl
theorem wbd_278 : Cond.methodLink RL 300 yX12_renewRefusal ∈ Wg := t9_in (List.mem_of_getElem? (i := 112) rfl) rfl
theorem wbd_279 : Cond.instanceMethod yX12_renewRefusal ∈ Wg := t9_in (List.mem_of_getElem? (i := 113) rfl) rfl
theorem wbd_280 : Cond.selects RX12 yX12_renewRefusal yX12_renewRefusal ∈ Wg := t9_in (List.mem_of_getElem? (i := 114) rfl) rfl
theorem wbd_281 : Cond.code yX12_renewRefusal cX12_renewRefusal 2 (some .int) ∈ Wg := t9_in (List.mem_of_getElem? (i := 115) rfl) rfl
theorem wbd_282 : Cond.methodLink RL 301 yL_cheeseRefusal ∈ Wg := t6_in (List.mem_of_getElem? (i := 104) rfl) rfl
theorem wbd_283 : Cond.static yL_cheeseRefusal ∈ Wg := t6_in (List.mem_of_getElem? (i := 105) rfl) rfl
theorem wbd_284 : Cond.codeWith yL_cheeseRefusal cL_cheeseRefusal 4 (some .int) [(0, 9, 12, 65)] ∈ Wg := t6_in (List.mem_of_getElem? (i := 106) rfl) rfl
theorem wbd_285 : Cond.methodLink RL 303 yX12_cheeseRefusal ∈ Wg := t9_in (List.mem_of_getElem? (i := 116) rfl) rfl
theorem wbd_286 : Cond.instanceMethod yX12_cheeseRefusal ∈ Wg := t9_in (List.mem_of_getElem? (i := 117) rfl) rfl
theorem wbd_287 : Cond.selects RX12 yX12_cheeseRefusal yX12_cheeseRefusal ∈ Wg := t9_in (List.mem_of_getElem? (i := 118) rfl) rfl
theorem wbd_288 : Cond.code yX12_cheeseRefusal cX12_cheeseRefusal 2 (some .int) ∈ Wg := t9_in (List.mem_of_getElem? (i := 119) rfl) rfl
theorem wbd_289 : Cond.methodLink RL 304 yX11_validTickets ∈ Wg := t4_in (List.mem_of_getElem? (i := 80) rfl) rfl
theorem wbd_290 : Cond.instanceMethod yX11_validTickets ∈ Wg := t4_in (List.mem_of_getElem? (i := 81) rfl) rfl
theorem wbd_291 : Cond.selects RX11 yX11_validTickets yX11_validTickets ∈ Wg := t4_in (List.mem_of_getElem? (i := 82) rfl) rfl
theorem wbd_292 : Cond.code yX11_validTickets cX11_validTickets 1 (some .int) ∈ Wg := t4_in (List.mem_of_getElem? (i := 83) rfl) rfl
theorem wbd_293 : Cond.methodLink RL 307 yX12_validTickets ∈ Wg := t9_in (List.mem_of_getElem? (i := 120) rfl) rfl
theorem wbd_294 : Cond.instanceMethod yX12_validTickets ∈ Wg := t9_in (List.mem_of_getElem? (i := 121) rfl) rfl
theorem wbd_295 : Cond.selects RX12 yX12_validTickets yX12_validTickets ∈ Wg := t9_in (List.mem_of_getElem? (i := 122) rfl) rfl
theorem wbd_296 : Cond.code yX12_validTickets cX12_validTickets 1 (some .int) ∈ Wg := t9_in (List.mem_of_getElem? (i := 123) rfl) rfl
theorem wbd_297 : Cond.methodLink RL 308 yL_validAfter ∈ Wg := t6_in (List.mem_of_getElem? (i := 112) rfl) rfl
theorem wbd_298 : Cond.static yL_validAfter ∈ Wg := t6_in (List.mem_of_getElem? (i := 113) rfl) rfl
theorem wbd_299 : Cond.codeWith yL_validAfter cL_validAfter 4 (some .int) [(0, 9, 12, 19)] ∈ Wg := t6_in (List.mem_of_getElem? (i := 114) rfl) rfl
theorem wbd_300 : Cond.methodLink RL 310 yX12_validAfter ∈ Wg := t9_in (List.mem_of_getElem? (i := 124) rfl) rfl
theorem wbd_301 : Cond.instanceMethod yX12_validAfter ∈ Wg := t9_in (List.mem_of_getElem? (i := 125) rfl) rfl
theorem wbd_302 : Cond.selects RX12 yX12_validAfter yX12_validAfter ∈ Wg := t9_in (List.mem_of_getElem? (i := 126) rfl) rfl
theorem wbd_303 : Cond.code yX12_validAfter cX12_validAfter 2 (some .int) ∈ Wg := t9_in (List.mem_of_getElem? (i := 127) rfl) rfl
theorem wbd_304 : Cond.methodLink RL 311 yL_minutesUntilCheese ∈ Wg := t6_in (List.mem_of_getElem? (i := 120) rfl) rfl
theorem wbd_305 : Cond.static yL_minutesUntilCheese ∈ Wg := t6_in (List.mem_of_getElem? (i := 121) rfl) rfl
theorem wbd_306 : Cond.codeWith yL_minutesUntilCheese cL_minutesUntilCheese 4 (some .int) [(0, 9, 12, 65)] ∈ Wg := t6_in (List.mem_of_getElem? (i := 122) rfl) rfl
theorem wbd_307 : Cond.methodLink RL 313 yX12_minutesUntilCheese ∈ Wg := t9_in (List.mem_of_getElem? (i := 128) rfl) rfl
theorem wbd_308 : Cond.instanceMethod yX12_minutesUntilCheese ∈ Wg := t9_in (List.mem_of_getElem? (i := 129) rfl) rfl
theorem wbd_309 : Cond.selects RX12 yX12_minutesUntilCheese yX12_minutesUntilCheese ∈ Wg := t9_in (List.mem_of_getElem? (i := 130) rfl) rfl
theorem wbd_310 : Cond.code yX12_minutesUntilCheese cX12_minutesUntilCheese 3 (some .int) ∈ Wg := t9_in (List.mem_of_getElem? (i := 131) rfl) rfl
theorem wbd_311 : Cond.methodLink RL 314 yL_bestTicket ∈ Wg := t6_in (List.mem_of_getElem? (i := 127) rfl) rfl
theorem wbd_312 : Cond.static yL_bestTicket ∈ Wg := t6_in (List.mem_of_getElem? (i := 128) rfl) rfl
theorem wbd_313 : Cond.codeWith yL_bestTicket cL_bestTicket 5 (some .int) [(0, 10, 13, 28)] ∈ Wg := t6_in (List.mem_of_getElem? (i := 129) rfl) rfl
theorem wbd_314 : Cond.methodLink RL 316 yX12_bestTicket ∈ Wg := t9_in (List.mem_of_getElem? (i := 132) rfl) rfl
theorem wbd_315 : Cond.instanceMethod yX12_bestTicket ∈ Wg := t9_in (List.mem_of_getElem? (i := 133) rfl) rfl
theorem wbd_316 : Cond.selects RX12 yX12_bestTicket yX12_bestTicket ∈ Wg := t9_in (List.mem_of_getElem? (i := 134) rfl) rfl
theorem wbd_317 : Cond.code yX12_bestTicket cX12_bestTicket 7 (some .int) ∈ Wg := t9_in (List.mem_of_getElem? (i := 135) rfl) rfl
theorem wbd_318 : Cond.methodLink RL 317 yX11_useCount ∈ Wg := t4_in (List.mem_of_getElem? (i := 88) rfl) rfl
theorem wbd_319 : Cond.instanceMethod yX11_useCount ∈ Wg := t4_in (List.mem_of_getElem? (i := 89) rfl) rfl
theorem wbd_320 : Cond.selects RX11 yX11_useCount yX11_useCount ∈ Wg := t4_in (List.mem_of_getElem? (i := 90) rfl) rfl
theorem wbd_321 : Cond.code yX11_useCount cX11_useCount 1 (some .int) ∈ Wg := t4_in (List.mem_of_getElem? (i := 91) rfl) rfl
theorem wbd_322 : Cond.methodLink RL 320 yX12_useCount ∈ Wg := t9_in (List.mem_of_getElem? (i := 136) rfl) rfl
theorem wbd_323 : Cond.instanceMethod yX12_useCount ∈ Wg := t9_in (List.mem_of_getElem? (i := 137) rfl) rfl
theorem wbd_324 : Cond.selects RX12 yX12_useCount yX12_useCount ∈ Wg := t9_in (List.mem_of_getElem? (i := 138) rfl) rfl
theorem wbd_325 : Cond.code yX12_useCount cX12_useCount 1 (some .int) ∈ Wg := t9_in (List.mem_of_getElem? (i := 139) rfl) rfl
theorem wbd_326 : Cond.methodLink RL 321 yX11_cheeseDifference ∈ Wg := t4_in (List.mem_of_getElem? (i := 93) rfl) rfl
theorem wbd_327 : Cond.instanceMethod yX11_cheeseDifference ∈ Wg := t4_in (List.mem_of_getElem? (i := 94) rfl) rfl
theorem wbd_328 : Cond.selects RX11 yX11_cheeseDifference yX11_cheeseDifference ∈ Wg := t4_in (List.mem_of_getElem? (i := 95) rfl) rfl
theorem wbd_329 : Cond.code yX11_cheeseDifference cX11_cheeseDifference 1 (some .int) ∈ Wg := t4_in (List.mem_of_getElem? (i := 96) rfl) rfl
theorem wbd_330 : Cond.methodLink RL 324 yX12_cheeseDifference ∈ Wg := t9_in (List.mem_of_getElem? (i := 140) rfl) rfl
theorem wbd_331 : Cond.instanceMethod yX12_cheeseDifference ∈ Wg := t9_in (List.mem_of_getElem? (i := 141) rfl) rfl
theorem wbd_332 : Cond.selects RX12 yX12_cheeseDifference yX12_cheeseDifference ∈ Wg := t9_in (List.mem_of_getElem? (i := 142) rfl) rfl
theorem wbd_333 : Cond.code yX12_cheeseDifference cX12_cheeseDifference 3 (some .int) ∈ Wg := t9_in (List.mem_of_getElem? (i := 143) rfl) rfl
theorem wbd_334 : Cond.methodLink RL 325 yX11_lifeErrors ∈ Wg := t4_in (List.mem_of_getElem? (i := 106) rfl) rfl
theorem wbd_335 : Cond.instanceMethod yX11_lifeErrors ∈ Wg := t4_in (List.mem_of_getElem? (i := 107) rfl) rfl
theorem wbd_336 : Cond.selects RX11 yX11_lifeErrors yX11_lifeErrors ∈ Wg := t4_in (List.mem_of_getElem? (i := 108) rfl) rfl
theorem wbd_337 : Cond.code yX11_lifeErrors cX11_lifeErrors 1 (some .int) ∈ Wg := t4_in (List.mem_of_getElem? (i := 109) rfl) rfl
theorem wbd_338 : Cond.methodLink RL 328 yX12_lifeErrors ∈ Wg := t9_in (List.mem_of_getElem? (i := 144) rfl) rfl
theorem wbd_339 : Cond.instanceMethod yX12_lifeErrors ∈ Wg := t9_in (List.mem_of_getElem? (i := 145) rfl) rfl
theorem wbd_340 : Cond.selects RX12 yX12_lifeErrors yX12_lifeErrors ∈ Wg := t9_in (List.mem_of_getElem? (i := 146) rfl) rfl
theorem wbd_341 : Cond.code yX12_lifeErrors cX12_lifeErrors 4 (some .int) ∈ Wg := t9_in (List.mem_of_getElem? (i := 147) rfl) rfl
theorem wbd_342 : Cond.methodLink RL 329 yX11_distanceErrors ∈ Wg := t4_in (List.mem_of_getElem? (i := 114) rfl) rfl
theorem wbd_343 : Cond.instanceMethod yX11_distanceErrors ∈ Wg := t4_in (List.mem_of_getElem? (i := 115) rfl) rfl
theorem wbd_344 : Cond.selects RX11 yX11_distanceErrors yX11_distanceErrors ∈ Wg := t4_in (List.mem_of_getElem? (i := 116) rfl) rfl
theorem wbd_345 : Cond.code yX11_distanceErrors cX11_distanceErrors 1 (some .int) ∈ Wg := t4_in (List.mem_of_getElem? (i := 117) rfl) rfl
theorem wbd_346 : Cond.methodLink RL 332 yX12_distanceErrors ∈ Wg := t9_in (List.mem_of_getElem? (i := 148) rfl) rfl
theorem wbd_347 : Cond.instanceMethod yX12_distanceErrors ∈ Wg := t9_in (List.mem_of_getElem? (i := 149) rfl) rfl
theorem wbd_348 : Cond.selects RX12 yX12_distanceErrors yX12_distanceErrors ∈ Wg := t9_in (List.mem_of_getElem? (i := 150) rfl) rfl
theorem wbd_349 : Cond.code yX12_distanceErrors cX12_distanceErrors 5 (some .int) ∈ Wg := t9_in (List.mem_of_getElem? (i := 151) rfl) rfl
theorem wbd_350 : Cond.methodLink RL 333 yX11_validShare ∈ Wg := t4_in (List.mem_of_getElem? (i := 169) rfl) rfl
theorem wbd_351 : Cond.instanceMethod yX11_validShare ∈ Wg := t4_in (List.mem_of_getElem? (i := 170) rfl) rfl
theorem wbd_352 : Cond.selects RX11 yX11_validShare yX11_validShare ∈ Wg := t4_in (List.mem_of_getElem? (i := 171) rfl) rfl
theorem wbd_353 : Cond.code yX11_validShare cX11_validShare 2 (some .float) ∈ Wg := t4_in (List.mem_of_getElem? (i := 172) rfl) rfl
theorem wbd_354 : Cond.methodLink RL 337 yX12_validShare ∈ Wg := t9_in (List.mem_of_getElem? (i := 156) rfl) rfl
theorem wbd_355 : Cond.instanceMethod yX12_validShare ∈ Wg := t9_in (List.mem_of_getElem? (i := 157) rfl) rfl
theorem wbd_356 : Cond.selects RX12 yX12_validShare yX12_validShare ∈ Wg := t9_in (List.mem_of_getElem? (i := 158) rfl) rfl
theorem wbd_357 : Cond.code yX12_validShare cX12_validShare 1 (some .float) ∈ Wg := t9_in (List.mem_of_getElem? (i := 159) rfl) rfl
theorem wbd_358 : Cond.methodLink RL 338 yX11_averageLife ∈ Wg := t4_in (List.mem_of_getElem? (i := 174) rfl) rfl
theorem wbd_359 : Cond.instanceMethod yX11_averageLife ∈ Wg := t4_in (List.mem_of_getElem? (i := 175) rfl) rfl
theorem wbd_360 : Cond.selects RX11 yX11_averageLife yX11_averageLife ∈ Wg := t4_in (List.mem_of_getElem? (i := 176) rfl) rfl
theorem wbd_361 : Cond.code yX11_averageLife cX11_averageLife 3 (some .double) ∈ Wg := t4_in (List.mem_of_getElem? (i := 177) rfl) rfl
theorem wbd_362 : Cond.methodLink RL 342 yX12_averageLife ∈ Wg := t9_in (List.mem_of_getElem? (i := 160) rfl) rfl
theorem wbd_363 : Cond.instanceMethod yX12_averageLife ∈ Wg := t9_in (List.mem_of_getElem? (i := 161) rfl) rfl
theorem wbd_364 : Cond.selects RX12 yX12_averageLife yX12_averageLife ∈ Wg := t9_in (List.mem_of_getElem? (i := 162) rfl) rfl
theorem wbd_365 : Cond.code yX12_averageLife cX12_averageLife 3 (some .double) ∈ Wg := t9_in (List.mem_of_getElem? (i := 163) rfl) rfl
theorem wbd_366 : Cond.methodLink RL 343 yL_login ∈ Wg := t6_in (List.mem_of_getElem? (i := 138) rfl) rfl
theorem wbd_367 : Cond.static yL_login ∈ Wg := t6_in (List.mem_of_getElem? (i := 139) rfl) rfl
theorem wbd_368 : Cond.codeWith yL_login cL_login 6 (some .int) [(0, 12, 15, 28), (0, 12, 19, 19), (0, 12, 23, 13)] ∈ Wg := t6_in (List.mem_of_getElem? (i := 140) rfl) rfl
theorem wbd_369 : Cond.methodLink RL 346 yX12_login ∈ Wg := t9_in (List.mem_of_getElem? (i := 164) rfl) rfl
theorem wbd_370 : Cond.instanceMethod yX12_login ∈ Wg := t9_in (List.mem_of_getElem? (i := 165) rfl) rfl
theorem wbd_371 : Cond.selects RX12 yX12_login yX12_login ∈ Wg := t9_in (List.mem_of_getElem? (i := 166) rfl) rfl
theorem wbd_372 : Cond.code yX12_login cX12_login 4 (some .int) ∈ Wg := t9_in (List.mem_of_getElem? (i := 167) rfl) rfl
theorem wbd_373 : Cond.methodLink RL 347 yL_refer ∈ Wg := t6_in (List.mem_of_getElem? (i := 151) rfl) rfl
theorem wbd_374 : Cond.static yL_refer ∈ Wg := t6_in (List.mem_of_getElem? (i := 152) rfl) rfl
theorem wbd_375 : Cond.codeWith yL_refer cL_refer 5 (some .int) [(0, 10, 13, 65), (0, 10, 17, 28), (0, 10, 21, 13)] ∈ Wg := t6_in (List.mem_of_getElem? (i := 153) rfl) rfl
theorem wbd_376 : Cond.methodLink RL 349 yX12_refer ∈ Wg := t9_in (List.mem_of_getElem? (i := 168) rfl) rfl
theorem wbd_377 : Cond.instanceMethod yX12_refer ∈ Wg := t9_in (List.mem_of_getElem? (i := 169) rfl) rfl
theorem wbd_378 : Cond.selects RX12 yX12_refer yX12_refer ∈ Wg := t9_in (List.mem_of_getElem? (i := 170) rfl) rfl
theorem wbd_379 : Cond.code yX12_refer cX12_refer 3 (some .int) ∈ Wg := t9_in (List.mem_of_getElem? (i := 171) rfl) rfl
theorem wbd_380 : Cond.methodLink RL 350 yL_request ∈ Wg := t6_in (List.mem_of_getElem? (i := 159) rfl) rfl
theorem wbd_381 : Cond.static yL_request ∈ Wg := t6_in (List.mem_of_getElem? (i := 160) rfl) rfl
theorem wbd_382 : Cond.codeWith yL_request cL_request 5 (some .int) [(0, 10, 13, 65), (0, 10, 17, 28), (0, 10, 21, 13)] ∈ Wg := t6_in (List.mem_of_getElem? (i := 161) rfl) rfl
theorem wbd_383 : Cond.methodLink RL 352 yX12_request ∈ Wg := t9_in (List.mem_of_getElem? (i := 172) rfl) rfl
theorem wbd_384 : Cond.instanceMethod yX12_request ∈ Wg := t9_in (List.mem_of_getElem? (i := 173) rfl) rfl
theorem wbd_385 : Cond.selects RX12 yX12_request yX12_request ∈ Wg := t9_in (List.mem_of_getElem? (i := 174) rfl) rfl
theorem wbd_386 : Cond.code yX12_request cX12_request 3 (some .int) ∈ Wg := t9_in (List.mem_of_getElem? (i := 175) rfl) rfl
theorem wbd_387 : Cond.methodLink RL 353 yL_renew ∈ Wg := t6_in (List.mem_of_getElem? (i := 167) rfl) rfl
theorem wbd_388 : Cond.static yL_renew ∈ Wg := t6_in (List.mem_of_getElem? (i := 168) rfl) rfl
theorem wbd_389 : Cond.codeWith yL_renew cL_renew 4 (some .int) [(0, 9, 12, 65), (0, 9, 15, 13)] ∈ Wg := t6_in (List.mem_of_getElem? (i := 169) rfl) rfl
theorem wbd_390 : Cond.methodLink RL 355 yX12_renew ∈ Wg := t9_in (List.mem_of_getElem? (i := 176) rfl) rfl
theorem wbd_391 : Cond.instanceMethod yX12_renew ∈ Wg := t9_in (List.mem_of_getElem? (i := 177) rfl) rfl
theorem wbd_392 : Cond.selects RX12 yX12_renew yX12_renew ∈ Wg := t9_in (List.mem_of_getElem? (i := 178) rfl) rfl
theorem wbd_393 : Cond.code yX12_renew cX12_renew 2 (some .int) ∈ Wg := t9_in (List.mem_of_getElem? (i := 179) rfl) rfl
theorem wbd_394 : Cond.methodLink RL 356 yL_cheese ∈ Wg := t6_in (List.mem_of_getElem? (i := 175) rfl) rfl
theorem wbd_395 : Cond.static yL_cheese ∈ Wg := t6_in (List.mem_of_getElem? (i := 176) rfl) rfl
theorem wbd_396 : Cond.codeWith yL_cheese cL_cheese 4 (some .int) [(0, 9, 12, 65), (0, 9, 15, 13)] ∈ Wg := t6_in (List.mem_of_getElem? (i := 177) rfl) rfl
theorem wbd_397 : Cond.methodLink RL 358 yX12_cheese ∈ Wg := t9_in (List.mem_of_getElem? (i := 180) rfl) rfl
theorem wbd_398 : Cond.instanceMethod yX12_cheese ∈ Wg := t9_in (List.mem_of_getElem? (i := 181) rfl) rfl
theorem wbd_399 : Cond.selects RX12 yX12_cheese yX12_cheese ∈ Wg := t9_in (List.mem_of_getElem? (i := 182) rfl) rfl
theorem wbd_400 : Cond.code yX12_cheese cX12_cheese 2 (some .int) ∈ Wg := t9_in (List.mem_of_getElem? (i := 183) rfl) rfl
theorem wbd_401 : Cond.methodLink RL 359 yL_drop ∈ Wg := t6_in (List.mem_of_getElem? (i := 183) rfl) rfl
theorem wbd_402 : Cond.static yL_drop ∈ Wg := t6_in (List.mem_of_getElem? (i := 184) rfl) rfl
theorem wbd_403 : Cond.codeWith yL_drop cL_drop 4 (some .int) [(0, 9, 12, 65)] ∈ Wg := t6_in (List.mem_of_getElem? (i := 185) rfl) rfl
theorem wbd_404 : Cond.methodLink RL 361 yX12_drop ∈ Wg := t9_in (List.mem_of_getElem? (i := 184) rfl) rfl
theorem wbd_405 : Cond.instanceMethod yX12_drop ∈ Wg := t9_in (List.mem_of_getElem? (i := 185) rfl) rfl
theorem wbd_406 : Cond.selects RX12 yX12_drop yX12_drop ∈ Wg := t9_in (List.mem_of_getElem? (i := 186) rfl) rfl
theorem wbd_407 : Cond.code yX12_drop cX12_drop 2 (some .int) ∈ Wg := t9_in (List.mem_of_getElem? (i := 187) rfl) rfl
theorem wbd_408 : Cond.methodLink RL 362 yX11_sweep ∈ Wg := t4_in (List.mem_of_getElem? (i := 181) rfl) rfl
theorem wbd_409 : Cond.instanceMethod yX11_sweep ∈ Wg := t4_in (List.mem_of_getElem? (i := 182) rfl) rfl
theorem wbd_410 : Cond.selects RX11 yX11_sweep yX11_sweep ∈ Wg := t4_in (List.mem_of_getElem? (i := 183) rfl) rfl
theorem wbd_411 : Cond.code yX11_sweep cX11_sweep 1 (some .int) ∈ Wg := t4_in (List.mem_of_getElem? (i := 184) rfl) rfl
theorem wbd_412 : Cond.methodLink RL 365 yX12_sweep ∈ Wg := t9_in (List.mem_of_getElem? (i := 188) rfl) rfl
theorem wbd_413 : Cond.instanceMethod yX12_sweep ∈ Wg := t9_in (List.mem_of_getElem? (i := 189) rfl) rfl
theorem wbd_414 : Cond.selects RX12 yX12_sweep yX12_sweep ∈ Wg := t9_in (List.mem_of_getElem? (i := 190) rfl) rfl
theorem wbd_415 : Cond.code yX12_sweep cX12_sweep 1 (some .int) ∈ Wg := t9_in (List.mem_of_getElem? (i := 191) rfl) rfl
theorem wbd_416 : Cond.methodLink RL 366 yL_setPassword ∈ Wg := t6_in (List.mem_of_getElem? (i := 191) rfl) rfl
theorem wbd_417 : Cond.static yL_setPassword ∈ Wg := t6_in (List.mem_of_getElem? (i := 192) rfl) rfl
theorem wbd_418 : Cond.codeWith yL_setPassword cL_setPassword 5 (some .int) [(0, 10, 13, 28), (0, 10, 17, 19)] ∈ Wg := t6_in (List.mem_of_getElem? (i := 193) rfl) rfl
theorem wbd_419 : Cond.methodLink RL 368 yX12_setPassword ∈ Wg := t9_in (List.mem_of_getElem? (i := 192) rfl) rfl
theorem wbd_420 : Cond.instanceMethod yX12_setPassword ∈ Wg := t9_in (List.mem_of_getElem? (i := 193) rfl) rfl
theorem wbd_421 : Cond.selects RX12 yX12_setPassword yX12_setPassword ∈ Wg := t9_in (List.mem_of_getElem? (i := 194) rfl) rfl
theorem wbd_422 : Cond.code yX12_setPassword cX12_setPassword 3 (some .int) ∈ Wg := t9_in (List.mem_of_getElem? (i := 195) rfl) rfl
theorem wbd_423 : Cond.methodLink RL 369 yL_setClock ∈ Wg := t6_in (List.mem_of_getElem? (i := 199) rfl) rfl
theorem wbd_424 : Cond.static yL_setClock ∈ Wg := t6_in (List.mem_of_getElem? (i := 200) rfl) rfl
theorem wbd_425 : Cond.codeWith yL_setClock cL_setClock 5 (some .int) [(0, 10, 13, 28), (0, 10, 17, 19)] ∈ Wg := t6_in (List.mem_of_getElem? (i := 201) rfl) rfl
theorem wbd_426 : Cond.methodLink RL 371 yX12_setClock ∈ Wg := t9_in (List.mem_of_getElem? (i := 200) rfl) rfl
theorem wbd_427 : Cond.instanceMethod yX12_setClock ∈ Wg := t9_in (List.mem_of_getElem? (i := 201) rfl) rfl
theorem wbd_428 : Cond.selects RX12 yX12_setClock yX12_setClock ∈ Wg := t9_in (List.mem_of_getElem? (i := 202) rfl) rfl
theorem wbd_429 : Cond.code yX12_setClock cX12_setClock 3 (some .int) ∈ Wg := t9_in (List.mem_of_getElem? (i := 203) rfl) rfl
theorem wbd_430 : Cond.methodLink RL 372 yL_pass ∈ Wg := t6_in (List.mem_of_getElem? (i := 207) rfl) rfl
theorem wbd_431 : Cond.static yL_pass ∈ Wg := t6_in (List.mem_of_getElem? (i := 208) rfl) rfl
theorem wbd_432 : Cond.codeWith yL_pass cL_pass 4 (some .int) [(0, 9, 12, 19)] ∈ Wg := t6_in (List.mem_of_getElem? (i := 209) rfl) rfl
theorem wbd_433 : Cond.methodLink RL 374 yX12_pass ∈ Wg := t9_in (List.mem_of_getElem? (i := 204) rfl) rfl
theorem wbd_434 : Cond.instanceMethod yX12_pass ∈ Wg := t9_in (List.mem_of_getElem? (i := 205) rfl) rfl
theorem wbd_435 : Cond.selects RX12 yX12_pass yX12_pass ∈ Wg := t9_in (List.mem_of_getElem? (i := 206) rfl) rfl
theorem wbd_436 : Cond.code yX12_pass cX12_pass 2 (some .int) ∈ Wg := t9_in (List.mem_of_getElem? (i := 207) rfl) rfl
theorem wbd_437 : Cond.methodLink RL 375 yL_writeTicket ∈ Wg := t6_in (List.mem_of_getElem? (i := 215) rfl) rfl
theorem wbd_438 : Cond.static yL_writeTicket ∈ Wg := t6_in (List.mem_of_getElem? (i := 216) rfl) rfl
theorem wbd_439 : Cond.codeWith yL_writeTicket cL_writeTicket 4 (some .int) [(0, 9, 12, 65)] ∈ Wg := t6_in (List.mem_of_getElem? (i := 217) rfl) rfl
theorem wbd_440 : Cond.methodLink RL 377 yX12_writeTicket ∈ Wg := t9_in (List.mem_of_getElem? (i := 208) rfl) rfl
theorem wbd_441 : Cond.instanceMethod yX12_writeTicket ∈ Wg := t9_in (List.mem_of_getElem? (i := 209) rfl) rfl
theorem wbd_442 : Cond.selects RX12 yX12_writeTicket yX12_writeTicket ∈ Wg := t9_in (List.mem_of_getElem? (i := 210) rfl) rfl
theorem wbd_443 : Cond.code yX12_writeTicket cX12_writeTicket 3 (some .int) ∈ Wg := t9_in (List.mem_of_getElem? (i := 211) rfl) rfl
theorem wbd_444 : Cond.methodLink RL 378 yL_outputByte ∈ Wg := t6_in (List.mem_of_getElem? (i := 232) rfl) rfl
theorem wbd_445 : Cond.static yL_outputByte ∈ Wg := t6_in (List.mem_of_getElem? (i := 233) rfl) rfl
theorem wbd_446 : Cond.codeWith yL_outputByte cL_outputByte 4 (some .int) [(0, 9, 12, 65)] ∈ Wg := t6_in (List.mem_of_getElem? (i := 234) rfl) rfl
theorem wbd_447 : Cond.methodLink RL 380 yX12_outputByte ∈ Wg := t9_in (List.mem_of_getElem? (i := 224) rfl) rfl
theorem wbd_448 : Cond.instanceMethod yX12_outputByte ∈ Wg := t9_in (List.mem_of_getElem? (i := 225) rfl) rfl
theorem wbd_449 : Cond.selects RX12 yX12_outputByte yX12_outputByte ∈ Wg := t9_in (List.mem_of_getElem? (i := 226) rfl) rfl
theorem wbd_450 : Cond.code yX12_outputByte cX12_outputByte 2 (some .int) ∈ Wg := t9_in (List.mem_of_getElem? (i := 227) rfl) rfl
theorem wbd_451 : Cond.methodLink RL 381 yL_save ∈ Wg := t7_in (List.mem_of_getElem? (i := 1) rfl) rfl
theorem wbd_452 : Cond.static yL_save ∈ Wg := t7_in (List.mem_of_getElem? (i := 2) rfl) rfl
theorem wbd_453 : Cond.codeWith yL_save cL_save 4 (some .int) [(0, 9, 12, 28)] ∈ Wg := t7_in (List.mem_of_getElem? (i := 3) rfl) rfl
theorem wbd_454 : Cond.methodLink RL 383 yX12_save ∈ Wg := t9_in (List.mem_of_getElem? (i := 228) rfl) rfl
theorem wbd_455 : Cond.instanceMethod yX12_save ∈ Wg := t9_in (List.mem_of_getElem? (i := 229) rfl) rfl
theorem wbd_456 : Cond.selects RX12 yX12_save yX12_save ∈ Wg := t9_in (List.mem_of_getElem? (i := 230) rfl) rfl
theorem wbd_457 : Cond.code yX12_save cX12_save 2 (some .int) ∈ Wg := t9_in (List.mem_of_getElem? (i := 231) rfl) rfl
theorem wbd_458 : Cond.methodLink RL 384 yL_restore ∈ Wg := t7_in (List.mem_of_getElem? (i := 13) rfl) rfl
theorem wbd_459 : Cond.static yL_restore ∈ Wg := t7_in (List.mem_of_getElem? (i := 14) rfl) rfl
theorem wbd_460 : Cond.codeWith yL_restore cL_restore 4 (some .int) [(0, 9, 12, 28), (0, 9, 15, 13)] ∈ Wg := t7_in (List.mem_of_getElem? (i := 15) rfl) rfl
theorem wbd_461 : Cond.methodLink RL 386 yX12_restore ∈ Wg := t9_in (List.mem_of_getElem? (i := 232) rfl) rfl
theorem wbd_462 : Cond.instanceMethod yX12_restore ∈ Wg := t9_in (List.mem_of_getElem? (i := 233) rfl) rfl
theorem wbd_463 : Cond.selects RX12 yX12_restore yX12_restore ∈ Wg := t9_in (List.mem_of_getElem? (i := 234) rfl) rfl
theorem wbd_464 : Cond.code yX12_restore cX12_restore 2 (some .int) ∈ Wg := t9_in (List.mem_of_getElem? (i := 235) rfl) rfl
theorem wbd_465 : Cond.methodLink RL 387 yL_undo ∈ Wg := t7_in (List.mem_of_getElem? (i := 29) rfl) rfl
theorem wbd_466 : Cond.static yL_undo ∈ Wg := t7_in (List.mem_of_getElem? (i := 30) rfl) rfl
theorem wbd_467 : Cond.codeWith yL_undo cL_undo 3 (some .int) [(0, 8, 11, 13)] ∈ Wg := t7_in (List.mem_of_getElem? (i := 31) rfl) rfl
theorem wbd_468 : Cond.methodLink RL 389 yX12_undo ∈ Wg := t8_in (List.mem_of_getElem? (i := 184) rfl) rfl
theorem wbd_469 : Cond.instanceMethod yX12_undo ∈ Wg := t8_in (List.mem_of_getElem? (i := 185) rfl) rfl
theorem wbd_470 : Cond.selects RX12 yX12_undo yX12_undo ∈ Wg := t8_in (List.mem_of_getElem? (i := 186) rfl) rfl
theorem wbd_471 : Cond.code yX12_undo cX12_undo 1 (some .int) ∈ Wg := t8_in (List.mem_of_getElem? (i := 187) rfl) rfl
theorem dL_law_0 : decode cL_law 0 = .ok (.new 8, 3) := by decide +kernel
theorem dL_law_3 : decode cL_law 3 = .ok (.dup, 1) := by decide +kernel
theorem dL_law_4 : decode cL_law 4 = .ok (.invokespecial 165, 3) := by decide +kernel
theorem dL_law_7 : decode cL_law 7 = .ok (.astore_n 1, 1) := by decide +kernel
theorem dL_law_8 : decode cL_law 8 = .ok (.new 166, 3) := by decide +kernel
theorem dL_law_11 : decode cL_law 11 = .ok (.dup, 1) := by decide +kernel
theorem dL_law_12 : decode cL_law 12 = .ok (.invokespecial 168, 3) := by decide +kernel
theorem dL_law_15 : decode cL_law 15 = .ok (.astore_n 2, 1) := by decide +kernel
theorem dL_law_16 : decode cL_law 16 = .ok (.iconst 1, 1) := by decide +kernel
theorem dL_law_17 : decode cL_law 17 = .ok (.newarray .long, 2) := by decide +kernel
theorem dL_law_19 : decode cL_law 19 = .ok (.astore_n 3, 1) := by decide +kernel
theorem dL_law_20 : decode cL_law 20 = .ok (.iconst 0, 1) := by decide +kernel
theorem dL_law_21 : decode cL_law 21 = .ok (.istore 4, 2) := by decide +kernel
theorem dL_law_23 : decode cL_law 23 = .ok (.iload 4, 2) := by decide +kernel
theorem dL_law_25 : decode cL_law 25 = .ok (.aload_n 0, 1) := by decide +kernel
theorem dL_law_26 : decode cL_law 26 = .ok (.arraylength, 1) := by decide +kernel
theorem dL_law_27 : decode cL_law 27 = .ok (.bipush 6, 2) := by decide +kernel
theorem dL_law_29 : decode cL_law 29 = .ok (.isub, 1) := by decide +kernel
theorem dL_law_30 : decode cL_law 30 = .ok (.if_icmp .gt 3428, 3) := by decide +kernel
theorem dL_law_33 : decode cL_law 33 = .ok (.aload_n 0, 1) := by decide +kernel
theorem dL_law_34 : decode cL_law 34 = .ok (.iload 4, 2) := by decide +kernel
theorem dL_law_36 : decode cL_law 36 = .ok (.iaload, 1) := by decide +kernel
theorem dL_law_37 : decode cL_law 37 = .ok (.bipush 63, 2) := by decide +kernel
theorem dL_law_39 : decode cL_law 39 = .ok (.iand, 1) := by decide +kernel
theorem dL_law_40 : decode cL_law 40 = .ok (.tableswitch 3412 0 63 #[272, 376, 432, 476, 489, 502, 515, 528, 541, 554, 567, 580, 636, 692, 767, 835, 903, 959, 1015, 1083, 1139, 1195, 1208, 1264, 1320, 1376, 1432, 1488, 1544, 1600, 1656, 1712, 1775, 1838, 1894, 1962, 2030, 2098, 2154, 2210, 2223, 2279, 2335, 2403, 2416, 2429, 2442, 2455, 2498, 2539, 2635, 2703, 2771, 2827, 2883, 2939, 2952, 3020, 3088, 3144, 3200, 3256, 3312, 3368], 272) := by decide +kernel
theorem dL_law_312 : decode cL_law 312 = .ok (.aload_n 1, 1) := by decide +kernel
theorem dL_law_313 : decode cL_law 313 = .ok (.aload_n 0, 1) := by decide +kernel
theorem dL_law_314 : decode cL_law 314 = .ok (.iload 4, 2) := by decide +kernel
theorem dL_law_316 : decode cL_law 316 = .ok (.iconst 1, 1) := by decide +kernel
theorem dL_law_317 : decode cL_law 317 = .ok (.iadd, 1) := by decide +kernel
theorem dL_law_318 : decode cL_law 318 = .ok (.iaload, 1) := by decide +kernel
theorem dL_law_319 : decode cL_law 319 = .ok (.aload_n 0, 1) := by decide +kernel
theorem dL_law_320 : decode cL_law 320 = .ok (.iload 4, 2) := by decide +kernel
theorem dL_law_322 : decode cL_law 322 = .ok (.iconst 2, 1) := by decide +kernel
theorem dL_law_323 : decode cL_law 323 = .ok (.iadd, 1) := by decide +kernel
theorem dL_law_324 : decode cL_law 324 = .ok (.iaload, 1) := by decide +kernel
theorem dL_law_325 : decode cL_law 325 = .ok (.aload_n 0, 1) := by decide +kernel
theorem dL_law_326 : decode cL_law 326 = .ok (.iload 4, 2) := by decide +kernel
theorem dL_law_328 : decode cL_law 328 = .ok (.iconst 3, 1) := by decide +kernel
theorem dL_law_329 : decode cL_law 329 = .ok (.iadd, 1) := by decide +kernel
theorem dL_law_330 : decode cL_law 330 = .ok (.iaload, 1) := by decide +kernel
theorem dL_law_331 : decode cL_law 331 = .ok (.aload_n 0, 1) := by decide +kernel
theorem dL_law_332 : decode cL_law 332 = .ok (.iload 4, 2) := by decide +kernel
theorem dL_law_334 : decode cL_law 334 = .ok (.iconst 4, 1) := by decide +kernel
theorem dL_law_335 : decode cL_law 335 = .ok (.iadd, 1) := by decide +kernel
theorem dL_law_336 : decode cL_law 336 = .ok (.iaload, 1) := by decide +kernel
theorem dL_law_337 : decode cL_law 337 = .ok (.aload_n 0, 1) := by decide +kernel
theorem dL_law_338 : decode cL_law 338 = .ok (.iload 4, 2) := by decide +kernel
theorem dL_law_340 : decode cL_law 340 = .ok (.iconst 5, 1) := by decide +kernel
theorem dL_law_341 : decode cL_law 341 = .ok (.iadd, 1) := by decide +kernel
theorem dL_law_342 : decode cL_law 342 = .ok (.iaload, 1) := by decide +kernel
theorem dL_law_343 : decode cL_law 343 = .ok (.aload_n 3, 1) := by decide +kernel
theorem dL_law_344 : decode cL_law 344 = .ok (.invokestatic 169, 3) := by decide +kernel
theorem dL_law_347 : decode cL_law 347 = .ok (.istore 5, 2) := by decide +kernel
theorem dL_law_349 : decode cL_law 349 = .ok (.aload_n 2, 1) := by decide +kernel
theorem dL_law_350 : decode cL_law 350 = .ok (.aload_n 0, 1) := by decide +kernel
theorem dL_law_351 : decode cL_law 351 = .ok (.iload 4, 2) := by decide +kernel
theorem dL_law_353 : decode cL_law 353 = .ok (.iconst 1, 1) := by decide +kernel
theorem dL_law_354 : decode cL_law 354 = .ok (.iadd, 1) := by decide +kernel
theorem dL_law_355 : decode cL_law 355 = .ok (.iaload, 1) := by decide +kernel
theorem dL_law_356 : decode cL_law 356 = .ok (.aload_n 0, 1) := by decide +kernel
theorem dL_law_357 : decode cL_law 357 = .ok (.iload 4, 2) := by decide +kernel
theorem dL_law_359 : decode cL_law 359 = .ok (.iconst 2, 1) := by decide +kernel
theorem dL_law_360 : decode cL_law 360 = .ok (.iadd, 1) := by decide +kernel
theorem dL_law_361 : decode cL_law 361 = .ok (.iaload, 1) := by decide +kernel
theorem dL_law_362 : decode cL_law 362 = .ok (.aload_n 0, 1) := by decide +kernel
theorem dL_law_363 : decode cL_law 363 = .ok (.iload 4, 2) := by decide +kernel
theorem dL_law_365 : decode cL_law 365 = .ok (.iconst 3, 1) := by decide +kernel
theorem dL_law_366 : decode cL_law 366 = .ok (.iadd, 1) := by decide +kernel
theorem dL_law_367 : decode cL_law 367 = .ok (.iaload, 1) := by decide +kernel
theorem dL_law_368 : decode cL_law 368 = .ok (.aload_n 0, 1) := by decide +kernel
theorem dL_law_369 : decode cL_law 369 = .ok (.iload 4, 2) := by decide +kernel
theorem dL_law_371 : decode cL_law 371 = .ok (.iconst 4, 1) := by decide +kernel
theorem dL_law_372 : decode cL_law 372 = .ok (.iadd, 1) := by decide +kernel
theorem dL_law_373 : decode cL_law 373 = .ok (.iaload, 1) := by decide +kernel
theorem dL_law_374 : decode cL_law 374 = .ok (.aload_n 0, 1) := by decide +kernel
theorem dL_law_375 : decode cL_law 375 = .ok (.iload 4, 2) := by decide +kernel
theorem dL_law_377 : decode cL_law 377 = .ok (.iconst 5, 1) := by decide +kernel
theorem dL_law_378 : decode cL_law 378 = .ok (.iadd, 1) := by decide +kernel
theorem dL_law_379 : decode cL_law 379 = .ok (.iaload, 1) := by decide +kernel
theorem dL_law_380 : decode cL_law 380 = .ok (.invokevirtual 174, 3) := by decide +kernel
theorem dL_law_383 : decode cL_law 383 = .ok (.istore 6, 2) := by decide +kernel
theorem dL_law_385 : decode cL_law 385 = .ok (.aload_n 2, 1) := by decide +kernel
theorem dL_law_386 : decode cL_law 386 = .ok (.invokevirtual 175, 3) := by decide +kernel
theorem dL_law_389 : decode cL_law 389 = .ok (.iload 5, 2) := by decide +kernel
theorem dL_law_391 : decode cL_law 391 = .ok (.if_icmp .eq 5, 3) := by decide +kernel
theorem dL_law_394 : decode cL_law 394 = .ok (.iconst 0, 1) := by decide +kernel
theorem dL_law_395 : decode cL_law 395 = .ok (.ireturn, 1) := by decide +kernel
theorem dL_law_396 : decode cL_law 396 = .ok (.iload 5, 2) := by decide +kernel
theorem dL_law_398 : decode cL_law 398 = .ok (.ifCond .ne 15, 3) := by decide +kernel
theorem dL_law_401 : decode cL_law 401 = .ok (.aload_n 3, 1) := by decide +kernel
theorem dL_law_402 : decode cL_law 402 = .ok (.iconst 0, 1) := by decide +kernel
theorem dL_law_403 : decode cL_law 403 = .ok (.laload, 1) := by decide +kernel
theorem dL_law_404 : decode cL_law 404 = .ok (.iload 6, 2) := by decide +kernel
theorem dL_law_406 : decode cL_law 406 = .ok (.i2l, 1) := by decide +kernel
theorem dL_law_407 : decode cL_law 407 = .ok (.lcmp, 1) := by decide +kernel
theorem dL_law_408 : decode cL_law 408 = .ok (.ifCond .eq 5, 3) := by decide +kernel
theorem dL_law_411 : decode cL_law 411 = .ok (.iconst 0, 1) := by decide +kernel
theorem dL_law_412 : decode cL_law 412 = .ok (.ireturn, 1) := by decide +kernel
theorem dL_law_413 : decode cL_law 413 = .ok (.goto 3039, 3) := by decide +kernel
theorem dL_law_416 : decode cL_law 416 = .ok (.aload_n 1, 1) := by decide +kernel
theorem dL_law_417 : decode cL_law 417 = .ok (.aload_n 0, 1) := by decide +kernel
theorem dL_law_418 : decode cL_law 418 = .ok (.iload 4, 2) := by decide +kernel
theorem dL_law_420 : decode cL_law 420 = .ok (.iconst 1, 1) := by decide +kernel
theorem dL_law_421 : decode cL_law 421 = .ok (.iadd, 1) := by decide +kernel
theorem dL_law_422 : decode cL_law 422 = .ok (.iaload, 1) := by decide +kernel
theorem dL_law_423 : decode cL_law 423 = .ok (.aload_n 3, 1) := by decide +kernel
theorem dL_law_424 : decode cL_law 424 = .ok (.invokestatic 178, 3) := by decide +kernel
theorem dL_law_427 : decode cL_law 427 = .ok (.istore 5, 2) := by decide +kernel
theorem dL_law_429 : decode cL_law 429 = .ok (.aload_n 2, 1) := by decide +kernel
theorem dL_law_430 : decode cL_law 430 = .ok (.aload_n 0, 1) := by decide +kernel
theorem dL_law_431 : decode cL_law 431 = .ok (.iload 4, 2) := by decide +kernel
theorem dL_law_433 : decode cL_law 433 = .ok (.iconst 1, 1) := by decide +kernel
theorem dL_law_434 : decode cL_law 434 = .ok (.iadd, 1) := by decide +kernel
theorem dL_law_435 : decode cL_law 435 = .ok (.iaload, 1) := by decide +kernel
theorem dL_law_436 : decode cL_law 436 = .ok (.invokevirtual 181, 3) := by decide +kernel
theorem dL_law_439 : decode cL_law 439 = .ok (.istore 6, 2) := by decide +kernel
theorem dL_law_441 : decode cL_law 441 = .ok (.aload_n 2, 1) := by decide +kernel
theorem dL_law_442 : decode cL_law 442 = .ok (.invokevirtual 175, 3) := by decide +kernel
theorem dL_law_445 : decode cL_law 445 = .ok (.iload 5, 2) := by decide +kernel
theorem dL_law_447 : decode cL_law 447 = .ok (.if_icmp .eq 5, 3) := by decide +kernel
theorem dL_law_450 : decode cL_law 450 = .ok (.iconst 0, 1) := by decide +kernel
theorem dL_law_451 : decode cL_law 451 = .ok (.ireturn, 1) := by decide +kernel
theorem dL_law_452 : decode cL_law 452 = .ok (.iload 5, 2) := by decide +kernel
theorem dL_law_454 : decode cL_law 454 = .ok (.ifCond .ne 15, 3) := by decide +kernel
theorem dL_law_457 : decode cL_law 457 = .ok (.aload_n 3, 1) := by decide +kernel
theorem dL_law_458 : decode cL_law 458 = .ok (.iconst 0, 1) := by decide +kernel
theorem dL_law_459 : decode cL_law 459 = .ok (.laload, 1) := by decide +kernel
theorem dL_law_460 : decode cL_law 460 = .ok (.iload 6, 2) := by decide +kernel
theorem dL_law_462 : decode cL_law 462 = .ok (.i2l, 1) := by decide +kernel
theorem dL_law_463 : decode cL_law 463 = .ok (.lcmp, 1) := by decide +kernel
theorem dL_law_464 : decode cL_law 464 = .ok (.ifCond .eq 5, 3) := by decide +kernel
theorem dL_law_467 : decode cL_law 467 = .ok (.iconst 0, 1) := by decide +kernel
theorem dL_law_468 : decode cL_law 468 = .ok (.ireturn, 1) := by decide +kernel
theorem dL_law_469 : decode cL_law 469 = .ok (.goto 2983, 3) := by decide +kernel
theorem dL_law_472 : decode cL_law 472 = .ok (.aload_n 1, 1) := by decide +kernel
theorem dL_law_473 : decode cL_law 473 = .ok (.aload_n 3, 1) := by decide +kernel
theorem dL_law_474 : decode cL_law 474 = .ok (.invokestatic 182, 3) := by decide +kernel
theorem dL_law_477 : decode cL_law 477 = .ok (.istore 5, 2) := by decide +kernel
theorem dL_law_479 : decode cL_law 479 = .ok (.aload_n 2, 1) := by decide +kernel
theorem dL_law_480 : decode cL_law 480 = .ok (.invokevirtual 185, 3) := by decide +kernel
theorem dL_law_483 : decode cL_law 483 = .ok (.istore 6, 2) := by decide +kernel
theorem dL_law_485 : decode cL_law 485 = .ok (.aload_n 2, 1) := by decide +kernel
theorem dL_law_486 : decode cL_law 486 = .ok (.invokevirtual 175, 3) := by decide +kernel
theorem dL_law_489 : decode cL_law 489 = .ok (.iload 5, 2) := by decide +kernel
theorem dL_law_491 : decode cL_law 491 = .ok (.if_icmp .eq 5, 3) := by decide +kernel
theorem dL_law_494 : decode cL_law 494 = .ok (.iconst 0, 1) := by decide +kernel
theorem dL_law_495 : decode cL_law 495 = .ok (.ireturn, 1) := by decide +kernel
theorem dL_law_496 : decode cL_law 496 = .ok (.iload 5, 2) := by decide +kernel
theorem dL_law_498 : decode cL_law 498 = .ok (.ifCond .ne 15, 3) := by decide +kernel
theorem dL_law_501 : decode cL_law 501 = .ok (.aload_n 3, 1) := by decide +kernel
theorem dL_law_502 : decode cL_law 502 = .ok (.iconst 0, 1) := by decide +kernel
theorem dL_law_503 : decode cL_law 503 = .ok (.laload, 1) := by decide +kernel
theorem dL_law_504 : decode cL_law 504 = .ok (.iload 6, 2) := by decide +kernel
theorem dL_law_506 : decode cL_law 506 = .ok (.i2l, 1) := by decide +kernel
theorem dL_law_507 : decode cL_law 507 = .ok (.lcmp, 1) := by decide +kernel
theorem dL_law_508 : decode cL_law 508 = .ok (.ifCond .eq 5, 3) := by decide +kernel
theorem dL_law_511 : decode cL_law 511 = .ok (.iconst 0, 1) := by decide +kernel
theorem dL_law_512 : decode cL_law 512 = .ok (.ireturn, 1) := by decide +kernel
theorem dL_law_513 : decode cL_law 513 = .ok (.goto 2939, 3) := by decide +kernel
theorem dL_law_516 : decode cL_law 516 = .ok (.aload_n 1, 1) := by decide +kernel
theorem dL_law_517 : decode cL_law 517 = .ok (.invokevirtual 186, 3) := by decide +kernel
theorem dL_law_520 : decode cL_law 520 = .ok (.aload_n 2, 1) := by decide +kernel
theorem dL_law_521 : decode cL_law 521 = .ok (.invokevirtual 189, 3) := by decide +kernel
theorem dL_law_524 : decode cL_law 524 = .ok (.if_icmp .eq 2928, 3) := by decide +kernel
theorem dL_law_527 : decode cL_law 527 = .ok (.iconst 0, 1) := by decide +kernel
theorem dL_law_528 : decode cL_law 528 = .ok (.ireturn, 1) := by decide +kernel
theorem dL_law_529 : decode cL_law 529 = .ok (.aload_n 1, 1) := by decide +kernel
theorem dL_law_530 : decode cL_law 530 = .ok (.invokevirtual 190, 3) := by decide +kernel
theorem dL_law_533 : decode cL_law 533 = .ok (.aload_n 2, 1) := by decide +kernel
theorem dL_law_534 : decode cL_law 534 = .ok (.invokevirtual 193, 3) := by decide +kernel
theorem dL_law_537 : decode cL_law 537 = .ok (.if_icmp .eq 2915, 3) := by decide +kernel
theorem dL_law_540 : decode cL_law 540 = .ok (.iconst 0, 1) := by decide +kernel
theorem dL_law_541 : decode cL_law 541 = .ok (.ireturn, 1) := by decide +kernel
theorem dL_law_542 : decode cL_law 542 = .ok (.aload_n 1, 1) := by decide +kernel
theorem dL_law_543 : decode cL_law 543 = .ok (.invokevirtual 194, 3) := by decide +kernel
theorem dL_law_546 : decode cL_law 546 = .ok (.aload_n 2, 1) := by decide +kernel
theorem dL_law_547 : decode cL_law 547 = .ok (.invokevirtual 197, 3) := by decide +kernel
theorem dL_law_550 : decode cL_law 550 = .ok (.if_icmp .eq 2902, 3) := by decide +kernel
theorem dL_law_553 : decode cL_law 553 = .ok (.iconst 0, 1) := by decide +kernel
theorem dL_law_554 : decode cL_law 554 = .ok (.ireturn, 1) := by decide +kernel
theorem dL_law_555 : decode cL_law 555 = .ok (.aload_n 1, 1) := by decide +kernel
theorem dL_law_556 : decode cL_law 556 = .ok (.invokevirtual 198, 3) := by decide +kernel
theorem dL_law_559 : decode cL_law 559 = .ok (.aload_n 2, 1) := by decide +kernel
theorem dL_law_560 : decode cL_law 560 = .ok (.invokevirtual 201, 3) := by decide +kernel
theorem dL_law_563 : decode cL_law 563 = .ok (.if_icmp .eq 2889, 3) := by decide +kernel
theorem dL_law_566 : decode cL_law 566 = .ok (.iconst 0, 1) := by decide +kernel
theorem dL_law_567 : decode cL_law 567 = .ok (.ireturn, 1) := by decide +kernel
theorem dL_law_568 : decode cL_law 568 = .ok (.aload_n 1, 1) := by decide +kernel
theorem dL_law_569 : decode cL_law 569 = .ok (.invokevirtual 202, 3) := by decide +kernel
theorem dL_law_572 : decode cL_law 572 = .ok (.aload_n 2, 1) := by decide +kernel
theorem dL_law_573 : decode cL_law 573 = .ok (.invokevirtual 205, 3) := by decide +kernel
theorem dL_law_576 : decode cL_law 576 = .ok (.if_icmp .eq 2876, 3) := by decide +kernel
theorem dL_law_579 : decode cL_law 579 = .ok (.iconst 0, 1) := by decide +kernel
theorem dL_law_580 : decode cL_law 580 = .ok (.ireturn, 1) := by decide +kernel
theorem dL_law_581 : decode cL_law 581 = .ok (.aload_n 1, 1) := by decide +kernel
theorem dL_law_582 : decode cL_law 582 = .ok (.invokevirtual 206, 3) := by decide +kernel
theorem dL_law_585 : decode cL_law 585 = .ok (.aload_n 2, 1) := by decide +kernel
theorem dL_law_586 : decode cL_law 586 = .ok (.invokevirtual 209, 3) := by decide +kernel
theorem dL_law_589 : decode cL_law 589 = .ok (.if_icmp .eq 2863, 3) := by decide +kernel
theorem dL_law_592 : decode cL_law 592 = .ok (.iconst 0, 1) := by decide +kernel
theorem dL_law_593 : decode cL_law 593 = .ok (.ireturn, 1) := by decide +kernel
theorem dL_law_594 : decode cL_law 594 = .ok (.aload_n 1, 1) := by decide +kernel
theorem dL_law_595 : decode cL_law 595 = .ok (.invokevirtual 210, 3) := by decide +kernel
theorem dL_law_598 : decode cL_law 598 = .ok (.aload_n 2, 1) := by decide +kernel
theorem dL_law_599 : decode cL_law 599 = .ok (.invokevirtual 213, 3) := by decide +kernel
theorem dL_law_602 : decode cL_law 602 = .ok (.if_icmp .eq 2850, 3) := by decide +kernel
theorem dL_law_605 : decode cL_law 605 = .ok (.iconst 0, 1) := by decide +kernel
theorem dL_law_606 : decode cL_law 606 = .ok (.ireturn, 1) := by decide +kernel
theorem dL_law_607 : decode cL_law 607 = .ok (.aload_n 1, 1) := by decide +kernel
theorem dL_law_608 : decode cL_law 608 = .ok (.invokevirtual 214, 3) := by decide +kernel
theorem dL_law_611 : decode cL_law 611 = .ok (.aload_n 2, 1) := by decide +kernel
theorem dL_law_612 : decode cL_law 612 = .ok (.invokevirtual 217, 3) := by decide +kernel
theorem dL_law_615 : decode cL_law 615 = .ok (.if_icmp .eq 2837, 3) := by decide +kernel
theorem dL_law_618 : decode cL_law 618 = .ok (.iconst 0, 1) := by decide +kernel
theorem dL_law_619 : decode cL_law 619 = .ok (.ireturn, 1) := by decide +kernel
theorem dL_law_620 : decode cL_law 620 = .ok (.aload_n 1, 1) := by decide +kernel
theorem dL_law_621 : decode cL_law 621 = .ok (.aload_n 0, 1) := by decide +kernel
theorem dL_law_622 : decode cL_law 622 = .ok (.iload 4, 2) := by decide +kernel
theorem dL_law_624 : decode cL_law 624 = .ok (.iconst 1, 1) := by decide +kernel
theorem dL_law_625 : decode cL_law 625 = .ok (.iadd, 1) := by decide +kernel
theorem dL_law_626 : decode cL_law 626 = .ok (.iaload, 1) := by decide +kernel
theorem dL_law_627 : decode cL_law 627 = .ok (.aload_n 3, 1) := by decide +kernel
theorem dL_law_628 : decode cL_law 628 = .ok (.invokestatic 218, 3) := by decide +kernel
theorem dL_law_631 : decode cL_law 631 = .ok (.istore 5, 2) := by decide +kernel
theorem dL_law_633 : decode cL_law 633 = .ok (.aload_n 2, 1) := by decide +kernel
theorem dL_law_634 : decode cL_law 634 = .ok (.aload_n 0, 1) := by decide +kernel
theorem dL_law_635 : decode cL_law 635 = .ok (.iload 4, 2) := by decide +kernel
theorem dL_law_637 : decode cL_law 637 = .ok (.iconst 1, 1) := by decide +kernel
theorem dL_law_638 : decode cL_law 638 = .ok (.iadd, 1) := by decide +kernel
theorem dL_law_639 : decode cL_law 639 = .ok (.iaload, 1) := by decide +kernel
theorem dL_law_640 : decode cL_law 640 = .ok (.invokevirtual 220, 3) := by decide +kernel
theorem dL_law_643 : decode cL_law 643 = .ok (.istore 6, 2) := by decide +kernel
theorem dL_law_645 : decode cL_law 645 = .ok (.aload_n 2, 1) := by decide +kernel
theorem dL_law_646 : decode cL_law 646 = .ok (.invokevirtual 175, 3) := by decide +kernel
theorem dL_law_649 : decode cL_law 649 = .ok (.iload 5, 2) := by decide +kernel
theorem dL_law_651 : decode cL_law 651 = .ok (.if_icmp .eq 5, 3) := by decide +kernel
theorem dL_law_654 : decode cL_law 654 = .ok (.iconst 0, 1) := by decide +kernel
theorem dL_law_655 : decode cL_law 655 = .ok (.ireturn, 1) := by decide +kernel
theorem dL_law_656 : decode cL_law 656 = .ok (.iload 5, 2) := by decide +kernel
theorem dL_law_658 : decode cL_law 658 = .ok (.ifCond .ne 15, 3) := by decide +kernel
theorem dL_law_661 : decode cL_law 661 = .ok (.aload_n 3, 1) := by decide +kernel
theorem dL_law_662 : decode cL_law 662 = .ok (.iconst 0, 1) := by decide +kernel
theorem dL_law_663 : decode cL_law 663 = .ok (.laload, 1) := by decide +kernel
theorem dL_law_664 : decode cL_law 664 = .ok (.iload 6, 2) := by decide +kernel
theorem dL_law_666 : decode cL_law 666 = .ok (.i2l, 1) := by decide +kernel
theorem dL_law_667 : decode cL_law 667 = .ok (.lcmp, 1) := by decide +kernel
theorem dL_law_668 : decode cL_law 668 = .ok (.ifCond .eq 5, 3) := by decide +kernel
theorem dL_law_671 : decode cL_law 671 = .ok (.iconst 0, 1) := by decide +kernel
theorem dL_law_672 : decode cL_law 672 = .ok (.ireturn, 1) := by decide +kernel
theorem dL_law_673 : decode cL_law 673 = .ok (.goto 2779, 3) := by decide +kernel
theorem dL_law_676 : decode cL_law 676 = .ok (.aload_n 1, 1) := by decide +kernel
theorem dL_law_677 : decode cL_law 677 = .ok (.aload_n 0, 1) := by decide +kernel
theorem dL_law_678 : decode cL_law 678 = .ok (.iload 4, 2) := by decide +kernel
theorem dL_law_680 : decode cL_law 680 = .ok (.iconst 1, 1) := by decide +kernel
theorem dL_law_681 : decode cL_law 681 = .ok (.iadd, 1) := by decide +kernel
theorem dL_law_682 : decode cL_law 682 = .ok (.iaload, 1) := by decide +kernel
theorem dL_law_683 : decode cL_law 683 = .ok (.aload_n 3, 1) := by decide +kernel
theorem dL_law_684 : decode cL_law 684 = .ok (.invokestatic 221, 3) := by decide +kernel
theorem dL_law_687 : decode cL_law 687 = .ok (.istore 5, 2) := by decide +kernel
theorem dL_law_689 : decode cL_law 689 = .ok (.aload_n 2, 1) := by decide +kernel
theorem dL_law_690 : decode cL_law 690 = .ok (.aload_n 0, 1) := by decide +kernel
theorem dL_law_691 : decode cL_law 691 = .ok (.iload 4, 2) := by decide +kernel
theorem dL_law_693 : decode cL_law 693 = .ok (.iconst 1, 1) := by decide +kernel
theorem dL_law_694 : decode cL_law 694 = .ok (.iadd, 1) := by decide +kernel
theorem dL_law_695 : decode cL_law 695 = .ok (.iaload, 1) := by decide +kernel
theorem dL_law_696 : decode cL_law 696 = .ok (.invokevirtual 223, 3) := by decide +kernel
theorem dL_law_699 : decode cL_law 699 = .ok (.istore 6, 2) := by decide +kernel
theorem dL_law_701 : decode cL_law 701 = .ok (.aload_n 2, 1) := by decide +kernel
theorem dL_law_702 : decode cL_law 702 = .ok (.invokevirtual 175, 3) := by decide +kernel
theorem dL_law_705 : decode cL_law 705 = .ok (.iload 5, 2) := by decide +kernel
theorem dL_law_707 : decode cL_law 707 = .ok (.if_icmp .eq 5, 3) := by decide +kernel
theorem dL_law_710 : decode cL_law 710 = .ok (.iconst 0, 1) := by decide +kernel
theorem dL_law_711 : decode cL_law 711 = .ok (.ireturn, 1) := by decide +kernel
theorem dL_law_712 : decode cL_law 712 = .ok (.iload 5, 2) := by decide +kernel
theorem dL_law_714 : decode cL_law 714 = .ok (.ifCond .ne 15, 3) := by decide +kernel
theorem dL_law_717 : decode cL_law 717 = .ok (.aload_n 3, 1) := by decide +kernel
theorem dL_law_718 : decode cL_law 718 = .ok (.iconst 0, 1) := by decide +kernel
theorem dL_law_719 : decode cL_law 719 = .ok (.laload, 1) := by decide +kernel
theorem dL_law_720 : decode cL_law 720 = .ok (.iload 6, 2) := by decide +kernel
theorem dL_law_722 : decode cL_law 722 = .ok (.i2l, 1) := by decide +kernel
theorem dL_law_723 : decode cL_law 723 = .ok (.lcmp, 1) := by decide +kernel
theorem dL_law_724 : decode cL_law 724 = .ok (.ifCond .eq 5, 3) := by decide +kernel
theorem dL_law_727 : decode cL_law 727 = .ok (.iconst 0, 1) := by decide +kernel
theorem dL_law_728 : decode cL_law 728 = .ok (.ireturn, 1) := by decide +kernel
theorem dL_law_729 : decode cL_law 729 = .ok (.goto 2723, 3) := by decide +kernel
theorem dL_law_732 : decode cL_law 732 = .ok (.aload_n 1, 1) := by decide +kernel
theorem dL_law_733 : decode cL_law 733 = .ok (.aload_n 0, 1) := by decide +kernel
theorem dL_law_734 : decode cL_law 734 = .ok (.iload 4, 2) := by decide +kernel
theorem dL_law_736 : decode cL_law 736 = .ok (.iconst 1, 1) := by decide +kernel
theorem dL_law_737 : decode cL_law 737 = .ok (.iadd, 1) := by decide +kernel
theorem dL_law_738 : decode cL_law 738 = .ok (.iaload, 1) := by decide +kernel
theorem dL_law_739 : decode cL_law 739 = .ok (.aload_n 0, 1) := by decide +kernel
theorem dL_law_740 : decode cL_law 740 = .ok (.iload 4, 2) := by decide +kernel
theorem dL_law_742 : decode cL_law 742 = .ok (.iconst 2, 1) := by decide +kernel
theorem dL_law_743 : decode cL_law 743 = .ok (.iadd, 1) := by decide +kernel
theorem dL_law_744 : decode cL_law 744 = .ok (.iaload, 1) := by decide +kernel
theorem dL_law_745 : decode cL_law 745 = .ok (.aload_n 3, 1) := by decide +kernel
theorem dL_law_746 : decode cL_law 746 = .ok (.invokestatic 224, 3) := by decide +kernel
theorem dL_law_749 : decode cL_law 749 = .ok (.istore 5, 2) := by decide +kernel
theorem dL_law_751 : decode cL_law 751 = .ok (.aload_n 2, 1) := by decide +kernel
theorem dL_law_752 : decode cL_law 752 = .ok (.aload_n 0, 1) := by decide +kernel
theorem dL_law_753 : decode cL_law 753 = .ok (.iload 4, 2) := by decide +kernel
theorem dL_law_755 : decode cL_law 755 = .ok (.iconst 1, 1) := by decide +kernel
theorem dL_law_756 : decode cL_law 756 = .ok (.iadd, 1) := by decide +kernel
theorem dL_law_757 : decode cL_law 757 = .ok (.iaload, 1) := by decide +kernel
theorem dL_law_758 : decode cL_law 758 = .ok (.aload_n 0, 1) := by decide +kernel
theorem dL_law_759 : decode cL_law 759 = .ok (.iload 4, 2) := by decide +kernel
theorem dL_law_761 : decode cL_law 761 = .ok (.iconst 2, 1) := by decide +kernel
theorem dL_law_762 : decode cL_law 762 = .ok (.iadd, 1) := by decide +kernel
theorem dL_law_763 : decode cL_law 763 = .ok (.iaload, 1) := by decide +kernel
theorem dL_law_764 : decode cL_law 764 = .ok (.invokevirtual 227, 3) := by decide +kernel
theorem dL_law_767 : decode cL_law 767 = .ok (.istore 6, 2) := by decide +kernel
theorem dL_law_769 : decode cL_law 769 = .ok (.aload_n 2, 1) := by decide +kernel
theorem dL_law_770 : decode cL_law 770 = .ok (.invokevirtual 175, 3) := by decide +kernel
theorem dL_law_773 : decode cL_law 773 = .ok (.iload 5, 2) := by decide +kernel
theorem dL_law_775 : decode cL_law 775 = .ok (.if_icmp .eq 5, 3) := by decide +kernel
theorem dL_law_778 : decode cL_law 778 = .ok (.iconst 0, 1) := by decide +kernel
theorem dL_law_779 : decode cL_law 779 = .ok (.ireturn, 1) := by decide +kernel
theorem dL_law_780 : decode cL_law 780 = .ok (.iload 5, 2) := by decide +kernel
theorem dL_law_782 : decode cL_law 782 = .ok (.ifCond .ne 22, 3) := by decide +kernel
theorem dL_law_785 : decode cL_law 785 = .ok (.aload_n 3, 1) := by decide +kernel
theorem dL_law_786 : decode cL_law 786 = .ok (.iconst 0, 1) := by decide +kernel
theorem dL_law_787 : decode cL_law 787 = .ok (.laload, 1) := by decide +kernel
theorem dL_law_788 : decode cL_law 788 = .ok (.iload 6, 2) := by decide +kernel
theorem dL_law_790 : decode cL_law 790 = .ok (.ifCond .eq 7, 3) := by decide +kernel
theorem dL_law_793 : decode cL_law 793 = .ok (.lconst 1, 1) := by decide +kernel
theorem dL_law_794 : decode cL_law 794 = .ok (.goto 4, 3) := by decide +kernel
theorem dL_law_797 : decode cL_law 797 = .ok (.lconst 0, 1) := by decide +kernel
theorem dL_law_798 : decode cL_law 798 = .ok (.lcmp, 1) := by decide +kernel
theorem dL_law_799 : decode cL_law 799 = .ok (.ifCond .eq 5, 3) := by decide +kernel
theorem dL_law_802 : decode cL_law 802 = .ok (.iconst 0, 1) := by decide +kernel
theorem dL_law_803 : decode cL_law 803 = .ok (.ireturn, 1) := by decide +kernel
theorem dL_law_804 : decode cL_law 804 = .ok (.goto 2648, 3) := by decide +kernel
theorem dL_law_807 : decode cL_law 807 = .ok (.aload_n 1, 1) := by decide +kernel
theorem dL_law_808 : decode cL_law 808 = .ok (.aload_n 0, 1) := by decide +kernel
theorem dL_law_809 : decode cL_law 809 = .ok (.iload 4, 2) := by decide +kernel
theorem dL_law_811 : decode cL_law 811 = .ok (.iconst 1, 1) := by decide +kernel
theorem dL_law_812 : decode cL_law 812 = .ok (.iadd, 1) := by decide +kernel
theorem dL_law_813 : decode cL_law 813 = .ok (.iaload, 1) := by decide +kernel
theorem dL_law_814 : decode cL_law 814 = .ok (.aload_n 0, 1) := by decide +kernel
theorem dL_law_815 : decode cL_law 815 = .ok (.iload 4, 2) := by decide +kernel
theorem dL_law_817 : decode cL_law 817 = .ok (.iconst 2, 1) := by decide +kernel
theorem dL_law_818 : decode cL_law 818 = .ok (.iadd, 1) := by decide +kernel
theorem dL_law_819 : decode cL_law 819 = .ok (.iaload, 1) := by decide +kernel
theorem dL_law_820 : decode cL_law 820 = .ok (.aload_n 3, 1) := by decide +kernel
theorem dL_law_821 : decode cL_law 821 = .ok (.invokestatic 228, 3) := by decide +kernel
theorem dL_law_824 : decode cL_law 824 = .ok (.istore 5, 2) := by decide +kernel
theorem dL_law_826 : decode cL_law 826 = .ok (.aload_n 2, 1) := by decide +kernel
theorem dL_law_827 : decode cL_law 827 = .ok (.aload_n 0, 1) := by decide +kernel
theorem dL_law_828 : decode cL_law 828 = .ok (.iload 4, 2) := by decide +kernel
theorem dL_law_830 : decode cL_law 830 = .ok (.iconst 1, 1) := by decide +kernel
theorem dL_law_831 : decode cL_law 831 = .ok (.iadd, 1) := by decide +kernel
theorem dL_law_832 : decode cL_law 832 = .ok (.iaload, 1) := by decide +kernel
theorem dL_law_833 : decode cL_law 833 = .ok (.aload_n 0, 1) := by decide +kernel
theorem dL_law_834 : decode cL_law 834 = .ok (.iload 4, 2) := by decide +kernel
theorem dL_law_836 : decode cL_law 836 = .ok (.iconst 2, 1) := by decide +kernel
theorem dL_law_837 : decode cL_law 837 = .ok (.iadd, 1) := by decide +kernel
theorem dL_law_838 : decode cL_law 838 = .ok (.iaload, 1) := by decide +kernel
theorem dL_law_839 : decode cL_law 839 = .ok (.invokevirtual 230, 3) := by decide +kernel
theorem dL_law_842 : decode cL_law 842 = .ok (.istore 6, 2) := by decide +kernel
theorem dL_law_844 : decode cL_law 844 = .ok (.aload_n 2, 1) := by decide +kernel
theorem dL_law_845 : decode cL_law 845 = .ok (.invokevirtual 175, 3) := by decide +kernel
theorem dL_law_848 : decode cL_law 848 = .ok (.iload 5, 2) := by decide +kernel
theorem dL_law_850 : decode cL_law 850 = .ok (.if_icmp .eq 5, 3) := by decide +kernel
theorem dL_law_853 : decode cL_law 853 = .ok (.iconst 0, 1) := by decide +kernel
theorem dL_law_854 : decode cL_law 854 = .ok (.ireturn, 1) := by decide +kernel
theorem dL_law_855 : decode cL_law 855 = .ok (.iload 5, 2) := by decide +kernel
theorem dL_law_857 : decode cL_law 857 = .ok (.ifCond .ne 15, 3) := by decide +kernel
theorem dL_law_860 : decode cL_law 860 = .ok (.aload_n 3, 1) := by decide +kernel
theorem dL_law_861 : decode cL_law 861 = .ok (.iconst 0, 1) := by decide +kernel
theorem dL_law_862 : decode cL_law 862 = .ok (.laload, 1) := by decide +kernel
theorem dL_law_863 : decode cL_law 863 = .ok (.iload 6, 2) := by decide +kernel
theorem dL_law_865 : decode cL_law 865 = .ok (.i2l, 1) := by decide +kernel
theorem dL_law_866 : decode cL_law 866 = .ok (.lcmp, 1) := by decide +kernel
theorem dL_law_867 : decode cL_law 867 = .ok (.ifCond .eq 5, 3) := by decide +kernel
theorem dL_law_870 : decode cL_law 870 = .ok (.iconst 0, 1) := by decide +kernel
theorem dL_law_871 : decode cL_law 871 = .ok (.ireturn, 1) := by decide +kernel
theorem dL_law_872 : decode cL_law 872 = .ok (.goto 2580, 3) := by decide +kernel
theorem dL_law_875 : decode cL_law 875 = .ok (.aload_n 1, 1) := by decide +kernel
theorem dL_law_876 : decode cL_law 876 = .ok (.aload_n 0, 1) := by decide +kernel
theorem dL_law_877 : decode cL_law 877 = .ok (.iload 4, 2) := by decide +kernel
theorem dL_law_879 : decode cL_law 879 = .ok (.iconst 1, 1) := by decide +kernel
theorem dL_law_880 : decode cL_law 880 = .ok (.iadd, 1) := by decide +kernel
theorem dL_law_881 : decode cL_law 881 = .ok (.iaload, 1) := by decide +kernel
theorem dL_law_882 : decode cL_law 882 = .ok (.aload_n 0, 1) := by decide +kernel
theorem dL_law_883 : decode cL_law 883 = .ok (.iload 4, 2) := by decide +kernel
theorem dL_law_885 : decode cL_law 885 = .ok (.iconst 2, 1) := by decide +kernel
theorem dL_law_886 : decode cL_law 886 = .ok (.iadd, 1) := by decide +kernel
theorem dL_law_887 : decode cL_law 887 = .ok (.iaload, 1) := by decide +kernel
theorem dL_law_888 : decode cL_law 888 = .ok (.aload_n 3, 1) := by decide +kernel
theorem dL_law_889 : decode cL_law 889 = .ok (.invokestatic 231, 3) := by decide +kernel
theorem dL_law_892 : decode cL_law 892 = .ok (.istore 5, 2) := by decide +kernel
theorem dL_law_894 : decode cL_law 894 = .ok (.aload_n 2, 1) := by decide +kernel
theorem dL_law_895 : decode cL_law 895 = .ok (.aload_n 0, 1) := by decide +kernel
theorem dL_law_896 : decode cL_law 896 = .ok (.iload 4, 2) := by decide +kernel
theorem dL_law_898 : decode cL_law 898 = .ok (.iconst 1, 1) := by decide +kernel
theorem dL_law_899 : decode cL_law 899 = .ok (.iadd, 1) := by decide +kernel
theorem dL_law_900 : decode cL_law 900 = .ok (.iaload, 1) := by decide +kernel
theorem dL_law_901 : decode cL_law 901 = .ok (.aload_n 0, 1) := by decide +kernel
theorem dL_law_902 : decode cL_law 902 = .ok (.iload 4, 2) := by decide +kernel
theorem dL_law_904 : decode cL_law 904 = .ok (.iconst 2, 1) := by decide +kernel
theorem dL_law_905 : decode cL_law 905 = .ok (.iadd, 1) := by decide +kernel
theorem dL_law_906 : decode cL_law 906 = .ok (.iaload, 1) := by decide +kernel
theorem dL_law_907 : decode cL_law 907 = .ok (.invokevirtual 233, 3) := by decide +kernel
theorem dL_law_910 : decode cL_law 910 = .ok (.istore 6, 2) := by decide +kernel
theorem dL_law_912 : decode cL_law 912 = .ok (.aload_n 2, 1) := by decide +kernel
theorem dL_law_913 : decode cL_law 913 = .ok (.invokevirtual 175, 3) := by decide +kernel
theorem dL_law_916 : decode cL_law 916 = .ok (.iload 5, 2) := by decide +kernel
theorem dL_law_918 : decode cL_law 918 = .ok (.if_icmp .eq 5, 3) := by decide +kernel
theorem dL_law_921 : decode cL_law 921 = .ok (.iconst 0, 1) := by decide +kernel
theorem dL_law_922 : decode cL_law 922 = .ok (.ireturn, 1) := by decide +kernel
theorem dL_law_923 : decode cL_law 923 = .ok (.iload 5, 2) := by decide +kernel
theorem dL_law_925 : decode cL_law 925 = .ok (.ifCond .ne 15, 3) := by decide +kernel
theorem dL_law_928 : decode cL_law 928 = .ok (.aload_n 3, 1) := by decide +kernel
theorem dL_law_929 : decode cL_law 929 = .ok (.iconst 0, 1) := by decide +kernel
theorem dL_law_930 : decode cL_law 930 = .ok (.laload, 1) := by decide +kernel
theorem dL_law_931 : decode cL_law 931 = .ok (.iload 6, 2) := by decide +kernel
theorem dL_law_933 : decode cL_law 933 = .ok (.i2l, 1) := by decide +kernel
theorem dL_law_934 : decode cL_law 934 = .ok (.lcmp, 1) := by decide +kernel
theorem dL_law_935 : decode cL_law 935 = .ok (.ifCond .eq 5, 3) := by decide +kernel
theorem dL_law_938 : decode cL_law 938 = .ok (.iconst 0, 1) := by decide +kernel
theorem dL_law_939 : decode cL_law 939 = .ok (.ireturn, 1) := by decide +kernel
theorem dL_law_940 : decode cL_law 940 = .ok (.goto 2512, 3) := by decide +kernel
theorem dL_law_943 : decode cL_law 943 = .ok (.aload_n 1, 1) := by decide +kernel
theorem dL_law_944 : decode cL_law 944 = .ok (.aload_n 0, 1) := by decide +kernel
theorem dL_law_945 : decode cL_law 945 = .ok (.iload 4, 2) := by decide +kernel
theorem dL_law_947 : decode cL_law 947 = .ok (.iconst 1, 1) := by decide +kernel
theorem dL_law_948 : decode cL_law 948 = .ok (.iadd, 1) := by decide +kernel
theorem dL_law_949 : decode cL_law 949 = .ok (.iaload, 1) := by decide +kernel
theorem dL_law_950 : decode cL_law 950 = .ok (.aload_n 3, 1) := by decide +kernel
theorem dL_law_951 : decode cL_law 951 = .ok (.invokestatic 234, 3) := by decide +kernel
theorem dL_law_954 : decode cL_law 954 = .ok (.istore 5, 2) := by decide +kernel
theorem dL_law_956 : decode cL_law 956 = .ok (.aload_n 2, 1) := by decide +kernel
theorem dL_law_957 : decode cL_law 957 = .ok (.aload_n 0, 1) := by decide +kernel
theorem dL_law_958 : decode cL_law 958 = .ok (.iload 4, 2) := by decide +kernel
theorem dL_law_960 : decode cL_law 960 = .ok (.iconst 1, 1) := by decide +kernel
theorem dL_law_961 : decode cL_law 961 = .ok (.iadd, 1) := by decide +kernel
theorem dL_law_962 : decode cL_law 962 = .ok (.iaload, 1) := by decide +kernel
theorem dL_law_963 : decode cL_law 963 = .ok (.invokevirtual 236, 3) := by decide +kernel
theorem dL_law_966 : decode cL_law 966 = .ok (.istore 6, 2) := by decide +kernel
theorem dL_law_968 : decode cL_law 968 = .ok (.aload_n 2, 1) := by decide +kernel
theorem dL_law_969 : decode cL_law 969 = .ok (.invokevirtual 175, 3) := by decide +kernel
theorem dL_law_972 : decode cL_law 972 = .ok (.iload 5, 2) := by decide +kernel
theorem dL_law_974 : decode cL_law 974 = .ok (.if_icmp .eq 5, 3) := by decide +kernel
theorem dL_law_977 : decode cL_law 977 = .ok (.iconst 0, 1) := by decide +kernel
theorem dL_law_978 : decode cL_law 978 = .ok (.ireturn, 1) := by decide +kernel
theorem dL_law_979 : decode cL_law 979 = .ok (.iload 5, 2) := by decide +kernel
theorem dL_law_981 : decode cL_law 981 = .ok (.ifCond .ne 15, 3) := by decide +kernel
theorem dL_law_984 : decode cL_law 984 = .ok (.aload_n 3, 1) := by decide +kernel
theorem dL_law_985 : decode cL_law 985 = .ok (.iconst 0, 1) := by decide +kernel
theorem dL_law_986 : decode cL_law 986 = .ok (.laload, 1) := by decide +kernel
theorem dL_law_987 : decode cL_law 987 = .ok (.iload 6, 2) := by decide +kernel
theorem dL_law_989 : decode cL_law 989 = .ok (.i2l, 1) := by decide +kernel
theorem dL_law_990 : decode cL_law 990 = .ok (.lcmp, 1) := by decide +kernel
theorem dL_law_991 : decode cL_law 991 = .ok (.ifCond .eq 5, 3) := by decide +kernel
theorem dL_law_994 : decode cL_law 994 = .ok (.iconst 0, 1) := by decide +kernel
theorem dL_law_995 : decode cL_law 995 = .ok (.ireturn, 1) := by decide +kernel
theorem dL_law_996 : decode cL_law 996 = .ok (.goto 2456, 3) := by decide +kernel
theorem dL_law_999 : decode cL_law 999 = .ok (.aload_n 1, 1) := by decide +kernel
theorem dL_law_1000 : decode cL_law 1000 = .ok (.aload_n 0, 1) := by decide +kernel
theorem dL_law_1001 : decode cL_law 1001 = .ok (.iload 4, 2) := by decide +kernel
theorem dL_law_1003 : decode cL_law 1003 = .ok (.iconst 1, 1) := by decide +kernel
theorem dL_law_1004 : decode cL_law 1004 = .ok (.iadd, 1) := by decide +kernel
theorem dL_law_1005 : decode cL_law 1005 = .ok (.iaload, 1) := by decide +kernel
theorem dL_law_1006 : decode cL_law 1006 = .ok (.aload_n 3, 1) := by decide +kernel
theorem dL_law_1007 : decode cL_law 1007 = .ok (.invokestatic 237, 3) := by decide +kernel
theorem dL_law_1010 : decode cL_law 1010 = .ok (.istore 5, 2) := by decide +kernel
theorem dL_law_1012 : decode cL_law 1012 = .ok (.aload_n 2, 1) := by decide +kernel
theorem dL_law_1013 : decode cL_law 1013 = .ok (.aload_n 0, 1) := by decide +kernel
theorem dL_law_1014 : decode cL_law 1014 = .ok (.iload 4, 2) := by decide +kernel
theorem dL_law_1016 : decode cL_law 1016 = .ok (.iconst 1, 1) := by decide +kernel
theorem dL_law_1017 : decode cL_law 1017 = .ok (.iadd, 1) := by decide +kernel
theorem dL_law_1018 : decode cL_law 1018 = .ok (.iaload, 1) := by decide +kernel
theorem dL_law_1019 : decode cL_law 1019 = .ok (.invokevirtual 239, 3) := by decide +kernel
theorem dL_law_1022 : decode cL_law 1022 = .ok (.istore 6, 2) := by decide +kernel
theorem dL_law_1024 : decode cL_law 1024 = .ok (.aload_n 2, 1) := by decide +kernel
theorem dL_law_1025 : decode cL_law 1025 = .ok (.invokevirtual 175, 3) := by decide +kernel
theorem dL_law_1028 : decode cL_law 1028 = .ok (.iload 5, 2) := by decide +kernel
theorem dL_law_1030 : decode cL_law 1030 = .ok (.if_icmp .eq 5, 3) := by decide +kernel
theorem dL_law_1033 : decode cL_law 1033 = .ok (.iconst 0, 1) := by decide +kernel
theorem dL_law_1034 : decode cL_law 1034 = .ok (.ireturn, 1) := by decide +kernel
theorem dL_law_1035 : decode cL_law 1035 = .ok (.iload 5, 2) := by decide +kernel
theorem dL_law_1037 : decode cL_law 1037 = .ok (.ifCond .ne 15, 3) := by decide +kernel
theorem dL_law_1040 : decode cL_law 1040 = .ok (.aload_n 3, 1) := by decide +kernel
theorem dL_law_1041 : decode cL_law 1041 = .ok (.iconst 0, 1) := by decide +kernel
theorem dL_law_1042 : decode cL_law 1042 = .ok (.laload, 1) := by decide +kernel
theorem dL_law_1043 : decode cL_law 1043 = .ok (.iload 6, 2) := by decide +kernel
theorem dL_law_1045 : decode cL_law 1045 = .ok (.i2l, 1) := by decide +kernel
theorem dL_law_1046 : decode cL_law 1046 = .ok (.lcmp, 1) := by decide +kernel
theorem dL_law_1047 : decode cL_law 1047 = .ok (.ifCond .eq 5, 3) := by decide +kernel
theorem dL_law_1050 : decode cL_law 1050 = .ok (.iconst 0, 1) := by decide +kernel
theorem dL_law_1051 : decode cL_law 1051 = .ok (.ireturn, 1) := by decide +kernel
theorem dL_law_1052 : decode cL_law 1052 = .ok (.goto 2400, 3) := by decide +kernel
theorem dL_law_1055 : decode cL_law 1055 = .ok (.aload_n 1, 1) := by decide +kernel
theorem dL_law_1056 : decode cL_law 1056 = .ok (.aload_n 0, 1) := by decide +kernel
theorem dL_law_1057 : decode cL_law 1057 = .ok (.iload 4, 2) := by decide +kernel
theorem dL_law_1059 : decode cL_law 1059 = .ok (.iconst 1, 1) := by decide +kernel
theorem dL_law_1060 : decode cL_law 1060 = .ok (.iadd, 1) := by decide +kernel
theorem dL_law_1061 : decode cL_law 1061 = .ok (.iaload, 1) := by decide +kernel
theorem dL_law_1062 : decode cL_law 1062 = .ok (.aload_n 0, 1) := by decide +kernel
theorem dL_law_1063 : decode cL_law 1063 = .ok (.iload 4, 2) := by decide +kernel
theorem dL_law_1065 : decode cL_law 1065 = .ok (.iconst 2, 1) := by decide +kernel
theorem dL_law_1066 : decode cL_law 1066 = .ok (.iadd, 1) := by decide +kernel
theorem dL_law_1067 : decode cL_law 1067 = .ok (.iaload, 1) := by decide +kernel
theorem dL_law_1068 : decode cL_law 1068 = .ok (.aload_n 3, 1) := by decide +kernel
theorem dL_law_1069 : decode cL_law 1069 = .ok (.invokestatic 240, 3) := by decide +kernel
theorem dL_law_1072 : decode cL_law 1072 = .ok (.istore 5, 2) := by decide +kernel
theorem dL_law_1074 : decode cL_law 1074 = .ok (.aload_n 2, 1) := by decide +kernel
theorem dL_law_1075 : decode cL_law 1075 = .ok (.aload_n 0, 1) := by decide +kernel
theorem dL_law_1076 : decode cL_law 1076 = .ok (.iload 4, 2) := by decide +kernel
theorem dL_law_1078 : decode cL_law 1078 = .ok (.iconst 1, 1) := by decide +kernel
theorem dL_law_1079 : decode cL_law 1079 = .ok (.iadd, 1) := by decide +kernel
theorem dL_law_1080 : decode cL_law 1080 = .ok (.iaload, 1) := by decide +kernel
theorem dL_law_1081 : decode cL_law 1081 = .ok (.aload_n 0, 1) := by decide +kernel
theorem dL_law_1082 : decode cL_law 1082 = .ok (.iload 4, 2) := by decide +kernel
theorem dL_law_1084 : decode cL_law 1084 = .ok (.iconst 2, 1) := by decide +kernel
theorem dL_law_1085 : decode cL_law 1085 = .ok (.iadd, 1) := by decide +kernel
theorem dL_law_1086 : decode cL_law 1086 = .ok (.iaload, 1) := by decide +kernel
theorem dL_law_1087 : decode cL_law 1087 = .ok (.invokevirtual 242, 3) := by decide +kernel
theorem dL_law_1090 : decode cL_law 1090 = .ok (.istore 6, 2) := by decide +kernel
theorem dL_law_1092 : decode cL_law 1092 = .ok (.aload_n 2, 1) := by decide +kernel
theorem dL_law_1093 : decode cL_law 1093 = .ok (.invokevirtual 175, 3) := by decide +kernel
theorem dL_law_1096 : decode cL_law 1096 = .ok (.iload 5, 2) := by decide +kernel
theorem dL_law_1098 : decode cL_law 1098 = .ok (.if_icmp .eq 5, 3) := by decide +kernel
theorem dL_law_1101 : decode cL_law 1101 = .ok (.iconst 0, 1) := by decide +kernel
theorem dL_law_1102 : decode cL_law 1102 = .ok (.ireturn, 1) := by decide +kernel
theorem dL_law_1103 : decode cL_law 1103 = .ok (.iload 5, 2) := by decide +kernel
theorem dL_law_1105 : decode cL_law 1105 = .ok (.ifCond .ne 15, 3) := by decide +kernel
theorem dL_law_1108 : decode cL_law 1108 = .ok (.aload_n 3, 1) := by decide +kernel
theorem dL_law_1109 : decode cL_law 1109 = .ok (.iconst 0, 1) := by decide +kernel
theorem dL_law_1110 : decode cL_law 1110 = .ok (.laload, 1) := by decide +kernel
theorem dL_law_1111 : decode cL_law 1111 = .ok (.iload 6, 2) := by decide +kernel
theorem dL_law_1113 : decode cL_law 1113 = .ok (.i2l, 1) := by decide +kernel
theorem dL_law_1114 : decode cL_law 1114 = .ok (.lcmp, 1) := by decide +kernel
theorem dL_law_1115 : decode cL_law 1115 = .ok (.ifCond .eq 5, 3) := by decide +kernel
theorem dL_law_1118 : decode cL_law 1118 = .ok (.iconst 0, 1) := by decide +kernel
theorem dL_law_1119 : decode cL_law 1119 = .ok (.ireturn, 1) := by decide +kernel
theorem dL_law_1120 : decode cL_law 1120 = .ok (.goto 2332, 3) := by decide +kernel
theorem dL_law_1123 : decode cL_law 1123 = .ok (.aload_n 1, 1) := by decide +kernel
theorem dL_law_1124 : decode cL_law 1124 = .ok (.aload_n 0, 1) := by decide +kernel
theorem dL_law_1125 : decode cL_law 1125 = .ok (.iload 4, 2) := by decide +kernel
theorem dL_law_1127 : decode cL_law 1127 = .ok (.iconst 1, 1) := by decide +kernel
theorem dL_law_1128 : decode cL_law 1128 = .ok (.iadd, 1) := by decide +kernel
theorem dL_law_1129 : decode cL_law 1129 = .ok (.iaload, 1) := by decide +kernel
theorem dL_law_1130 : decode cL_law 1130 = .ok (.aload_n 3, 1) := by decide +kernel
theorem dL_law_1131 : decode cL_law 1131 = .ok (.invokestatic 243, 3) := by decide +kernel
theorem dL_law_1134 : decode cL_law 1134 = .ok (.istore 5, 2) := by decide +kernel
theorem dL_law_1136 : decode cL_law 1136 = .ok (.aload_n 2, 1) := by decide +kernel
theorem dL_law_1137 : decode cL_law 1137 = .ok (.aload_n 0, 1) := by decide +kernel
theorem dL_law_1138 : decode cL_law 1138 = .ok (.iload 4, 2) := by decide +kernel
theorem dL_law_1140 : decode cL_law 1140 = .ok (.iconst 1, 1) := by decide +kernel
theorem dL_law_1141 : decode cL_law 1141 = .ok (.iadd, 1) := by decide +kernel
theorem dL_law_1142 : decode cL_law 1142 = .ok (.iaload, 1) := by decide +kernel
theorem dL_law_1143 : decode cL_law 1143 = .ok (.invokevirtual 245, 3) := by decide +kernel
theorem dL_law_1146 : decode cL_law 1146 = .ok (.istore 6, 2) := by decide +kernel
theorem dL_law_1148 : decode cL_law 1148 = .ok (.aload_n 2, 1) := by decide +kernel
theorem dL_law_1149 : decode cL_law 1149 = .ok (.invokevirtual 175, 3) := by decide +kernel
theorem dL_law_1152 : decode cL_law 1152 = .ok (.iload 5, 2) := by decide +kernel
theorem dL_law_1154 : decode cL_law 1154 = .ok (.if_icmp .eq 5, 3) := by decide +kernel
theorem dL_law_1157 : decode cL_law 1157 = .ok (.iconst 0, 1) := by decide +kernel
theorem dL_law_1158 : decode cL_law 1158 = .ok (.ireturn, 1) := by decide +kernel
theorem dL_law_1159 : decode cL_law 1159 = .ok (.iload 5, 2) := by decide +kernel
theorem dL_law_1161 : decode cL_law 1161 = .ok (.ifCond .ne 15, 3) := by decide +kernel
theorem dL_law_1164 : decode cL_law 1164 = .ok (.aload_n 3, 1) := by decide +kernel
theorem dL_law_1165 : decode cL_law 1165 = .ok (.iconst 0, 1) := by decide +kernel
theorem dL_law_1166 : decode cL_law 1166 = .ok (.laload, 1) := by decide +kernel
theorem dL_law_1167 : decode cL_law 1167 = .ok (.iload 6, 2) := by decide +kernel
theorem dL_law_1169 : decode cL_law 1169 = .ok (.i2l, 1) := by decide +kernel
theorem dL_law_1170 : decode cL_law 1170 = .ok (.lcmp, 1) := by decide +kernel
theorem dL_law_1171 : decode cL_law 1171 = .ok (.ifCond .eq 5, 3) := by decide +kernel
theorem dL_law_1174 : decode cL_law 1174 = .ok (.iconst 0, 1) := by decide +kernel
theorem dL_law_1175 : decode cL_law 1175 = .ok (.ireturn, 1) := by decide +kernel
theorem dL_law_1176 : decode cL_law 1176 = .ok (.goto 2276, 3) := by decide +kernel
theorem dL_law_1179 : decode cL_law 1179 = .ok (.aload_n 1, 1) := by decide +kernel
theorem dL_law_1180 : decode cL_law 1180 = .ok (.aload_n 0, 1) := by decide +kernel
theorem dL_law_1181 : decode cL_law 1181 = .ok (.iload 4, 2) := by decide +kernel
theorem dL_law_1183 : decode cL_law 1183 = .ok (.iconst 1, 1) := by decide +kernel
theorem dL_law_1184 : decode cL_law 1184 = .ok (.iadd, 1) := by decide +kernel
theorem dL_law_1185 : decode cL_law 1185 = .ok (.iaload, 1) := by decide +kernel
theorem dL_law_1186 : decode cL_law 1186 = .ok (.aload_n 3, 1) := by decide +kernel
theorem dL_law_1187 : decode cL_law 1187 = .ok (.invokestatic 246, 3) := by decide +kernel
theorem dL_law_1190 : decode cL_law 1190 = .ok (.istore 5, 2) := by decide +kernel
theorem dL_law_1192 : decode cL_law 1192 = .ok (.aload_n 2, 1) := by decide +kernel
theorem dL_law_1193 : decode cL_law 1193 = .ok (.aload_n 0, 1) := by decide +kernel
theorem dL_law_1194 : decode cL_law 1194 = .ok (.iload 4, 2) := by decide +kernel
theorem dL_law_1196 : decode cL_law 1196 = .ok (.iconst 1, 1) := by decide +kernel
theorem dL_law_1197 : decode cL_law 1197 = .ok (.iadd, 1) := by decide +kernel
theorem dL_law_1198 : decode cL_law 1198 = .ok (.iaload, 1) := by decide +kernel
theorem dL_law_1199 : decode cL_law 1199 = .ok (.invokevirtual 248, 3) := by decide +kernel
theorem dL_law_1202 : decode cL_law 1202 = .ok (.istore 6, 2) := by decide +kernel
theorem dL_law_1204 : decode cL_law 1204 = .ok (.aload_n 2, 1) := by decide +kernel
theorem dL_law_1205 : decode cL_law 1205 = .ok (.invokevirtual 175, 3) := by decide +kernel
theorem dL_law_1208 : decode cL_law 1208 = .ok (.iload 5, 2) := by decide +kernel
theorem dL_law_1210 : decode cL_law 1210 = .ok (.if_icmp .eq 5, 3) := by decide +kernel
theorem dL_law_1213 : decode cL_law 1213 = .ok (.iconst 0, 1) := by decide +kernel
theorem dL_law_1214 : decode cL_law 1214 = .ok (.ireturn, 1) := by decide +kernel
theorem dL_law_1215 : decode cL_law 1215 = .ok (.iload 5, 2) := by decide +kernel
theorem dL_law_1217 : decode cL_law 1217 = .ok (.ifCond .ne 15, 3) := by decide +kernel
theorem dL_law_1220 : decode cL_law 1220 = .ok (.aload_n 3, 1) := by decide +kernel
theorem dL_law_1221 : decode cL_law 1221 = .ok (.iconst 0, 1) := by decide +kernel
theorem dL_law_1222 : decode cL_law 1222 = .ok (.laload, 1) := by decide +kernel
theorem dL_law_1223 : decode cL_law 1223 = .ok (.iload 6, 2) := by decide +kernel
theorem dL_law_1225 : decode cL_law 1225 = .ok (.i2l, 1) := by decide +kernel
theorem dL_law_1226 : decode cL_law 1226 = .ok (.lcmp, 1) := by decide +kernel
theorem dL_law_1227 : decode cL_law 1227 = .ok (.ifCond .eq 5, 3) := by decide +kernel
theorem dL_law_1230 : decode cL_law 1230 = .ok (.iconst 0, 1) := by decide +kernel
theorem dL_law_1231 : decode cL_law 1231 = .ok (.ireturn, 1) := by decide +kernel
theorem dL_law_1232 : decode cL_law 1232 = .ok (.goto 2220, 3) := by decide +kernel
theorem dL_law_1235 : decode cL_law 1235 = .ok (.aload_n 1, 1) := by decide +kernel
theorem dL_law_1236 : decode cL_law 1236 = .ok (.invokevirtual 249, 3) := by decide +kernel
theorem dL_law_1239 : decode cL_law 1239 = .ok (.aload_n 2, 1) := by decide +kernel
theorem dL_law_1240 : decode cL_law 1240 = .ok (.invokevirtual 252, 3) := by decide +kernel
theorem dL_law_1243 : decode cL_law 1243 = .ok (.if_icmp .eq 2209, 3) := by decide +kernel
theorem dL_law_1246 : decode cL_law 1246 = .ok (.iconst 0, 1) := by decide +kernel
theorem dL_law_1247 : decode cL_law 1247 = .ok (.ireturn, 1) := by decide +kernel
theorem dL_law_1248 : decode cL_law 1248 = .ok (.aload_n 1, 1) := by decide +kernel
theorem dL_law_1249 : decode cL_law 1249 = .ok (.aload_n 0, 1) := by decide +kernel
theorem dL_law_1250 : decode cL_law 1250 = .ok (.iload 4, 2) := by decide +kernel
theorem dL_law_1252 : decode cL_law 1252 = .ok (.iconst 1, 1) := by decide +kernel
theorem dL_law_1253 : decode cL_law 1253 = .ok (.iadd, 1) := by decide +kernel
theorem dL_law_1254 : decode cL_law 1254 = .ok (.iaload, 1) := by decide +kernel
theorem dL_law_1255 : decode cL_law 1255 = .ok (.aload_n 3, 1) := by decide +kernel
theorem dL_law_1256 : decode cL_law 1256 = .ok (.invokestatic 253, 3) := by decide +kernel
theorem dL_law_1259 : decode cL_law 1259 = .ok (.istore 5, 2) := by decide +kernel
theorem dL_law_1261 : decode cL_law 1261 = .ok (.aload_n 2, 1) := by decide +kernel
theorem dL_law_1262 : decode cL_law 1262 = .ok (.aload_n 0, 1) := by decide +kernel
theorem dL_law_1263 : decode cL_law 1263 = .ok (.iload 4, 2) := by decide +kernel
theorem dL_law_1265 : decode cL_law 1265 = .ok (.iconst 1, 1) := by decide +kernel
theorem dL_law_1266 : decode cL_law 1266 = .ok (.iadd, 1) := by decide +kernel
theorem dL_law_1267 : decode cL_law 1267 = .ok (.iaload, 1) := by decide +kernel
theorem dL_law_1268 : decode cL_law 1268 = .ok (.invokevirtual 255, 3) := by decide +kernel
theorem dL_law_1271 : decode cL_law 1271 = .ok (.istore 6, 2) := by decide +kernel
theorem dL_law_1273 : decode cL_law 1273 = .ok (.aload_n 2, 1) := by decide +kernel
theorem dL_law_1274 : decode cL_law 1274 = .ok (.invokevirtual 175, 3) := by decide +kernel
theorem dL_law_1277 : decode cL_law 1277 = .ok (.iload 5, 2) := by decide +kernel
theorem dL_law_1279 : decode cL_law 1279 = .ok (.if_icmp .eq 5, 3) := by decide +kernel
theorem dL_law_1282 : decode cL_law 1282 = .ok (.iconst 0, 1) := by decide +kernel
theorem dL_law_1283 : decode cL_law 1283 = .ok (.ireturn, 1) := by decide +kernel
theorem dL_law_1284 : decode cL_law 1284 = .ok (.iload 5, 2) := by decide +kernel
theorem dL_law_1286 : decode cL_law 1286 = .ok (.ifCond .ne 15, 3) := by decide +kernel
theorem dL_law_1289 : decode cL_law 1289 = .ok (.aload_n 3, 1) := by decide +kernel
theorem dL_law_1290 : decode cL_law 1290 = .ok (.iconst 0, 1) := by decide +kernel
theorem dL_law_1291 : decode cL_law 1291 = .ok (.laload, 1) := by decide +kernel
theorem dL_law_1292 : decode cL_law 1292 = .ok (.iload 6, 2) := by decide +kernel
theorem dL_law_1294 : decode cL_law 1294 = .ok (.i2l, 1) := by decide +kernel
theorem dL_law_1295 : decode cL_law 1295 = .ok (.lcmp, 1) := by decide +kernel
theorem dL_law_1296 : decode cL_law 1296 = .ok (.ifCond .eq 5, 3) := by decide +kernel
theorem dL_law_1299 : decode cL_law 1299 = .ok (.iconst 0, 1) := by decide +kernel
theorem dL_law_1300 : decode cL_law 1300 = .ok (.ireturn, 1) := by decide +kernel
theorem dL_law_1301 : decode cL_law 1301 = .ok (.goto 2151, 3) := by decide +kernel
theorem dL_law_1304 : decode cL_law 1304 = .ok (.aload_n 1, 1) := by decide +kernel
theorem dL_law_1305 : decode cL_law 1305 = .ok (.aload_n 0, 1) := by decide +kernel
theorem dL_law_1306 : decode cL_law 1306 = .ok (.iload 4, 2) := by decide +kernel
theorem dL_law_1308 : decode cL_law 1308 = .ok (.iconst 1, 1) := by decide +kernel
theorem dL_law_1309 : decode cL_law 1309 = .ok (.iadd, 1) := by decide +kernel
theorem dL_law_1310 : decode cL_law 1310 = .ok (.iaload, 1) := by decide +kernel
theorem dL_law_1311 : decode cL_law 1311 = .ok (.aload_n 3, 1) := by decide +kernel
theorem dL_law_1312 : decode cL_law 1312 = .ok (.invokestatic 256, 3) := by decide +kernel
theorem dL_law_1315 : decode cL_law 1315 = .ok (.istore 5, 2) := by decide +kernel
theorem dL_law_1317 : decode cL_law 1317 = .ok (.aload_n 2, 1) := by decide +kernel
theorem dL_law_1318 : decode cL_law 1318 = .ok (.aload_n 0, 1) := by decide +kernel
theorem dL_law_1319 : decode cL_law 1319 = .ok (.iload 4, 2) := by decide +kernel
theorem dL_law_1321 : decode cL_law 1321 = .ok (.iconst 1, 1) := by decide +kernel
theorem dL_law_1322 : decode cL_law 1322 = .ok (.iadd, 1) := by decide +kernel
theorem dL_law_1323 : decode cL_law 1323 = .ok (.iaload, 1) := by decide +kernel
theorem dL_law_1324 : decode cL_law 1324 = .ok (.invokevirtual 258, 3) := by decide +kernel
theorem dL_law_1327 : decode cL_law 1327 = .ok (.istore 6, 2) := by decide +kernel
theorem dL_law_1329 : decode cL_law 1329 = .ok (.aload_n 2, 1) := by decide +kernel
theorem dL_law_1330 : decode cL_law 1330 = .ok (.invokevirtual 175, 3) := by decide +kernel
theorem dL_law_1333 : decode cL_law 1333 = .ok (.iload 5, 2) := by decide +kernel
theorem dL_law_1335 : decode cL_law 1335 = .ok (.if_icmp .eq 5, 3) := by decide +kernel
theorem dL_law_1338 : decode cL_law 1338 = .ok (.iconst 0, 1) := by decide +kernel
theorem dL_law_1339 : decode cL_law 1339 = .ok (.ireturn, 1) := by decide +kernel
theorem dL_law_1340 : decode cL_law 1340 = .ok (.iload 5, 2) := by decide +kernel
theorem dL_law_1342 : decode cL_law 1342 = .ok (.ifCond .ne 15, 3) := by decide +kernel
theorem dL_law_1345 : decode cL_law 1345 = .ok (.aload_n 3, 1) := by decide +kernel
theorem dL_law_1346 : decode cL_law 1346 = .ok (.iconst 0, 1) := by decide +kernel
theorem dL_law_1347 : decode cL_law 1347 = .ok (.laload, 1) := by decide +kernel
theorem dL_law_1348 : decode cL_law 1348 = .ok (.iload 6, 2) := by decide +kernel
theorem dL_law_1350 : decode cL_law 1350 = .ok (.i2l, 1) := by decide +kernel
theorem dL_law_1351 : decode cL_law 1351 = .ok (.lcmp, 1) := by decide +kernel
theorem dL_law_1352 : decode cL_law 1352 = .ok (.ifCond .eq 5, 3) := by decide +kernel
theorem dL_law_1355 : decode cL_law 1355 = .ok (.iconst 0, 1) := by decide +kernel
theorem dL_law_1356 : decode cL_law 1356 = .ok (.ireturn, 1) := by decide +kernel
theorem dL_law_1357 : decode cL_law 1357 = .ok (.goto 2095, 3) := by decide +kernel
theorem dL_law_1360 : decode cL_law 1360 = .ok (.aload_n 1, 1) := by decide +kernel
theorem dL_law_1361 : decode cL_law 1361 = .ok (.aload_n 0, 1) := by decide +kernel
theorem dL_law_1362 : decode cL_law 1362 = .ok (.iload 4, 2) := by decide +kernel
theorem dL_law_1364 : decode cL_law 1364 = .ok (.iconst 1, 1) := by decide +kernel
theorem dL_law_1365 : decode cL_law 1365 = .ok (.iadd, 1) := by decide +kernel
theorem dL_law_1366 : decode cL_law 1366 = .ok (.iaload, 1) := by decide +kernel
theorem dL_law_1367 : decode cL_law 1367 = .ok (.aload_n 3, 1) := by decide +kernel
theorem dL_law_1368 : decode cL_law 1368 = .ok (.invokestatic 259, 3) := by decide +kernel
theorem dL_law_1371 : decode cL_law 1371 = .ok (.istore 5, 2) := by decide +kernel
theorem dL_law_1373 : decode cL_law 1373 = .ok (.aload_n 2, 1) := by decide +kernel
theorem dL_law_1374 : decode cL_law 1374 = .ok (.aload_n 0, 1) := by decide +kernel
theorem dL_law_1375 : decode cL_law 1375 = .ok (.iload 4, 2) := by decide +kernel
theorem dL_law_1377 : decode cL_law 1377 = .ok (.iconst 1, 1) := by decide +kernel
theorem dL_law_1378 : decode cL_law 1378 = .ok (.iadd, 1) := by decide +kernel
theorem dL_law_1379 : decode cL_law 1379 = .ok (.iaload, 1) := by decide +kernel
theorem dL_law_1380 : decode cL_law 1380 = .ok (.invokevirtual 261, 3) := by decide +kernel
theorem dL_law_1383 : decode cL_law 1383 = .ok (.istore 6, 2) := by decide +kernel
theorem dL_law_1385 : decode cL_law 1385 = .ok (.aload_n 2, 1) := by decide +kernel
theorem dL_law_1386 : decode cL_law 1386 = .ok (.invokevirtual 175, 3) := by decide +kernel
theorem dL_law_1389 : decode cL_law 1389 = .ok (.iload 5, 2) := by decide +kernel
theorem dL_law_1391 : decode cL_law 1391 = .ok (.if_icmp .eq 5, 3) := by decide +kernel
theorem dL_law_1394 : decode cL_law 1394 = .ok (.iconst 0, 1) := by decide +kernel
theorem dL_law_1395 : decode cL_law 1395 = .ok (.ireturn, 1) := by decide +kernel
theorem dL_law_1396 : decode cL_law 1396 = .ok (.iload 5, 2) := by decide +kernel
theorem dL_law_1398 : decode cL_law 1398 = .ok (.ifCond .ne 15, 3) := by decide +kernel
theorem dL_law_1401 : decode cL_law 1401 = .ok (.aload_n 3, 1) := by decide +kernel
theorem dL_law_1402 : decode cL_law 1402 = .ok (.iconst 0, 1) := by decide +kernel
theorem dL_law_1403 : decode cL_law 1403 = .ok (.laload, 1) := by decide +kernel
theorem dL_law_1404 : decode cL_law 1404 = .ok (.iload 6, 2) := by decide +kernel
theorem dL_law_1406 : decode cL_law 1406 = .ok (.i2l, 1) := by decide +kernel
theorem dL_law_1407 : decode cL_law 1407 = .ok (.lcmp, 1) := by decide +kernel
theorem dL_law_1408 : decode cL_law 1408 = .ok (.ifCond .eq 5, 3) := by decide +kernel
theorem dL_law_1411 : decode cL_law 1411 = .ok (.iconst 0, 1) := by decide +kernel
theorem dL_law_1412 : decode cL_law 1412 = .ok (.ireturn, 1) := by decide +kernel
theorem dL_law_1413 : decode cL_law 1413 = .ok (.goto 2039, 3) := by decide +kernel
theorem dL_law_1416 : decode cL_law 1416 = .ok (.aload_n 1, 1) := by decide +kernel
theorem dL_law_1417 : decode cL_law 1417 = .ok (.aload_n 0, 1) := by decide +kernel
theorem dL_law_1418 : decode cL_law 1418 = .ok (.iload 4, 2) := by decide +kernel
theorem dL_law_1420 : decode cL_law 1420 = .ok (.iconst 1, 1) := by decide +kernel
theorem dL_law_1421 : decode cL_law 1421 = .ok (.iadd, 1) := by decide +kernel
theorem dL_law_1422 : decode cL_law 1422 = .ok (.iaload, 1) := by decide +kernel
theorem dL_law_1423 : decode cL_law 1423 = .ok (.aload_n 3, 1) := by decide +kernel
theorem dL_law_1424 : decode cL_law 1424 = .ok (.invokestatic 262, 3) := by decide +kernel
theorem dL_law_1427 : decode cL_law 1427 = .ok (.istore 5, 2) := by decide +kernel
theorem dL_law_1429 : decode cL_law 1429 = .ok (.aload_n 2, 1) := by decide +kernel
theorem dL_law_1430 : decode cL_law 1430 = .ok (.aload_n 0, 1) := by decide +kernel
theorem dL_law_1431 : decode cL_law 1431 = .ok (.iload 4, 2) := by decide +kernel
theorem dL_law_1433 : decode cL_law 1433 = .ok (.iconst 1, 1) := by decide +kernel
theorem dL_law_1434 : decode cL_law 1434 = .ok (.iadd, 1) := by decide +kernel
theorem dL_law_1435 : decode cL_law 1435 = .ok (.iaload, 1) := by decide +kernel
theorem dL_law_1436 : decode cL_law 1436 = .ok (.invokevirtual 264, 3) := by decide +kernel
theorem dL_law_1439 : decode cL_law 1439 = .ok (.istore 6, 2) := by decide +kernel
theorem dL_law_1441 : decode cL_law 1441 = .ok (.aload_n 2, 1) := by decide +kernel
theorem dL_law_1442 : decode cL_law 1442 = .ok (.invokevirtual 175, 3) := by decide +kernel
theorem dL_law_1445 : decode cL_law 1445 = .ok (.iload 5, 2) := by decide +kernel
theorem dL_law_1447 : decode cL_law 1447 = .ok (.if_icmp .eq 5, 3) := by decide +kernel
theorem dL_law_1450 : decode cL_law 1450 = .ok (.iconst 0, 1) := by decide +kernel
theorem dL_law_1451 : decode cL_law 1451 = .ok (.ireturn, 1) := by decide +kernel
theorem dL_law_1452 : decode cL_law 1452 = .ok (.iload 5, 2) := by decide +kernel
theorem dL_law_1454 : decode cL_law 1454 = .ok (.ifCond .ne 15, 3) := by decide +kernel
theorem dL_law_1457 : decode cL_law 1457 = .ok (.aload_n 3, 1) := by decide +kernel
theorem dL_law_1458 : decode cL_law 1458 = .ok (.iconst 0, 1) := by decide +kernel
theorem dL_law_1459 : decode cL_law 1459 = .ok (.laload, 1) := by decide +kernel
theorem dL_law_1460 : decode cL_law 1460 = .ok (.iload 6, 2) := by decide +kernel
theorem dL_law_1462 : decode cL_law 1462 = .ok (.i2l, 1) := by decide +kernel
theorem dL_law_1463 : decode cL_law 1463 = .ok (.lcmp, 1) := by decide +kernel
theorem dL_law_1464 : decode cL_law 1464 = .ok (.ifCond .eq 5, 3) := by decide +kernel
theorem dL_law_1467 : decode cL_law 1467 = .ok (.iconst 0, 1) := by decide +kernel
theorem dL_law_1468 : decode cL_law 1468 = .ok (.ireturn, 1) := by decide +kernel
theorem dL_law_1469 : decode cL_law 1469 = .ok (.goto 1983, 3) := by decide +kernel
theorem dL_law_1472 : decode cL_law 1472 = .ok (.aload_n 1, 1) := by decide +kernel
theorem dL_law_1473 : decode cL_law 1473 = .ok (.aload_n 0, 1) := by decide +kernel
theorem dL_law_1474 : decode cL_law 1474 = .ok (.iload 4, 2) := by decide +kernel
theorem dL_law_1476 : decode cL_law 1476 = .ok (.iconst 1, 1) := by decide +kernel
theorem dL_law_1477 : decode cL_law 1477 = .ok (.iadd, 1) := by decide +kernel
theorem dL_law_1478 : decode cL_law 1478 = .ok (.iaload, 1) := by decide +kernel
theorem dL_law_1479 : decode cL_law 1479 = .ok (.aload_n 3, 1) := by decide +kernel
theorem dL_law_1480 : decode cL_law 1480 = .ok (.invokestatic 265, 3) := by decide +kernel
theorem dL_law_1483 : decode cL_law 1483 = .ok (.istore 5, 2) := by decide +kernel
theorem dL_law_1485 : decode cL_law 1485 = .ok (.aload_n 2, 1) := by decide +kernel
theorem dL_law_1486 : decode cL_law 1486 = .ok (.aload_n 0, 1) := by decide +kernel
theorem dL_law_1487 : decode cL_law 1487 = .ok (.iload 4, 2) := by decide +kernel
theorem dL_law_1489 : decode cL_law 1489 = .ok (.iconst 1, 1) := by decide +kernel
theorem dL_law_1490 : decode cL_law 1490 = .ok (.iadd, 1) := by decide +kernel
theorem dL_law_1491 : decode cL_law 1491 = .ok (.iaload, 1) := by decide +kernel
theorem dL_law_1492 : decode cL_law 1492 = .ok (.invokevirtual 267, 3) := by decide +kernel
theorem dL_law_1495 : decode cL_law 1495 = .ok (.istore 6, 2) := by decide +kernel
theorem dL_law_1497 : decode cL_law 1497 = .ok (.aload_n 2, 1) := by decide +kernel
theorem dL_law_1498 : decode cL_law 1498 = .ok (.invokevirtual 175, 3) := by decide +kernel
theorem dL_law_1501 : decode cL_law 1501 = .ok (.iload 5, 2) := by decide +kernel
theorem dL_law_1503 : decode cL_law 1503 = .ok (.if_icmp .eq 5, 3) := by decide +kernel
theorem dL_law_1506 : decode cL_law 1506 = .ok (.iconst 0, 1) := by decide +kernel
theorem dL_law_1507 : decode cL_law 1507 = .ok (.ireturn, 1) := by decide +kernel
theorem dL_law_1508 : decode cL_law 1508 = .ok (.iload 5, 2) := by decide +kernel
theorem dL_law_1510 : decode cL_law 1510 = .ok (.ifCond .ne 15, 3) := by decide +kernel
theorem dL_law_1513 : decode cL_law 1513 = .ok (.aload_n 3, 1) := by decide +kernel
theorem dL_law_1514 : decode cL_law 1514 = .ok (.iconst 0, 1) := by decide +kernel
theorem dL_law_1515 : decode cL_law 1515 = .ok (.laload, 1) := by decide +kernel
theorem dL_law_1516 : decode cL_law 1516 = .ok (.iload 6, 2) := by decide +kernel
theorem dL_law_1518 : decode cL_law 1518 = .ok (.i2l, 1) := by decide +kernel
theorem dL_law_1519 : decode cL_law 1519 = .ok (.lcmp, 1) := by decide +kernel
theorem dL_law_1520 : decode cL_law 1520 = .ok (.ifCond .eq 5, 3) := by decide +kernel
theorem dL_law_1523 : decode cL_law 1523 = .ok (.iconst 0, 1) := by decide +kernel
theorem dL_law_1524 : decode cL_law 1524 = .ok (.ireturn, 1) := by decide +kernel
theorem dL_law_1525 : decode cL_law 1525 = .ok (.goto 1927, 3) := by decide +kernel
theorem dL_law_1528 : decode cL_law 1528 = .ok (.aload_n 1, 1) := by decide +kernel
theorem dL_law_1529 : decode cL_law 1529 = .ok (.aload_n 0, 1) := by decide +kernel
theorem dL_law_1530 : decode cL_law 1530 = .ok (.iload 4, 2) := by decide +kernel
theorem dL_law_1532 : decode cL_law 1532 = .ok (.iconst 1, 1) := by decide +kernel
theorem dL_law_1533 : decode cL_law 1533 = .ok (.iadd, 1) := by decide +kernel
theorem dL_law_1534 : decode cL_law 1534 = .ok (.iaload, 1) := by decide +kernel
theorem dL_law_1535 : decode cL_law 1535 = .ok (.aload_n 3, 1) := by decide +kernel
theorem dL_law_1536 : decode cL_law 1536 = .ok (.invokestatic 268, 3) := by decide +kernel
theorem dL_law_1539 : decode cL_law 1539 = .ok (.istore 5, 2) := by decide +kernel
theorem dL_law_1541 : decode cL_law 1541 = .ok (.aload_n 2, 1) := by decide +kernel
theorem dL_law_1542 : decode cL_law 1542 = .ok (.aload_n 0, 1) := by decide +kernel
theorem dL_law_1543 : decode cL_law 1543 = .ok (.iload 4, 2) := by decide +kernel
theorem dL_law_1545 : decode cL_law 1545 = .ok (.iconst 1, 1) := by decide +kernel
theorem dL_law_1546 : decode cL_law 1546 = .ok (.iadd, 1) := by decide +kernel
theorem dL_law_1547 : decode cL_law 1547 = .ok (.iaload, 1) := by decide +kernel
theorem dL_law_1548 : decode cL_law 1548 = .ok (.invokevirtual 270, 3) := by decide +kernel
theorem dL_law_1551 : decode cL_law 1551 = .ok (.istore 6, 2) := by decide +kernel
theorem dL_law_1553 : decode cL_law 1553 = .ok (.aload_n 2, 1) := by decide +kernel
theorem dL_law_1554 : decode cL_law 1554 = .ok (.invokevirtual 175, 3) := by decide +kernel
theorem dL_law_1557 : decode cL_law 1557 = .ok (.iload 5, 2) := by decide +kernel
theorem dL_law_1559 : decode cL_law 1559 = .ok (.if_icmp .eq 5, 3) := by decide +kernel
theorem dL_law_1562 : decode cL_law 1562 = .ok (.iconst 0, 1) := by decide +kernel
theorem dL_law_1563 : decode cL_law 1563 = .ok (.ireturn, 1) := by decide +kernel
theorem dL_law_1564 : decode cL_law 1564 = .ok (.iload 5, 2) := by decide +kernel
theorem dL_law_1566 : decode cL_law 1566 = .ok (.ifCond .ne 15, 3) := by decide +kernel
theorem dL_law_1569 : decode cL_law 1569 = .ok (.aload_n 3, 1) := by decide +kernel
theorem dL_law_1570 : decode cL_law 1570 = .ok (.iconst 0, 1) := by decide +kernel
theorem dL_law_1571 : decode cL_law 1571 = .ok (.laload, 1) := by decide +kernel
theorem dL_law_1572 : decode cL_law 1572 = .ok (.iload 6, 2) := by decide +kernel
theorem dL_law_1574 : decode cL_law 1574 = .ok (.i2l, 1) := by decide +kernel
theorem dL_law_1575 : decode cL_law 1575 = .ok (.lcmp, 1) := by decide +kernel
theorem dL_law_1576 : decode cL_law 1576 = .ok (.ifCond .eq 5, 3) := by decide +kernel
theorem dL_law_1579 : decode cL_law 1579 = .ok (.iconst 0, 1) := by decide +kernel
theorem dL_law_1580 : decode cL_law 1580 = .ok (.ireturn, 1) := by decide +kernel
theorem dL_law_1581 : decode cL_law 1581 = .ok (.goto 1871, 3) := by decide +kernel
theorem dL_law_1584 : decode cL_law 1584 = .ok (.aload_n 1, 1) := by decide +kernel
theorem dL_law_1585 : decode cL_law 1585 = .ok (.aload_n 0, 1) := by decide +kernel
theorem dL_law_1586 : decode cL_law 1586 = .ok (.iload 4, 2) := by decide +kernel
theorem dL_law_1588 : decode cL_law 1588 = .ok (.iconst 1, 1) := by decide +kernel
theorem dL_law_1589 : decode cL_law 1589 = .ok (.iadd, 1) := by decide +kernel
theorem dL_law_1590 : decode cL_law 1590 = .ok (.iaload, 1) := by decide +kernel
theorem dL_law_1591 : decode cL_law 1591 = .ok (.aload_n 3, 1) := by decide +kernel
theorem dL_law_1592 : decode cL_law 1592 = .ok (.invokestatic 271, 3) := by decide +kernel
theorem dL_law_1595 : decode cL_law 1595 = .ok (.istore 5, 2) := by decide +kernel
theorem dL_law_1597 : decode cL_law 1597 = .ok (.aload_n 2, 1) := by decide +kernel
theorem dL_law_1598 : decode cL_law 1598 = .ok (.aload_n 0, 1) := by decide +kernel
theorem dL_law_1599 : decode cL_law 1599 = .ok (.iload 4, 2) := by decide +kernel
theorem dL_law_1601 : decode cL_law 1601 = .ok (.iconst 1, 1) := by decide +kernel
theorem dL_law_1602 : decode cL_law 1602 = .ok (.iadd, 1) := by decide +kernel
theorem dL_law_1603 : decode cL_law 1603 = .ok (.iaload, 1) := by decide +kernel
theorem dL_law_1604 : decode cL_law 1604 = .ok (.invokevirtual 273, 3) := by decide +kernel
theorem dL_law_1607 : decode cL_law 1607 = .ok (.istore 6, 2) := by decide +kernel
theorem dL_law_1609 : decode cL_law 1609 = .ok (.aload_n 2, 1) := by decide +kernel
theorem dL_law_1610 : decode cL_law 1610 = .ok (.invokevirtual 175, 3) := by decide +kernel
theorem dL_law_1613 : decode cL_law 1613 = .ok (.iload 5, 2) := by decide +kernel
theorem dL_law_1615 : decode cL_law 1615 = .ok (.if_icmp .eq 5, 3) := by decide +kernel
theorem dL_law_1618 : decode cL_law 1618 = .ok (.iconst 0, 1) := by decide +kernel
theorem dL_law_1619 : decode cL_law 1619 = .ok (.ireturn, 1) := by decide +kernel
theorem dL_law_1620 : decode cL_law 1620 = .ok (.iload 5, 2) := by decide +kernel
theorem dL_law_1622 : decode cL_law 1622 = .ok (.ifCond .ne 15, 3) := by decide +kernel
theorem dL_law_1625 : decode cL_law 1625 = .ok (.aload_n 3, 1) := by decide +kernel
theorem dL_law_1626 : decode cL_law 1626 = .ok (.iconst 0, 1) := by decide +kernel
theorem dL_law_1627 : decode cL_law 1627 = .ok (.laload, 1) := by decide +kernel
theorem dL_law_1628 : decode cL_law 1628 = .ok (.iload 6, 2) := by decide +kernel
theorem dL_law_1630 : decode cL_law 1630 = .ok (.i2l, 1) := by decide +kernel
theorem dL_law_1631 : decode cL_law 1631 = .ok (.lcmp, 1) := by decide +kernel
theorem dL_law_1632 : decode cL_law 1632 = .ok (.ifCond .eq 5, 3) := by decide +kernel
theorem dL_law_1635 : decode cL_law 1635 = .ok (.iconst 0, 1) := by decide +kernel
theorem dL_law_1636 : decode cL_law 1636 = .ok (.ireturn, 1) := by decide +kernel
theorem dL_law_1637 : decode cL_law 1637 = .ok (.goto 1815, 3) := by decide +kernel
theorem dL_law_1640 : decode cL_law 1640 = .ok (.aload_n 1, 1) := by decide +kernel
theorem dL_law_1641 : decode cL_law 1641 = .ok (.aload_n 0, 1) := by decide +kernel
theorem dL_law_1642 : decode cL_law 1642 = .ok (.iload 4, 2) := by decide +kernel
theorem dL_law_1644 : decode cL_law 1644 = .ok (.iconst 1, 1) := by decide +kernel
theorem dL_law_1645 : decode cL_law 1645 = .ok (.iadd, 1) := by decide +kernel
theorem dL_law_1646 : decode cL_law 1646 = .ok (.iaload, 1) := by decide +kernel
theorem dL_law_1647 : decode cL_law 1647 = .ok (.aload_n 3, 1) := by decide +kernel
theorem dL_law_1648 : decode cL_law 1648 = .ok (.invokestatic 274, 3) := by decide +kernel
theorem dL_law_1651 : decode cL_law 1651 = .ok (.istore 5, 2) := by decide +kernel
theorem dL_law_1653 : decode cL_law 1653 = .ok (.aload_n 2, 1) := by decide +kernel
theorem dL_law_1654 : decode cL_law 1654 = .ok (.aload_n 0, 1) := by decide +kernel
theorem dL_law_1655 : decode cL_law 1655 = .ok (.iload 4, 2) := by decide +kernel
theorem dL_law_1657 : decode cL_law 1657 = .ok (.iconst 1, 1) := by decide +kernel
theorem dL_law_1658 : decode cL_law 1658 = .ok (.iadd, 1) := by decide +kernel
theorem dL_law_1659 : decode cL_law 1659 = .ok (.iaload, 1) := by decide +kernel
theorem dL_law_1660 : decode cL_law 1660 = .ok (.invokevirtual 276, 3) := by decide +kernel
theorem dL_law_1663 : decode cL_law 1663 = .ok (.istore 6, 2) := by decide +kernel
theorem dL_law_1665 : decode cL_law 1665 = .ok (.aload_n 2, 1) := by decide +kernel
theorem dL_law_1666 : decode cL_law 1666 = .ok (.invokevirtual 175, 3) := by decide +kernel
theorem dL_law_1669 : decode cL_law 1669 = .ok (.iload 5, 2) := by decide +kernel
theorem dL_law_1671 : decode cL_law 1671 = .ok (.if_icmp .eq 5, 3) := by decide +kernel
theorem dL_law_1674 : decode cL_law 1674 = .ok (.iconst 0, 1) := by decide +kernel
theorem dL_law_1675 : decode cL_law 1675 = .ok (.ireturn, 1) := by decide +kernel
theorem dL_law_1676 : decode cL_law 1676 = .ok (.iload 5, 2) := by decide +kernel
theorem dL_law_1678 : decode cL_law 1678 = .ok (.ifCond .ne 15, 3) := by decide +kernel
theorem dL_law_1681 : decode cL_law 1681 = .ok (.aload_n 3, 1) := by decide +kernel
theorem dL_law_1682 : decode cL_law 1682 = .ok (.iconst 0, 1) := by decide +kernel
theorem dL_law_1683 : decode cL_law 1683 = .ok (.laload, 1) := by decide +kernel
theorem dL_law_1684 : decode cL_law 1684 = .ok (.iload 6, 2) := by decide +kernel
theorem dL_law_1686 : decode cL_law 1686 = .ok (.i2l, 1) := by decide +kernel
theorem dL_law_1687 : decode cL_law 1687 = .ok (.lcmp, 1) := by decide +kernel
theorem dL_law_1688 : decode cL_law 1688 = .ok (.ifCond .eq 5, 3) := by decide +kernel
theorem dL_law_1691 : decode cL_law 1691 = .ok (.iconst 0, 1) := by decide +kernel
theorem dL_law_1692 : decode cL_law 1692 = .ok (.ireturn, 1) := by decide +kernel
theorem dL_law_1693 : decode cL_law 1693 = .ok (.goto 1759, 3) := by decide +kernel
theorem dL_law_1696 : decode cL_law 1696 = .ok (.aload_n 1, 1) := by decide +kernel
theorem dL_law_1697 : decode cL_law 1697 = .ok (.aload_n 0, 1) := by decide +kernel
theorem dL_law_1698 : decode cL_law 1698 = .ok (.iload 4, 2) := by decide +kernel
theorem dL_law_1700 : decode cL_law 1700 = .ok (.iconst 1, 1) := by decide +kernel
theorem dL_law_1701 : decode cL_law 1701 = .ok (.iadd, 1) := by decide +kernel
theorem dL_law_1702 : decode cL_law 1702 = .ok (.iaload, 1) := by decide +kernel
theorem dL_law_1703 : decode cL_law 1703 = .ok (.aload_n 3, 1) := by decide +kernel
theorem dL_law_1704 : decode cL_law 1704 = .ok (.invokestatic 277, 3) := by decide +kernel
theorem dL_law_1707 : decode cL_law 1707 = .ok (.istore 5, 2) := by decide +kernel
theorem dL_law_1709 : decode cL_law 1709 = .ok (.aload_n 2, 1) := by decide +kernel
theorem dL_law_1710 : decode cL_law 1710 = .ok (.aload_n 0, 1) := by decide +kernel
theorem dL_law_1711 : decode cL_law 1711 = .ok (.iload 4, 2) := by decide +kernel
theorem dL_law_1713 : decode cL_law 1713 = .ok (.iconst 1, 1) := by decide +kernel
theorem dL_law_1714 : decode cL_law 1714 = .ok (.iadd, 1) := by decide +kernel
theorem dL_law_1715 : decode cL_law 1715 = .ok (.iaload, 1) := by decide +kernel
theorem dL_law_1716 : decode cL_law 1716 = .ok (.invokevirtual 279, 3) := by decide +kernel
theorem dL_law_1719 : decode cL_law 1719 = .ok (.istore 6, 2) := by decide +kernel
theorem dL_law_1721 : decode cL_law 1721 = .ok (.aload_n 2, 1) := by decide +kernel
theorem dL_law_1722 : decode cL_law 1722 = .ok (.invokevirtual 175, 3) := by decide +kernel
theorem dL_law_1725 : decode cL_law 1725 = .ok (.iload 5, 2) := by decide +kernel
theorem dL_law_1727 : decode cL_law 1727 = .ok (.if_icmp .eq 5, 3) := by decide +kernel
theorem dL_law_1730 : decode cL_law 1730 = .ok (.iconst 0, 1) := by decide +kernel
theorem dL_law_1731 : decode cL_law 1731 = .ok (.ireturn, 1) := by decide +kernel
theorem dL_law_1732 : decode cL_law 1732 = .ok (.iload 5, 2) := by decide +kernel
theorem dL_law_1734 : decode cL_law 1734 = .ok (.ifCond .ne 15, 3) := by decide +kernel
theorem dL_law_1737 : decode cL_law 1737 = .ok (.aload_n 3, 1) := by decide +kernel
theorem dL_law_1738 : decode cL_law 1738 = .ok (.iconst 0, 1) := by decide +kernel
theorem dL_law_1739 : decode cL_law 1739 = .ok (.laload, 1) := by decide +kernel
theorem dL_law_1740 : decode cL_law 1740 = .ok (.iload 6, 2) := by decide +kernel
theorem dL_law_1742 : decode cL_law 1742 = .ok (.i2l, 1) := by decide +kernel
theorem dL_law_1743 : decode cL_law 1743 = .ok (.lcmp, 1) := by decide +kernel
theorem dL_law_1744 : decode cL_law 1744 = .ok (.ifCond .eq 5, 3) := by decide +kernel
theorem dL_law_1747 : decode cL_law 1747 = .ok (.iconst 0, 1) := by decide +kernel
theorem dL_law_1748 : decode cL_law 1748 = .ok (.ireturn, 1) := by decide +kernel
theorem dL_law_1749 : decode cL_law 1749 = .ok (.goto 1703, 3) := by decide +kernel
theorem dL_law_1752 : decode cL_law 1752 = .ok (.aload_n 1, 1) := by decide +kernel
theorem dL_law_1753 : decode cL_law 1753 = .ok (.aload_n 0, 1) := by decide +kernel
theorem dL_law_1754 : decode cL_law 1754 = .ok (.iload 4, 2) := by decide +kernel
theorem dL_law_1756 : decode cL_law 1756 = .ok (.iconst 1, 1) := by decide +kernel
theorem dL_law_1757 : decode cL_law 1757 = .ok (.iadd, 1) := by decide +kernel
theorem dL_law_1758 : decode cL_law 1758 = .ok (.iaload, 1) := by decide +kernel
theorem dL_law_1759 : decode cL_law 1759 = .ok (.aload_n 3, 1) := by decide +kernel
theorem dL_law_1760 : decode cL_law 1760 = .ok (.invokestatic 280, 3) := by decide +kernel
theorem dL_law_1763 : decode cL_law 1763 = .ok (.istore 5, 2) := by decide +kernel
theorem dL_law_1765 : decode cL_law 1765 = .ok (.aload_n 2, 1) := by decide +kernel
theorem dL_law_1766 : decode cL_law 1766 = .ok (.aload_n 0, 1) := by decide +kernel
theorem dL_law_1767 : decode cL_law 1767 = .ok (.iload 4, 2) := by decide +kernel
theorem dL_law_1769 : decode cL_law 1769 = .ok (.iconst 1, 1) := by decide +kernel
theorem dL_law_1770 : decode cL_law 1770 = .ok (.iadd, 1) := by decide +kernel
theorem dL_law_1771 : decode cL_law 1771 = .ok (.iaload, 1) := by decide +kernel
theorem dL_law_1772 : decode cL_law 1772 = .ok (.invokevirtual 282, 3) := by decide +kernel
theorem dL_law_1775 : decode cL_law 1775 = .ok (.istore 6, 2) := by decide +kernel
theorem dL_law_1777 : decode cL_law 1777 = .ok (.aload_n 2, 1) := by decide +kernel
theorem dL_law_1778 : decode cL_law 1778 = .ok (.invokevirtual 175, 3) := by decide +kernel
theorem dL_law_1781 : decode cL_law 1781 = .ok (.iload 5, 2) := by decide +kernel
theorem dL_law_1783 : decode cL_law 1783 = .ok (.if_icmp .eq 5, 3) := by decide +kernel
theorem dL_law_1786 : decode cL_law 1786 = .ok (.iconst 0, 1) := by decide +kernel
theorem dL_law_1787 : decode cL_law 1787 = .ok (.ireturn, 1) := by decide +kernel
theorem dL_law_1788 : decode cL_law 1788 = .ok (.iload 5, 2) := by decide +kernel
theorem dL_law_1790 : decode cL_law 1790 = .ok (.ifCond .ne 22, 3) := by decide +kernel
theorem dL_law_1793 : decode cL_law 1793 = .ok (.aload_n 3, 1) := by decide +kernel
theorem dL_law_1794 : decode cL_law 1794 = .ok (.iconst 0, 1) := by decide +kernel
theorem dL_law_1795 : decode cL_law 1795 = .ok (.laload, 1) := by decide +kernel
theorem dL_law_1796 : decode cL_law 1796 = .ok (.iload 6, 2) := by decide +kernel
theorem dL_law_1798 : decode cL_law 1798 = .ok (.ifCond .eq 7, 3) := by decide +kernel
theorem dL_law_1801 : decode cL_law 1801 = .ok (.lconst 1, 1) := by decide +kernel
theorem dL_law_1802 : decode cL_law 1802 = .ok (.goto 4, 3) := by decide +kernel
theorem dL_law_1805 : decode cL_law 1805 = .ok (.lconst 0, 1) := by decide +kernel
theorem dL_law_1806 : decode cL_law 1806 = .ok (.lcmp, 1) := by decide +kernel
theorem dL_law_1807 : decode cL_law 1807 = .ok (.ifCond .eq 5, 3) := by decide +kernel
theorem dL_law_1810 : decode cL_law 1810 = .ok (.iconst 0, 1) := by decide +kernel
theorem dL_law_1811 : decode cL_law 1811 = .ok (.ireturn, 1) := by decide +kernel
theorem dL_law_1812 : decode cL_law 1812 = .ok (.goto 1640, 3) := by decide +kernel
theorem dL_law_1815 : decode cL_law 1815 = .ok (.aload_n 1, 1) := by decide +kernel
theorem dL_law_1816 : decode cL_law 1816 = .ok (.aload_n 0, 1) := by decide +kernel
theorem dL_law_1817 : decode cL_law 1817 = .ok (.iload 4, 2) := by decide +kernel
theorem dL_law_1819 : decode cL_law 1819 = .ok (.iconst 1, 1) := by decide +kernel
theorem dL_law_1820 : decode cL_law 1820 = .ok (.iadd, 1) := by decide +kernel
theorem dL_law_1821 : decode cL_law 1821 = .ok (.iaload, 1) := by decide +kernel
theorem dL_law_1822 : decode cL_law 1822 = .ok (.aload_n 3, 1) := by decide +kernel
theorem dL_law_1823 : decode cL_law 1823 = .ok (.invokestatic 283, 3) := by decide +kernel
theorem dL_law_1826 : decode cL_law 1826 = .ok (.istore 5, 2) := by decide +kernel
theorem dL_law_1828 : decode cL_law 1828 = .ok (.aload_n 2, 1) := by decide +kernel
theorem dL_law_1829 : decode cL_law 1829 = .ok (.aload_n 0, 1) := by decide +kernel
theorem dL_law_1830 : decode cL_law 1830 = .ok (.iload 4, 2) := by decide +kernel
theorem dL_law_1832 : decode cL_law 1832 = .ok (.iconst 1, 1) := by decide +kernel
theorem dL_law_1833 : decode cL_law 1833 = .ok (.iadd, 1) := by decide +kernel
theorem dL_law_1834 : decode cL_law 1834 = .ok (.iaload, 1) := by decide +kernel
theorem dL_law_1835 : decode cL_law 1835 = .ok (.invokevirtual 285, 3) := by decide +kernel
theorem dL_law_1838 : decode cL_law 1838 = .ok (.istore 6, 2) := by decide +kernel
theorem dL_law_1840 : decode cL_law 1840 = .ok (.aload_n 2, 1) := by decide +kernel
theorem dL_law_1841 : decode cL_law 1841 = .ok (.invokevirtual 175, 3) := by decide +kernel
theorem dL_law_1844 : decode cL_law 1844 = .ok (.iload 5, 2) := by decide +kernel
theorem dL_law_1846 : decode cL_law 1846 = .ok (.if_icmp .eq 5, 3) := by decide +kernel
theorem dL_law_1849 : decode cL_law 1849 = .ok (.iconst 0, 1) := by decide +kernel
theorem dL_law_1850 : decode cL_law 1850 = .ok (.ireturn, 1) := by decide +kernel
theorem dL_law_1851 : decode cL_law 1851 = .ok (.iload 5, 2) := by decide +kernel
theorem dL_law_1853 : decode cL_law 1853 = .ok (.ifCond .ne 22, 3) := by decide +kernel
theorem dL_law_1856 : decode cL_law 1856 = .ok (.aload_n 3, 1) := by decide +kernel
theorem dL_law_1857 : decode cL_law 1857 = .ok (.iconst 0, 1) := by decide +kernel
theorem dL_law_1858 : decode cL_law 1858 = .ok (.laload, 1) := by decide +kernel
theorem dL_law_1859 : decode cL_law 1859 = .ok (.iload 6, 2) := by decide +kernel
theorem dL_law_1861 : decode cL_law 1861 = .ok (.ifCond .eq 7, 3) := by decide +kernel
theorem dL_law_1864 : decode cL_law 1864 = .ok (.lconst 1, 1) := by decide +kernel
theorem dL_law_1865 : decode cL_law 1865 = .ok (.goto 4, 3) := by decide +kernel
theorem dL_law_1868 : decode cL_law 1868 = .ok (.lconst 0, 1) := by decide +kernel
theorem dL_law_1869 : decode cL_law 1869 = .ok (.lcmp, 1) := by decide +kernel
theorem dL_law_1870 : decode cL_law 1870 = .ok (.ifCond .eq 5, 3) := by decide +kernel
theorem dL_law_1873 : decode cL_law 1873 = .ok (.iconst 0, 1) := by decide +kernel
theorem dL_law_1874 : decode cL_law 1874 = .ok (.ireturn, 1) := by decide +kernel
theorem dL_law_1875 : decode cL_law 1875 = .ok (.goto 1577, 3) := by decide +kernel
theorem dL_law_1878 : decode cL_law 1878 = .ok (.aload_n 1, 1) := by decide +kernel
theorem dL_law_1879 : decode cL_law 1879 = .ok (.aload_n 0, 1) := by decide +kernel
theorem dL_law_1880 : decode cL_law 1880 = .ok (.iload 4, 2) := by decide +kernel
theorem dL_law_1882 : decode cL_law 1882 = .ok (.iconst 1, 1) := by decide +kernel
theorem dL_law_1883 : decode cL_law 1883 = .ok (.iadd, 1) := by decide +kernel
theorem dL_law_1884 : decode cL_law 1884 = .ok (.iaload, 1) := by decide +kernel
theorem dL_law_1885 : decode cL_law 1885 = .ok (.aload_n 3, 1) := by decide +kernel
theorem dL_law_1886 : decode cL_law 1886 = .ok (.invokestatic 286, 3) := by decide +kernel
theorem dL_law_1889 : decode cL_law 1889 = .ok (.istore 5, 2) := by decide +kernel
theorem dL_law_1891 : decode cL_law 1891 = .ok (.aload_n 2, 1) := by decide +kernel
theorem dL_law_1892 : decode cL_law 1892 = .ok (.aload_n 0, 1) := by decide +kernel
theorem dL_law_1893 : decode cL_law 1893 = .ok (.iload 4, 2) := by decide +kernel
theorem dL_law_1895 : decode cL_law 1895 = .ok (.iconst 1, 1) := by decide +kernel
theorem dL_law_1896 : decode cL_law 1896 = .ok (.iadd, 1) := by decide +kernel
theorem dL_law_1897 : decode cL_law 1897 = .ok (.iaload, 1) := by decide +kernel
theorem dL_law_1898 : decode cL_law 1898 = .ok (.invokevirtual 288, 3) := by decide +kernel
theorem dL_law_1901 : decode cL_law 1901 = .ok (.istore 6, 2) := by decide +kernel
theorem dL_law_1903 : decode cL_law 1903 = .ok (.aload_n 2, 1) := by decide +kernel
theorem dL_law_1904 : decode cL_law 1904 = .ok (.invokevirtual 175, 3) := by decide +kernel
theorem dL_law_1907 : decode cL_law 1907 = .ok (.iload 5, 2) := by decide +kernel
theorem dL_law_1909 : decode cL_law 1909 = .ok (.if_icmp .eq 5, 3) := by decide +kernel
theorem dL_law_1912 : decode cL_law 1912 = .ok (.iconst 0, 1) := by decide +kernel
theorem dL_law_1913 : decode cL_law 1913 = .ok (.ireturn, 1) := by decide +kernel
theorem dL_law_1914 : decode cL_law 1914 = .ok (.iload 5, 2) := by decide +kernel
theorem dL_law_1916 : decode cL_law 1916 = .ok (.ifCond .ne 15, 3) := by decide +kernel
theorem dL_law_1919 : decode cL_law 1919 = .ok (.aload_n 3, 1) := by decide +kernel
theorem dL_law_1920 : decode cL_law 1920 = .ok (.iconst 0, 1) := by decide +kernel
theorem dL_law_1921 : decode cL_law 1921 = .ok (.laload, 1) := by decide +kernel
theorem dL_law_1922 : decode cL_law 1922 = .ok (.iload 6, 2) := by decide +kernel
theorem dL_law_1924 : decode cL_law 1924 = .ok (.i2l, 1) := by decide +kernel
theorem dL_law_1925 : decode cL_law 1925 = .ok (.lcmp, 1) := by decide +kernel
theorem dL_law_1926 : decode cL_law 1926 = .ok (.ifCond .eq 5, 3) := by decide +kernel
theorem dL_law_1929 : decode cL_law 1929 = .ok (.iconst 0, 1) := by decide +kernel
theorem dL_law_1930 : decode cL_law 1930 = .ok (.ireturn, 1) := by decide +kernel
theorem dL_law_1931 : decode cL_law 1931 = .ok (.goto 1521, 3) := by decide +kernel
theorem dL_law_1934 : decode cL_law 1934 = .ok (.aload_n 1, 1) := by decide +kernel
theorem dL_law_1935 : decode cL_law 1935 = .ok (.aload_n 0, 1) := by decide +kernel
theorem dL_law_1936 : decode cL_law 1936 = .ok (.iload 4, 2) := by decide +kernel
theorem dL_law_1938 : decode cL_law 1938 = .ok (.iconst 1, 1) := by decide +kernel
theorem dL_law_1939 : decode cL_law 1939 = .ok (.iadd, 1) := by decide +kernel
theorem dL_law_1940 : decode cL_law 1940 = .ok (.iaload, 1) := by decide +kernel
theorem dL_law_1941 : decode cL_law 1941 = .ok (.aload_n 0, 1) := by decide +kernel
theorem dL_law_1942 : decode cL_law 1942 = .ok (.iload 4, 2) := by decide +kernel
theorem dL_law_1944 : decode cL_law 1944 = .ok (.iconst 2, 1) := by decide +kernel
theorem dL_law_1945 : decode cL_law 1945 = .ok (.iadd, 1) := by decide +kernel
theorem dL_law_1946 : decode cL_law 1946 = .ok (.iaload, 1) := by decide +kernel
theorem dL_law_1947 : decode cL_law 1947 = .ok (.aload_n 3, 1) := by decide +kernel
theorem dL_law_1948 : decode cL_law 1948 = .ok (.invokestatic 289, 3) := by decide +kernel
theorem dL_law_1951 : decode cL_law 1951 = .ok (.istore 5, 2) := by decide +kernel
theorem dL_law_1953 : decode cL_law 1953 = .ok (.aload_n 2, 1) := by decide +kernel
theorem dL_law_1954 : decode cL_law 1954 = .ok (.aload_n 0, 1) := by decide +kernel
theorem dL_law_1955 : decode cL_law 1955 = .ok (.iload 4, 2) := by decide +kernel
theorem dL_law_1957 : decode cL_law 1957 = .ok (.iconst 1, 1) := by decide +kernel
theorem dL_law_1958 : decode cL_law 1958 = .ok (.iadd, 1) := by decide +kernel
theorem dL_law_1959 : decode cL_law 1959 = .ok (.iaload, 1) := by decide +kernel
theorem dL_law_1960 : decode cL_law 1960 = .ok (.aload_n 0, 1) := by decide +kernel
theorem dL_law_1961 : decode cL_law 1961 = .ok (.iload 4, 2) := by decide +kernel
theorem dL_law_1963 : decode cL_law 1963 = .ok (.iconst 2, 1) := by decide +kernel
theorem dL_law_1964 : decode cL_law 1964 = .ok (.iadd, 1) := by decide +kernel
theorem dL_law_1965 : decode cL_law 1965 = .ok (.iaload, 1) := by decide +kernel
theorem dL_law_1966 : decode cL_law 1966 = .ok (.invokevirtual 291, 3) := by decide +kernel
theorem dL_law_1969 : decode cL_law 1969 = .ok (.istore 6, 2) := by decide +kernel
theorem dL_law_1971 : decode cL_law 1971 = .ok (.aload_n 2, 1) := by decide +kernel
theorem dL_law_1972 : decode cL_law 1972 = .ok (.invokevirtual 175, 3) := by decide +kernel
theorem dL_law_1975 : decode cL_law 1975 = .ok (.iload 5, 2) := by decide +kernel
theorem dL_law_1977 : decode cL_law 1977 = .ok (.if_icmp .eq 5, 3) := by decide +kernel
theorem dL_law_1980 : decode cL_law 1980 = .ok (.iconst 0, 1) := by decide +kernel
theorem dL_law_1981 : decode cL_law 1981 = .ok (.ireturn, 1) := by decide +kernel
theorem dL_law_1982 : decode cL_law 1982 = .ok (.iload 5, 2) := by decide +kernel
theorem dL_law_1984 : decode cL_law 1984 = .ok (.ifCond .ne 15, 3) := by decide +kernel
theorem dL_law_1987 : decode cL_law 1987 = .ok (.aload_n 3, 1) := by decide +kernel
theorem dL_law_1988 : decode cL_law 1988 = .ok (.iconst 0, 1) := by decide +kernel
theorem dL_law_1989 : decode cL_law 1989 = .ok (.laload, 1) := by decide +kernel
theorem dL_law_1990 : decode cL_law 1990 = .ok (.iload 6, 2) := by decide +kernel
theorem dL_law_1992 : decode cL_law 1992 = .ok (.i2l, 1) := by decide +kernel
theorem dL_law_1993 : decode cL_law 1993 = .ok (.lcmp, 1) := by decide +kernel
theorem dL_law_1994 : decode cL_law 1994 = .ok (.ifCond .eq 5, 3) := by decide +kernel
theorem dL_law_1997 : decode cL_law 1997 = .ok (.iconst 0, 1) := by decide +kernel
theorem dL_law_1998 : decode cL_law 1998 = .ok (.ireturn, 1) := by decide +kernel
theorem dL_law_1999 : decode cL_law 1999 = .ok (.goto 1453, 3) := by decide +kernel
theorem dL_law_2002 : decode cL_law 2002 = .ok (.aload_n 1, 1) := by decide +kernel
theorem dL_law_2003 : decode cL_law 2003 = .ok (.aload_n 0, 1) := by decide +kernel
theorem dL_law_2004 : decode cL_law 2004 = .ok (.iload 4, 2) := by decide +kernel
theorem dL_law_2006 : decode cL_law 2006 = .ok (.iconst 1, 1) := by decide +kernel
theorem dL_law_2007 : decode cL_law 2007 = .ok (.iadd, 1) := by decide +kernel
theorem dL_law_2008 : decode cL_law 2008 = .ok (.iaload, 1) := by decide +kernel
theorem dL_law_2009 : decode cL_law 2009 = .ok (.aload_n 0, 1) := by decide +kernel
theorem dL_law_2010 : decode cL_law 2010 = .ok (.iload 4, 2) := by decide +kernel
theorem dL_law_2012 : decode cL_law 2012 = .ok (.iconst 2, 1) := by decide +kernel
theorem dL_law_2013 : decode cL_law 2013 = .ok (.iadd, 1) := by decide +kernel
theorem dL_law_2014 : decode cL_law 2014 = .ok (.iaload, 1) := by decide +kernel
theorem dL_law_2015 : decode cL_law 2015 = .ok (.aload_n 3, 1) := by decide +kernel
theorem dL_law_2016 : decode cL_law 2016 = .ok (.invokestatic 292, 3) := by decide +kernel
theorem dL_law_2019 : decode cL_law 2019 = .ok (.istore 5, 2) := by decide +kernel
theorem dL_law_2021 : decode cL_law 2021 = .ok (.aload_n 2, 1) := by decide +kernel
theorem dL_law_2022 : decode cL_law 2022 = .ok (.aload_n 0, 1) := by decide +kernel
theorem dL_law_2023 : decode cL_law 2023 = .ok (.iload 4, 2) := by decide +kernel
theorem dL_law_2025 : decode cL_law 2025 = .ok (.iconst 1, 1) := by decide +kernel
theorem dL_law_2026 : decode cL_law 2026 = .ok (.iadd, 1) := by decide +kernel
theorem dL_law_2027 : decode cL_law 2027 = .ok (.iaload, 1) := by decide +kernel
theorem dL_law_2028 : decode cL_law 2028 = .ok (.aload_n 0, 1) := by decide +kernel
theorem dL_law_2029 : decode cL_law 2029 = .ok (.iload 4, 2) := by decide +kernel
theorem dL_law_2031 : decode cL_law 2031 = .ok (.iconst 2, 1) := by decide +kernel
theorem dL_law_2032 : decode cL_law 2032 = .ok (.iadd, 1) := by decide +kernel
theorem dL_law_2033 : decode cL_law 2033 = .ok (.iaload, 1) := by decide +kernel
theorem dL_law_2034 : decode cL_law 2034 = .ok (.invokevirtual 294, 3) := by decide +kernel
theorem dL_law_2037 : decode cL_law 2037 = .ok (.istore 6, 2) := by decide +kernel
theorem dL_law_2039 : decode cL_law 2039 = .ok (.aload_n 2, 1) := by decide +kernel
theorem dL_law_2040 : decode cL_law 2040 = .ok (.invokevirtual 175, 3) := by decide +kernel
theorem dL_law_2043 : decode cL_law 2043 = .ok (.iload 5, 2) := by decide +kernel
theorem dL_law_2045 : decode cL_law 2045 = .ok (.if_icmp .eq 5, 3) := by decide +kernel
theorem dL_law_2048 : decode cL_law 2048 = .ok (.iconst 0, 1) := by decide +kernel
theorem dL_law_2049 : decode cL_law 2049 = .ok (.ireturn, 1) := by decide +kernel
theorem dL_law_2050 : decode cL_law 2050 = .ok (.iload 5, 2) := by decide +kernel
theorem dL_law_2052 : decode cL_law 2052 = .ok (.ifCond .ne 15, 3) := by decide +kernel
theorem dL_law_2055 : decode cL_law 2055 = .ok (.aload_n 3, 1) := by decide +kernel
theorem dL_law_2056 : decode cL_law 2056 = .ok (.iconst 0, 1) := by decide +kernel
theorem dL_law_2057 : decode cL_law 2057 = .ok (.laload, 1) := by decide +kernel
theorem dL_law_2058 : decode cL_law 2058 = .ok (.iload 6, 2) := by decide +kernel
theorem dL_law_2060 : decode cL_law 2060 = .ok (.i2l, 1) := by decide +kernel
theorem dL_law_2061 : decode cL_law 2061 = .ok (.lcmp, 1) := by decide +kernel
theorem dL_law_2062 : decode cL_law 2062 = .ok (.ifCond .eq 5, 3) := by decide +kernel
theorem dL_law_2065 : decode cL_law 2065 = .ok (.iconst 0, 1) := by decide +kernel
theorem dL_law_2066 : decode cL_law 2066 = .ok (.ireturn, 1) := by decide +kernel
theorem dL_law_2067 : decode cL_law 2067 = .ok (.goto 1385, 3) := by decide +kernel
theorem dL_law_2070 : decode cL_law 2070 = .ok (.aload_n 1, 1) := by decide +kernel
theorem dL_law_2071 : decode cL_law 2071 = .ok (.aload_n 0, 1) := by decide +kernel
theorem dL_law_2072 : decode cL_law 2072 = .ok (.iload 4, 2) := by decide +kernel
theorem dL_law_2074 : decode cL_law 2074 = .ok (.iconst 1, 1) := by decide +kernel
theorem dL_law_2075 : decode cL_law 2075 = .ok (.iadd, 1) := by decide +kernel
theorem dL_law_2076 : decode cL_law 2076 = .ok (.iaload, 1) := by decide +kernel
theorem dL_law_2077 : decode cL_law 2077 = .ok (.aload_n 0, 1) := by decide +kernel
theorem dL_law_2078 : decode cL_law 2078 = .ok (.iload 4, 2) := by decide +kernel
theorem dL_law_2080 : decode cL_law 2080 = .ok (.iconst 2, 1) := by decide +kernel
theorem dL_law_2081 : decode cL_law 2081 = .ok (.iadd, 1) := by decide +kernel
theorem dL_law_2082 : decode cL_law 2082 = .ok (.iaload, 1) := by decide +kernel
theorem dL_law_2083 : decode cL_law 2083 = .ok (.aload_n 3, 1) := by decide +kernel
theorem dL_law_2084 : decode cL_law 2084 = .ok (.invokestatic 295, 3) := by decide +kernel
theorem dL_law_2087 : decode cL_law 2087 = .ok (.istore 5, 2) := by decide +kernel
theorem dL_law_2089 : decode cL_law 2089 = .ok (.aload_n 2, 1) := by decide +kernel
theorem dL_law_2090 : decode cL_law 2090 = .ok (.aload_n 0, 1) := by decide +kernel
theorem dL_law_2091 : decode cL_law 2091 = .ok (.iload 4, 2) := by decide +kernel
theorem dL_law_2093 : decode cL_law 2093 = .ok (.iconst 1, 1) := by decide +kernel
theorem dL_law_2094 : decode cL_law 2094 = .ok (.iadd, 1) := by decide +kernel
theorem dL_law_2095 : decode cL_law 2095 = .ok (.iaload, 1) := by decide +kernel
theorem dL_law_2096 : decode cL_law 2096 = .ok (.aload_n 0, 1) := by decide +kernel
theorem dL_law_2097 : decode cL_law 2097 = .ok (.iload 4, 2) := by decide +kernel
theorem dL_law_2099 : decode cL_law 2099 = .ok (.iconst 2, 1) := by decide +kernel
theorem dL_law_2100 : decode cL_law 2100 = .ok (.iadd, 1) := by decide +kernel
theorem dL_law_2101 : decode cL_law 2101 = .ok (.iaload, 1) := by decide +kernel
theorem dL_law_2102 : decode cL_law 2102 = .ok (.invokevirtual 297, 3) := by decide +kernel
theorem dL_law_2105 : decode cL_law 2105 = .ok (.istore 6, 2) := by decide +kernel
theorem dL_law_2107 : decode cL_law 2107 = .ok (.aload_n 2, 1) := by decide +kernel
theorem dL_law_2108 : decode cL_law 2108 = .ok (.invokevirtual 175, 3) := by decide +kernel
theorem dL_law_2111 : decode cL_law 2111 = .ok (.iload 5, 2) := by decide +kernel
theorem dL_law_2113 : decode cL_law 2113 = .ok (.if_icmp .eq 5, 3) := by decide +kernel
theorem dL_law_2116 : decode cL_law 2116 = .ok (.iconst 0, 1) := by decide +kernel
theorem dL_law_2117 : decode cL_law 2117 = .ok (.ireturn, 1) := by decide +kernel
theorem dL_law_2118 : decode cL_law 2118 = .ok (.iload 5, 2) := by decide +kernel
theorem dL_law_2120 : decode cL_law 2120 = .ok (.ifCond .ne 15, 3) := by decide +kernel
theorem dL_law_2123 : decode cL_law 2123 = .ok (.aload_n 3, 1) := by decide +kernel
theorem dL_law_2124 : decode cL_law 2124 = .ok (.iconst 0, 1) := by decide +kernel
theorem dL_law_2125 : decode cL_law 2125 = .ok (.laload, 1) := by decide +kernel
theorem dL_law_2126 : decode cL_law 2126 = .ok (.iload 6, 2) := by decide +kernel
theorem dL_law_2128 : decode cL_law 2128 = .ok (.i2l, 1) := by decide +kernel
theorem dL_law_2129 : decode cL_law 2129 = .ok (.lcmp, 1) := by decide +kernel
theorem dL_law_2130 : decode cL_law 2130 = .ok (.ifCond .eq 5, 3) := by decide +kernel
theorem dL_law_2133 : decode cL_law 2133 = .ok (.iconst 0, 1) := by decide +kernel
theorem dL_law_2134 : decode cL_law 2134 = .ok (.ireturn, 1) := by decide +kernel
theorem dL_law_2135 : decode cL_law 2135 = .ok (.goto 1317, 3) := by decide +kernel
theorem dL_law_2138 : decode cL_law 2138 = .ok (.aload_n 1, 1) := by decide +kernel
theorem dL_law_2139 : decode cL_law 2139 = .ok (.aload_n 0, 1) := by decide +kernel
theorem dL_law_2140 : decode cL_law 2140 = .ok (.iload 4, 2) := by decide +kernel
theorem dL_law_2142 : decode cL_law 2142 = .ok (.iconst 1, 1) := by decide +kernel
theorem dL_law_2143 : decode cL_law 2143 = .ok (.iadd, 1) := by decide +kernel
theorem dL_law_2144 : decode cL_law 2144 = .ok (.iaload, 1) := by decide +kernel
theorem dL_law_2145 : decode cL_law 2145 = .ok (.aload_n 3, 1) := by decide +kernel
theorem dL_law_2146 : decode cL_law 2146 = .ok (.invokestatic 298, 3) := by decide +kernel
theorem dL_law_2149 : decode cL_law 2149 = .ok (.istore 5, 2) := by decide +kernel
theorem dL_law_2151 : decode cL_law 2151 = .ok (.aload_n 2, 1) := by decide +kernel
theorem dL_law_2152 : decode cL_law 2152 = .ok (.aload_n 0, 1) := by decide +kernel
theorem dL_law_2153 : decode cL_law 2153 = .ok (.iload 4, 2) := by decide +kernel
theorem dL_law_2155 : decode cL_law 2155 = .ok (.iconst 1, 1) := by decide +kernel
theorem dL_law_2156 : decode cL_law 2156 = .ok (.iadd, 1) := by decide +kernel
theorem dL_law_2157 : decode cL_law 2157 = .ok (.iaload, 1) := by decide +kernel
theorem dL_law_2158 : decode cL_law 2158 = .ok (.invokevirtual 300, 3) := by decide +kernel
theorem dL_law_2161 : decode cL_law 2161 = .ok (.istore 6, 2) := by decide +kernel
theorem dL_law_2163 : decode cL_law 2163 = .ok (.aload_n 2, 1) := by decide +kernel
theorem dL_law_2164 : decode cL_law 2164 = .ok (.invokevirtual 175, 3) := by decide +kernel
theorem dL_law_2167 : decode cL_law 2167 = .ok (.iload 5, 2) := by decide +kernel
theorem dL_law_2169 : decode cL_law 2169 = .ok (.if_icmp .eq 5, 3) := by decide +kernel
theorem dL_law_2172 : decode cL_law 2172 = .ok (.iconst 0, 1) := by decide +kernel
theorem dL_law_2173 : decode cL_law 2173 = .ok (.ireturn, 1) := by decide +kernel
theorem dL_law_2174 : decode cL_law 2174 = .ok (.iload 5, 2) := by decide +kernel
theorem dL_law_2176 : decode cL_law 2176 = .ok (.ifCond .ne 15, 3) := by decide +kernel
theorem dL_law_2179 : decode cL_law 2179 = .ok (.aload_n 3, 1) := by decide +kernel
theorem dL_law_2180 : decode cL_law 2180 = .ok (.iconst 0, 1) := by decide +kernel
theorem dL_law_2181 : decode cL_law 2181 = .ok (.laload, 1) := by decide +kernel
theorem dL_law_2182 : decode cL_law 2182 = .ok (.iload 6, 2) := by decide +kernel
theorem dL_law_2184 : decode cL_law 2184 = .ok (.i2l, 1) := by decide +kernel
theorem dL_law_2185 : decode cL_law 2185 = .ok (.lcmp, 1) := by decide +kernel
theorem dL_law_2186 : decode cL_law 2186 = .ok (.ifCond .eq 5, 3) := by decide +kernel
theorem dL_law_2189 : decode cL_law 2189 = .ok (.iconst 0, 1) := by decide +kernel
theorem dL_law_2190 : decode cL_law 2190 = .ok (.ireturn, 1) := by decide +kernel
theorem dL_law_2191 : decode cL_law 2191 = .ok (.goto 1261, 3) := by decide +kernel
theorem dL_law_2194 : decode cL_law 2194 = .ok (.aload_n 1, 1) := by decide +kernel
theorem dL_law_2195 : decode cL_law 2195 = .ok (.aload_n 0, 1) := by decide +kernel
theorem dL_law_2196 : decode cL_law 2196 = .ok (.iload 4, 2) := by decide +kernel
theorem dL_law_2198 : decode cL_law 2198 = .ok (.iconst 1, 1) := by decide +kernel
theorem dL_law_2199 : decode cL_law 2199 = .ok (.iadd, 1) := by decide +kernel
theorem dL_law_2200 : decode cL_law 2200 = .ok (.iaload, 1) := by decide +kernel
theorem dL_law_2201 : decode cL_law 2201 = .ok (.aload_n 3, 1) := by decide +kernel
theorem dL_law_2202 : decode cL_law 2202 = .ok (.invokestatic 301, 3) := by decide +kernel
theorem dL_law_2205 : decode cL_law 2205 = .ok (.istore 5, 2) := by decide +kernel
theorem dL_law_2207 : decode cL_law 2207 = .ok (.aload_n 2, 1) := by decide +kernel
theorem dL_law_2208 : decode cL_law 2208 = .ok (.aload_n 0, 1) := by decide +kernel
theorem dL_law_2209 : decode cL_law 2209 = .ok (.iload 4, 2) := by decide +kernel
theorem dL_law_2211 : decode cL_law 2211 = .ok (.iconst 1, 1) := by decide +kernel
theorem dL_law_2212 : decode cL_law 2212 = .ok (.iadd, 1) := by decide +kernel
theorem dL_law_2213 : decode cL_law 2213 = .ok (.iaload, 1) := by decide +kernel
theorem dL_law_2214 : decode cL_law 2214 = .ok (.invokevirtual 303, 3) := by decide +kernel
theorem dL_law_2217 : decode cL_law 2217 = .ok (.istore 6, 2) := by decide +kernel
theorem dL_law_2219 : decode cL_law 2219 = .ok (.aload_n 2, 1) := by decide +kernel
theorem dL_law_2220 : decode cL_law 2220 = .ok (.invokevirtual 175, 3) := by decide +kernel
theorem dL_law_2223 : decode cL_law 2223 = .ok (.iload 5, 2) := by decide +kernel
theorem dL_law_2225 : decode cL_law 2225 = .ok (.if_icmp .eq 5, 3) := by decide +kernel
theorem dL_law_2228 : decode cL_law 2228 = .ok (.iconst 0, 1) := by decide +kernel
theorem dL_law_2229 : decode cL_law 2229 = .ok (.ireturn, 1) := by decide +kernel
theorem dL_law_2230 : decode cL_law 2230 = .ok (.iload 5, 2) := by decide +kernel
theorem dL_law_2232 : decode cL_law 2232 = .ok (.ifCond .ne 15, 3) := by decide +kernel
theorem dL_law_2235 : decode cL_law 2235 = .ok (.aload_n 3, 1) := by decide +kernel
theorem dL_law_2236 : decode cL_law 2236 = .ok (.iconst 0, 1) := by decide +kernel
theorem dL_law_2237 : decode cL_law 2237 = .ok (.laload, 1) := by decide +kernel
theorem dL_law_2238 : decode cL_law 2238 = .ok (.iload 6, 2) := by decide +kernel
theorem dL_law_2240 : decode cL_law 2240 = .ok (.i2l, 1) := by decide +kernel
theorem dL_law_2241 : decode cL_law 2241 = .ok (.lcmp, 1) := by decide +kernel
theorem dL_law_2242 : decode cL_law 2242 = .ok (.ifCond .eq 5, 3) := by decide +kernel
theorem dL_law_2245 : decode cL_law 2245 = .ok (.iconst 0, 1) := by decide +kernel
theorem dL_law_2246 : decode cL_law 2246 = .ok (.ireturn, 1) := by decide +kernel
theorem dL_law_2247 : decode cL_law 2247 = .ok (.goto 1205, 3) := by decide +kernel
theorem dL_law_2250 : decode cL_law 2250 = .ok (.aload_n 1, 1) := by decide +kernel
theorem dL_law_2251 : decode cL_law 2251 = .ok (.invokevirtual 304, 3) := by decide +kernel
theorem dL_law_2254 : decode cL_law 2254 = .ok (.aload_n 2, 1) := by decide +kernel
theorem dL_law_2255 : decode cL_law 2255 = .ok (.invokevirtual 307, 3) := by decide +kernel
theorem dL_law_2258 : decode cL_law 2258 = .ok (.if_icmp .eq 1194, 3) := by decide +kernel
theorem dL_law_2261 : decode cL_law 2261 = .ok (.iconst 0, 1) := by decide +kernel
theorem dL_law_2262 : decode cL_law 2262 = .ok (.ireturn, 1) := by decide +kernel
theorem dL_law_2263 : decode cL_law 2263 = .ok (.aload_n 1, 1) := by decide +kernel
theorem dL_law_2264 : decode cL_law 2264 = .ok (.aload_n 0, 1) := by decide +kernel
theorem dL_law_2265 : decode cL_law 2265 = .ok (.iload 4, 2) := by decide +kernel
theorem dL_law_2267 : decode cL_law 2267 = .ok (.iconst 1, 1) := by decide +kernel
theorem dL_law_2268 : decode cL_law 2268 = .ok (.iadd, 1) := by decide +kernel
theorem dL_law_2269 : decode cL_law 2269 = .ok (.iaload, 1) := by decide +kernel
theorem dL_law_2270 : decode cL_law 2270 = .ok (.aload_n 3, 1) := by decide +kernel
theorem dL_law_2271 : decode cL_law 2271 = .ok (.invokestatic 308, 3) := by decide +kernel
theorem dL_law_2274 : decode cL_law 2274 = .ok (.istore 5, 2) := by decide +kernel
theorem dL_law_2276 : decode cL_law 2276 = .ok (.aload_n 2, 1) := by decide +kernel
theorem dL_law_2277 : decode cL_law 2277 = .ok (.aload_n 0, 1) := by decide +kernel
theorem dL_law_2278 : decode cL_law 2278 = .ok (.iload 4, 2) := by decide +kernel
theorem dL_law_2280 : decode cL_law 2280 = .ok (.iconst 1, 1) := by decide +kernel
theorem dL_law_2281 : decode cL_law 2281 = .ok (.iadd, 1) := by decide +kernel
theorem dL_law_2282 : decode cL_law 2282 = .ok (.iaload, 1) := by decide +kernel
theorem dL_law_2283 : decode cL_law 2283 = .ok (.invokevirtual 310, 3) := by decide +kernel
theorem dL_law_2286 : decode cL_law 2286 = .ok (.istore 6, 2) := by decide +kernel
theorem dL_law_2288 : decode cL_law 2288 = .ok (.aload_n 2, 1) := by decide +kernel
theorem dL_law_2289 : decode cL_law 2289 = .ok (.invokevirtual 175, 3) := by decide +kernel
theorem dL_law_2292 : decode cL_law 2292 = .ok (.iload 5, 2) := by decide +kernel
theorem dL_law_2294 : decode cL_law 2294 = .ok (.if_icmp .eq 5, 3) := by decide +kernel
theorem dL_law_2297 : decode cL_law 2297 = .ok (.iconst 0, 1) := by decide +kernel
theorem dL_law_2298 : decode cL_law 2298 = .ok (.ireturn, 1) := by decide +kernel
theorem dL_law_2299 : decode cL_law 2299 = .ok (.iload 5, 2) := by decide +kernel
theorem dL_law_2301 : decode cL_law 2301 = .ok (.ifCond .ne 15, 3) := by decide +kernel
theorem dL_law_2304 : decode cL_law 2304 = .ok (.aload_n 3, 1) := by decide +kernel
theorem dL_law_2305 : decode cL_law 2305 = .ok (.iconst 0, 1) := by decide +kernel
theorem dL_law_2306 : decode cL_law 2306 = .ok (.laload, 1) := by decide +kernel
theorem dL_law_2307 : decode cL_law 2307 = .ok (.iload 6, 2) := by decide +kernel
theorem dL_law_2309 : decode cL_law 2309 = .ok (.i2l, 1) := by decide +kernel
theorem dL_law_2310 : decode cL_law 2310 = .ok (.lcmp, 1) := by decide +kernel
theorem dL_law_2311 : decode cL_law 2311 = .ok (.ifCond .eq 5, 3) := by decide +kernel
theorem dL_law_2314 : decode cL_law 2314 = .ok (.iconst 0, 1) := by decide +kernel
theorem dL_law_2315 : decode cL_law 2315 = .ok (.ireturn, 1) := by decide +kernel
theorem dL_law_2316 : decode cL_law 2316 = .ok (.goto 1136, 3) := by decide +kernel
theorem dL_law_2319 : decode cL_law 2319 = .ok (.aload_n 1, 1) := by decide +kernel
theorem dL_law_2320 : decode cL_law 2320 = .ok (.aload_n 0, 1) := by decide +kernel
theorem dL_law_2321 : decode cL_law 2321 = .ok (.iload 4, 2) := by decide +kernel
theorem dL_law_2323 : decode cL_law 2323 = .ok (.iconst 1, 1) := by decide +kernel
theorem dL_law_2324 : decode cL_law 2324 = .ok (.iadd, 1) := by decide +kernel
theorem dL_law_2325 : decode cL_law 2325 = .ok (.iaload, 1) := by decide +kernel
theorem dL_law_2326 : decode cL_law 2326 = .ok (.aload_n 3, 1) := by decide +kernel
theorem dL_law_2327 : decode cL_law 2327 = .ok (.invokestatic 311, 3) := by decide +kernel
theorem dL_law_2330 : decode cL_law 2330 = .ok (.istore 5, 2) := by decide +kernel
theorem dL_law_2332 : decode cL_law 2332 = .ok (.aload_n 2, 1) := by decide +kernel
theorem dL_law_2333 : decode cL_law 2333 = .ok (.aload_n 0, 1) := by decide +kernel
theorem dL_law_2334 : decode cL_law 2334 = .ok (.iload 4, 2) := by decide +kernel
theorem dL_law_2336 : decode cL_law 2336 = .ok (.iconst 1, 1) := by decide +kernel
theorem dL_law_2337 : decode cL_law 2337 = .ok (.iadd, 1) := by decide +kernel
theorem dL_law_2338 : decode cL_law 2338 = .ok (.iaload, 1) := by decide +kernel
theorem dL_law_2339 : decode cL_law 2339 = .ok (.invokevirtual 313, 3) := by decide +kernel
theorem dL_law_2342 : decode cL_law 2342 = .ok (.istore 6, 2) := by decide +kernel
theorem dL_law_2344 : decode cL_law 2344 = .ok (.aload_n 2, 1) := by decide +kernel
theorem dL_law_2345 : decode cL_law 2345 = .ok (.invokevirtual 175, 3) := by decide +kernel
theorem dL_law_2348 : decode cL_law 2348 = .ok (.iload 5, 2) := by decide +kernel
theorem dL_law_2350 : decode cL_law 2350 = .ok (.if_icmp .eq 5, 3) := by decide +kernel
theorem dL_law_2353 : decode cL_law 2353 = .ok (.iconst 0, 1) := by decide +kernel
theorem dL_law_2354 : decode cL_law 2354 = .ok (.ireturn, 1) := by decide +kernel
theorem dL_law_2355 : decode cL_law 2355 = .ok (.iload 5, 2) := by decide +kernel
theorem dL_law_2357 : decode cL_law 2357 = .ok (.ifCond .ne 15, 3) := by decide +kernel
theorem dL_law_2360 : decode cL_law 2360 = .ok (.aload_n 3, 1) := by decide +kernel
theorem dL_law_2361 : decode cL_law 2361 = .ok (.iconst 0, 1) := by decide +kernel
theorem dL_law_2362 : decode cL_law 2362 = .ok (.laload, 1) := by decide +kernel
theorem dL_law_2363 : decode cL_law 2363 = .ok (.iload 6, 2) := by decide +kernel
theorem dL_law_2365 : decode cL_law 2365 = .ok (.i2l, 1) := by decide +kernel
theorem dL_law_2366 : decode cL_law 2366 = .ok (.lcmp, 1) := by decide +kernel
theorem dL_law_2367 : decode cL_law 2367 = .ok (.ifCond .eq 5, 3) := by decide +kernel
theorem dL_law_2370 : decode cL_law 2370 = .ok (.iconst 0, 1) := by decide +kernel
theorem dL_law_2371 : decode cL_law 2371 = .ok (.ireturn, 1) := by decide +kernel
theorem dL_law_2372 : decode cL_law 2372 = .ok (.goto 1080, 3) := by decide +kernel
theorem dL_law_2375 : decode cL_law 2375 = .ok (.aload_n 1, 1) := by decide +kernel
theorem dL_law_2376 : decode cL_law 2376 = .ok (.aload_n 0, 1) := by decide +kernel
theorem dL_law_2377 : decode cL_law 2377 = .ok (.iload 4, 2) := by decide +kernel
theorem dL_law_2379 : decode cL_law 2379 = .ok (.iconst 1, 1) := by decide +kernel
theorem dL_law_2380 : decode cL_law 2380 = .ok (.iadd, 1) := by decide +kernel
theorem dL_law_2381 : decode cL_law 2381 = .ok (.iaload, 1) := by decide +kernel
theorem dL_law_2382 : decode cL_law 2382 = .ok (.aload_n 0, 1) := by decide +kernel
theorem dL_law_2383 : decode cL_law 2383 = .ok (.iload 4, 2) := by decide +kernel
theorem dL_law_2385 : decode cL_law 2385 = .ok (.iconst 2, 1) := by decide +kernel
theorem dL_law_2386 : decode cL_law 2386 = .ok (.iadd, 1) := by decide +kernel
theorem dL_law_2387 : decode cL_law 2387 = .ok (.iaload, 1) := by decide +kernel
theorem dL_law_2388 : decode cL_law 2388 = .ok (.aload_n 3, 1) := by decide +kernel
theorem dL_law_2389 : decode cL_law 2389 = .ok (.invokestatic 314, 3) := by decide +kernel
theorem dL_law_2392 : decode cL_law 2392 = .ok (.istore 5, 2) := by decide +kernel
theorem dL_law_2394 : decode cL_law 2394 = .ok (.aload_n 2, 1) := by decide +kernel
theorem dL_law_2395 : decode cL_law 2395 = .ok (.aload_n 0, 1) := by decide +kernel
theorem dL_law_2396 : decode cL_law 2396 = .ok (.iload 4, 2) := by decide +kernel
theorem dL_law_2398 : decode cL_law 2398 = .ok (.iconst 1, 1) := by decide +kernel
theorem dL_law_2399 : decode cL_law 2399 = .ok (.iadd, 1) := by decide +kernel
theorem dL_law_2400 : decode cL_law 2400 = .ok (.iaload, 1) := by decide +kernel
theorem dL_law_2401 : decode cL_law 2401 = .ok (.aload_n 0, 1) := by decide +kernel
theorem dL_law_2402 : decode cL_law 2402 = .ok (.iload 4, 2) := by decide +kernel
theorem dL_law_2404 : decode cL_law 2404 = .ok (.iconst 2, 1) := by decide +kernel
theorem dL_law_2405 : decode cL_law 2405 = .ok (.iadd, 1) := by decide +kernel
theorem dL_law_2406 : decode cL_law 2406 = .ok (.iaload, 1) := by decide +kernel
theorem dL_law_2407 : decode cL_law 2407 = .ok (.invokevirtual 316, 3) := by decide +kernel
theorem dL_law_2410 : decode cL_law 2410 = .ok (.istore 6, 2) := by decide +kernel
theorem dL_law_2412 : decode cL_law 2412 = .ok (.aload_n 2, 1) := by decide +kernel
theorem dL_law_2413 : decode cL_law 2413 = .ok (.invokevirtual 175, 3) := by decide +kernel
theorem dL_law_2416 : decode cL_law 2416 = .ok (.iload 5, 2) := by decide +kernel
theorem dL_law_2418 : decode cL_law 2418 = .ok (.if_icmp .eq 5, 3) := by decide +kernel
theorem dL_law_2421 : decode cL_law 2421 = .ok (.iconst 0, 1) := by decide +kernel
theorem dL_law_2422 : decode cL_law 2422 = .ok (.ireturn, 1) := by decide +kernel
theorem dL_law_2423 : decode cL_law 2423 = .ok (.iload 5, 2) := by decide +kernel
theorem dL_law_2425 : decode cL_law 2425 = .ok (.ifCond .ne 15, 3) := by decide +kernel
theorem dL_law_2428 : decode cL_law 2428 = .ok (.aload_n 3, 1) := by decide +kernel
theorem dL_law_2429 : decode cL_law 2429 = .ok (.iconst 0, 1) := by decide +kernel
theorem dL_law_2430 : decode cL_law 2430 = .ok (.laload, 1) := by decide +kernel
theorem dL_law_2431 : decode cL_law 2431 = .ok (.iload 6, 2) := by decide +kernel
theorem dL_law_2433 : decode cL_law 2433 = .ok (.i2l, 1) := by decide +kernel
theorem dL_law_2434 : decode cL_law 2434 = .ok (.lcmp, 1) := by decide +kernel
theorem dL_law_2435 : decode cL_law 2435 = .ok (.ifCond .eq 5, 3) := by decide +kernel
theorem dL_law_2438 : decode cL_law 2438 = .ok (.iconst 0, 1) := by decide +kernel
theorem dL_law_2439 : decode cL_law 2439 = .ok (.ireturn, 1) := by decide +kernel
theorem dL_law_2440 : decode cL_law 2440 = .ok (.goto 1012, 3) := by decide +kernel
theorem dL_law_2443 : decode cL_law 2443 = .ok (.aload_n 1, 1) := by decide +kernel
theorem dL_law_2444 : decode cL_law 2444 = .ok (.invokevirtual 317, 3) := by decide +kernel
theorem dL_law_2447 : decode cL_law 2447 = .ok (.aload_n 2, 1) := by decide +kernel
theorem dL_law_2448 : decode cL_law 2448 = .ok (.invokevirtual 320, 3) := by decide +kernel
theorem dL_law_2451 : decode cL_law 2451 = .ok (.if_icmp .eq 1001, 3) := by decide +kernel
theorem dL_law_2454 : decode cL_law 2454 = .ok (.iconst 0, 1) := by decide +kernel
theorem dL_law_2455 : decode cL_law 2455 = .ok (.ireturn, 1) := by decide +kernel
theorem dL_law_2456 : decode cL_law 2456 = .ok (.aload_n 1, 1) := by decide +kernel
theorem dL_law_2457 : decode cL_law 2457 = .ok (.invokevirtual 321, 3) := by decide +kernel
theorem dL_law_2460 : decode cL_law 2460 = .ok (.aload_n 2, 1) := by decide +kernel
theorem dL_law_2461 : decode cL_law 2461 = .ok (.invokevirtual 324, 3) := by decide +kernel
theorem dL_law_2464 : decode cL_law 2464 = .ok (.if_icmp .eq 988, 3) := by decide +kernel
theorem dL_law_2467 : decode cL_law 2467 = .ok (.iconst 0, 1) := by decide +kernel
theorem dL_law_2468 : decode cL_law 2468 = .ok (.ireturn, 1) := by decide +kernel
theorem dL_law_2469 : decode cL_law 2469 = .ok (.aload_n 1, 1) := by decide +kernel
theorem dL_law_2470 : decode cL_law 2470 = .ok (.invokevirtual 325, 3) := by decide +kernel
theorem dL_law_2473 : decode cL_law 2473 = .ok (.aload_n 2, 1) := by decide +kernel
theorem dL_law_2474 : decode cL_law 2474 = .ok (.invokevirtual 328, 3) := by decide +kernel
theorem dL_law_2477 : decode cL_law 2477 = .ok (.if_icmp .eq 975, 3) := by decide +kernel
theorem dL_law_2480 : decode cL_law 2480 = .ok (.iconst 0, 1) := by decide +kernel
theorem dL_law_2481 : decode cL_law 2481 = .ok (.ireturn, 1) := by decide +kernel
theorem dL_law_2482 : decode cL_law 2482 = .ok (.aload_n 1, 1) := by decide +kernel
theorem dL_law_2483 : decode cL_law 2483 = .ok (.invokevirtual 329, 3) := by decide +kernel
theorem dL_law_2486 : decode cL_law 2486 = .ok (.aload_n 2, 1) := by decide +kernel
theorem dL_law_2487 : decode cL_law 2487 = .ok (.invokevirtual 332, 3) := by decide +kernel
theorem dL_law_2490 : decode cL_law 2490 = .ok (.if_icmp .eq 962, 3) := by decide +kernel
theorem dL_law_2493 : decode cL_law 2493 = .ok (.iconst 0, 1) := by decide +kernel
theorem dL_law_2494 : decode cL_law 2494 = .ok (.ireturn, 1) := by decide +kernel
theorem dL_law_2495 : decode cL_law 2495 = .ok (.aload_n 1, 1) := by decide +kernel
theorem dL_law_2496 : decode cL_law 2496 = .ok (.invokevirtual 333, 3) := by decide +kernel
theorem dL_law_2499 : decode cL_law 2499 = .ok (.f2d, 1) := by decide +kernel
theorem dL_law_2500 : decode cL_law 2500 = .ok (.dstore 5, 2) := by decide +kernel
theorem dL_law_2502 : decode cL_law 2502 = .ok (.aload_n 2, 1) := by decide +kernel
theorem dL_law_2503 : decode cL_law 2503 = .ok (.invokevirtual 337, 3) := by decide +kernel
theorem dL_law_2506 : decode cL_law 2506 = .ok (.f2d, 1) := by decide +kernel
theorem dL_law_2507 : decode cL_law 2507 = .ok (.dstore 7, 2) := by decide +kernel
theorem dL_law_2509 : decode cL_law 2509 = .ok (.dload 5, 2) := by decide +kernel
theorem dL_law_2511 : decode cL_law 2511 = .ok (.dload 7, 2) := by decide +kernel
theorem dL_law_2513 : decode cL_law 2513 = .ok (.dcmp .l, 1) := by decide +kernel
theorem dL_law_2514 : decode cL_law 2514 = .ok (.ifCond .eq 21, 3) := by decide +kernel
theorem dL_law_2517 : decode cL_law 2517 = .ok (.dload 5, 2) := by decide +kernel
theorem dL_law_2519 : decode cL_law 2519 = .ok (.dload 5, 2) := by decide +kernel
theorem dL_law_2521 : decode cL_law 2521 = .ok (.dcmp .l, 1) := by decide +kernel
theorem dL_law_2522 : decode cL_law 2522 = .ok (.ifCond .eq 11, 3) := by decide +kernel
theorem dL_law_2525 : decode cL_law 2525 = .ok (.dload 7, 2) := by decide +kernel
theorem dL_law_2527 : decode cL_law 2527 = .ok (.dload 7, 2) := by decide +kernel
theorem dL_law_2529 : decode cL_law 2529 = .ok (.dcmp .l, 1) := by decide +kernel
theorem dL_law_2530 : decode cL_law 2530 = .ok (.ifCond .ne 5, 3) := by decide +kernel
theorem dL_law_2533 : decode cL_law 2533 = .ok (.iconst 0, 1) := by decide +kernel
theorem dL_law_2534 : decode cL_law 2534 = .ok (.ireturn, 1) := by decide +kernel
theorem dL_law_2535 : decode cL_law 2535 = .ok (.goto 917, 3) := by decide +kernel
theorem dL_law_2538 : decode cL_law 2538 = .ok (.aload_n 1, 1) := by decide +kernel
theorem dL_law_2539 : decode cL_law 2539 = .ok (.invokevirtual 338, 3) := by decide +kernel
theorem dL_law_2542 : decode cL_law 2542 = .ok (.dstore 5, 2) := by decide +kernel
theorem dL_law_2544 : decode cL_law 2544 = .ok (.aload_n 2, 1) := by decide +kernel
theorem dL_law_2545 : decode cL_law 2545 = .ok (.invokevirtual 342, 3) := by decide +kernel
theorem dL_law_2548 : decode cL_law 2548 = .ok (.dstore 7, 2) := by decide +kernel
theorem dL_law_2550 : decode cL_law 2550 = .ok (.dload 5, 2) := by decide +kernel
theorem dL_law_2552 : decode cL_law 2552 = .ok (.dload 7, 2) := by decide +kernel
theorem dL_law_2554 : decode cL_law 2554 = .ok (.dcmp .l, 1) := by decide +kernel
theorem dL_law_2555 : decode cL_law 2555 = .ok (.ifCond .eq 21, 3) := by decide +kernel
theorem dL_law_2558 : decode cL_law 2558 = .ok (.dload 5, 2) := by decide +kernel
theorem dL_law_2560 : decode cL_law 2560 = .ok (.dload 5, 2) := by decide +kernel
theorem dL_law_2562 : decode cL_law 2562 = .ok (.dcmp .l, 1) := by decide +kernel
theorem dL_law_2563 : decode cL_law 2563 = .ok (.ifCond .eq 11, 3) := by decide +kernel
theorem dL_law_2566 : decode cL_law 2566 = .ok (.dload 7, 2) := by decide +kernel
theorem dL_law_2568 : decode cL_law 2568 = .ok (.dload 7, 2) := by decide +kernel
theorem dL_law_2570 : decode cL_law 2570 = .ok (.dcmp .l, 1) := by decide +kernel
theorem dL_law_2571 : decode cL_law 2571 = .ok (.ifCond .ne 5, 3) := by decide +kernel
theorem dL_law_2574 : decode cL_law 2574 = .ok (.iconst 0, 1) := by decide +kernel
theorem dL_law_2575 : decode cL_law 2575 = .ok (.ireturn, 1) := by decide +kernel
theorem dL_law_2576 : decode cL_law 2576 = .ok (.goto 876, 3) := by decide +kernel
theorem dL_law_2579 : decode cL_law 2579 = .ok (.aload_n 1, 1) := by decide +kernel
theorem dL_law_2580 : decode cL_law 2580 = .ok (.aload_n 0, 1) := by decide +kernel
theorem dL_law_2581 : decode cL_law 2581 = .ok (.iload 4, 2) := by decide +kernel
theorem dL_law_2583 : decode cL_law 2583 = .ok (.iconst 1, 1) := by decide +kernel
theorem dL_law_2584 : decode cL_law 2584 = .ok (.iadd, 1) := by decide +kernel
theorem dL_law_2585 : decode cL_law 2585 = .ok (.iaload, 1) := by decide +kernel
theorem dL_law_2586 : decode cL_law 2586 = .ok (.aload_n 0, 1) := by decide +kernel
theorem dL_law_2587 : decode cL_law 2587 = .ok (.iload 4, 2) := by decide +kernel
theorem dL_law_2589 : decode cL_law 2589 = .ok (.iconst 2, 1) := by decide +kernel
theorem dL_law_2590 : decode cL_law 2590 = .ok (.iadd, 1) := by decide +kernel
theorem dL_law_2591 : decode cL_law 2591 = .ok (.iaload, 1) := by decide +kernel
theorem dL_law_2592 : decode cL_law 2592 = .ok (.aload_n 0, 1) := by decide +kernel
theorem dL_law_2593 : decode cL_law 2593 = .ok (.iload 4, 2) := by decide +kernel
theorem dL_law_2595 : decode cL_law 2595 = .ok (.iconst 3, 1) := by decide +kernel
theorem dL_law_2596 : decode cL_law 2596 = .ok (.iadd, 1) := by decide +kernel
theorem dL_law_2597 : decode cL_law 2597 = .ok (.iaload, 1) := by decide +kernel
theorem dL_law_2598 : decode cL_law 2598 = .ok (.ifCond .eq 7, 3) := by decide +kernel
theorem dL_law_2601 : decode cL_law 2601 = .ok (.iconst 1, 1) := by decide +kernel
theorem dL_law_2602 : decode cL_law 2602 = .ok (.goto 4, 3) := by decide +kernel
theorem dL_law_2605 : decode cL_law 2605 = .ok (.iconst 0, 1) := by decide +kernel
theorem dL_law_2606 : decode cL_law 2606 = .ok (.aload_n 3, 1) := by decide +kernel
theorem dL_law_2607 : decode cL_law 2607 = .ok (.invokestatic 343, 3) := by decide +kernel
theorem dL_law_2610 : decode cL_law 2610 = .ok (.istore 5, 2) := by decide +kernel
theorem dL_law_2612 : decode cL_law 2612 = .ok (.aload_n 2, 1) := by decide +kernel
theorem dL_law_2613 : decode cL_law 2613 = .ok (.aload_n 0, 1) := by decide +kernel
theorem dL_law_2614 : decode cL_law 2614 = .ok (.iload 4, 2) := by decide +kernel
theorem dL_law_2616 : decode cL_law 2616 = .ok (.iconst 1, 1) := by decide +kernel
theorem dL_law_2617 : decode cL_law 2617 = .ok (.iadd, 1) := by decide +kernel
theorem dL_law_2618 : decode cL_law 2618 = .ok (.iaload, 1) := by decide +kernel
theorem dL_law_2619 : decode cL_law 2619 = .ok (.aload_n 0, 1) := by decide +kernel
theorem dL_law_2620 : decode cL_law 2620 = .ok (.iload 4, 2) := by decide +kernel
theorem dL_law_2622 : decode cL_law 2622 = .ok (.iconst 2, 1) := by decide +kernel
theorem dL_law_2623 : decode cL_law 2623 = .ok (.iadd, 1) := by decide +kernel
theorem dL_law_2624 : decode cL_law 2624 = .ok (.iaload, 1) := by decide +kernel
theorem dL_law_2625 : decode cL_law 2625 = .ok (.aload_n 0, 1) := by decide +kernel
theorem dL_law_2626 : decode cL_law 2626 = .ok (.iload 4, 2) := by decide +kernel
theorem dL_law_2628 : decode cL_law 2628 = .ok (.iconst 3, 1) := by decide +kernel
theorem dL_law_2629 : decode cL_law 2629 = .ok (.iadd, 1) := by decide +kernel
theorem dL_law_2630 : decode cL_law 2630 = .ok (.iaload, 1) := by decide +kernel
theorem dL_law_2631 : decode cL_law 2631 = .ok (.ifCond .eq 7, 3) := by decide +kernel
theorem dL_law_2634 : decode cL_law 2634 = .ok (.iconst 1, 1) := by decide +kernel
theorem dL_law_2635 : decode cL_law 2635 = .ok (.goto 4, 3) := by decide +kernel
theorem dL_law_2638 : decode cL_law 2638 = .ok (.iconst 0, 1) := by decide +kernel
theorem dL_law_2639 : decode cL_law 2639 = .ok (.invokevirtual 346, 3) := by decide +kernel
theorem dL_law_2642 : decode cL_law 2642 = .ok (.istore 6, 2) := by decide +kernel
theorem dL_law_2644 : decode cL_law 2644 = .ok (.aload_n 2, 1) := by decide +kernel
theorem dL_law_2645 : decode cL_law 2645 = .ok (.invokevirtual 175, 3) := by decide +kernel
theorem dL_law_2648 : decode cL_law 2648 = .ok (.iload 5, 2) := by decide +kernel
theorem dL_law_2650 : decode cL_law 2650 = .ok (.if_icmp .eq 5, 3) := by decide +kernel
theorem dL_law_2653 : decode cL_law 2653 = .ok (.iconst 0, 1) := by decide +kernel
theorem dL_law_2654 : decode cL_law 2654 = .ok (.ireturn, 1) := by decide +kernel
theorem dL_law_2655 : decode cL_law 2655 = .ok (.iload 5, 2) := by decide +kernel
theorem dL_law_2657 : decode cL_law 2657 = .ok (.ifCond .ne 15, 3) := by decide +kernel
theorem dL_law_2660 : decode cL_law 2660 = .ok (.aload_n 3, 1) := by decide +kernel
theorem dL_law_2661 : decode cL_law 2661 = .ok (.iconst 0, 1) := by decide +kernel
theorem dL_law_2662 : decode cL_law 2662 = .ok (.laload, 1) := by decide +kernel
theorem dL_law_2663 : decode cL_law 2663 = .ok (.iload 6, 2) := by decide +kernel
theorem dL_law_2665 : decode cL_law 2665 = .ok (.i2l, 1) := by decide +kernel
theorem dL_law_2666 : decode cL_law 2666 = .ok (.lcmp, 1) := by decide +kernel
theorem dL_law_2667 : decode cL_law 2667 = .ok (.ifCond .eq 5, 3) := by decide +kernel
theorem dL_law_2670 : decode cL_law 2670 = .ok (.iconst 0, 1) := by decide +kernel
theorem dL_law_2671 : decode cL_law 2671 = .ok (.ireturn, 1) := by decide +kernel
theorem dL_law_2672 : decode cL_law 2672 = .ok (.goto 780, 3) := by decide +kernel
theorem dL_law_2675 : decode cL_law 2675 = .ok (.aload_n 1, 1) := by decide +kernel
theorem dL_law_2676 : decode cL_law 2676 = .ok (.aload_n 0, 1) := by decide +kernel
theorem dL_law_2677 : decode cL_law 2677 = .ok (.iload 4, 2) := by decide +kernel
theorem dL_law_2679 : decode cL_law 2679 = .ok (.iconst 1, 1) := by decide +kernel
theorem dL_law_2680 : decode cL_law 2680 = .ok (.iadd, 1) := by decide +kernel
theorem dL_law_2681 : decode cL_law 2681 = .ok (.iaload, 1) := by decide +kernel
theorem dL_law_2682 : decode cL_law 2682 = .ok (.aload_n 0, 1) := by decide +kernel
theorem dL_law_2683 : decode cL_law 2683 = .ok (.iload 4, 2) := by decide +kernel
theorem dL_law_2685 : decode cL_law 2685 = .ok (.iconst 2, 1) := by decide +kernel
theorem dL_law_2686 : decode cL_law 2686 = .ok (.iadd, 1) := by decide +kernel
theorem dL_law_2687 : decode cL_law 2687 = .ok (.iaload, 1) := by decide +kernel
theorem dL_law_2688 : decode cL_law 2688 = .ok (.aload_n 3, 1) := by decide +kernel
theorem dL_law_2689 : decode cL_law 2689 = .ok (.invokestatic 347, 3) := by decide +kernel
theorem dL_law_2692 : decode cL_law 2692 = .ok (.istore 5, 2) := by decide +kernel
theorem dL_law_2694 : decode cL_law 2694 = .ok (.aload_n 2, 1) := by decide +kernel
theorem dL_law_2695 : decode cL_law 2695 = .ok (.aload_n 0, 1) := by decide +kernel
theorem dL_law_2696 : decode cL_law 2696 = .ok (.iload 4, 2) := by decide +kernel
theorem dL_law_2698 : decode cL_law 2698 = .ok (.iconst 1, 1) := by decide +kernel
theorem dL_law_2699 : decode cL_law 2699 = .ok (.iadd, 1) := by decide +kernel
theorem dL_law_2700 : decode cL_law 2700 = .ok (.iaload, 1) := by decide +kernel
theorem dL_law_2701 : decode cL_law 2701 = .ok (.aload_n 0, 1) := by decide +kernel
theorem dL_law_2702 : decode cL_law 2702 = .ok (.iload 4, 2) := by decide +kernel
theorem dL_law_2704 : decode cL_law 2704 = .ok (.iconst 2, 1) := by decide +kernel
theorem dL_law_2705 : decode cL_law 2705 = .ok (.iadd, 1) := by decide +kernel
theorem dL_law_2706 : decode cL_law 2706 = .ok (.iaload, 1) := by decide +kernel
theorem dL_law_2707 : decode cL_law 2707 = .ok (.invokevirtual 349, 3) := by decide +kernel
theorem dL_law_2710 : decode cL_law 2710 = .ok (.istore 6, 2) := by decide +kernel
theorem dL_law_2712 : decode cL_law 2712 = .ok (.aload_n 2, 1) := by decide +kernel
theorem dL_law_2713 : decode cL_law 2713 = .ok (.invokevirtual 175, 3) := by decide +kernel
theorem dL_law_2716 : decode cL_law 2716 = .ok (.iload 5, 2) := by decide +kernel
theorem dL_law_2718 : decode cL_law 2718 = .ok (.if_icmp .eq 5, 3) := by decide +kernel
theorem dL_law_2721 : decode cL_law 2721 = .ok (.iconst 0, 1) := by decide +kernel
theorem dL_law_2722 : decode cL_law 2722 = .ok (.ireturn, 1) := by decide +kernel
theorem dL_law_2723 : decode cL_law 2723 = .ok (.iload 5, 2) := by decide +kernel
theorem dL_law_2725 : decode cL_law 2725 = .ok (.ifCond .ne 15, 3) := by decide +kernel
theorem dL_law_2728 : decode cL_law 2728 = .ok (.aload_n 3, 1) := by decide +kernel
theorem dL_law_2729 : decode cL_law 2729 = .ok (.iconst 0, 1) := by decide +kernel
theorem dL_law_2730 : decode cL_law 2730 = .ok (.laload, 1) := by decide +kernel
theorem dL_law_2731 : decode cL_law 2731 = .ok (.iload 6, 2) := by decide +kernel
theorem dL_law_2733 : decode cL_law 2733 = .ok (.i2l, 1) := by decide +kernel
theorem dL_law_2734 : decode cL_law 2734 = .ok (.lcmp, 1) := by decide +kernel
theorem dL_law_2735 : decode cL_law 2735 = .ok (.ifCond .eq 5, 3) := by decide +kernel
theorem dL_law_2738 : decode cL_law 2738 = .ok (.iconst 0, 1) := by decide +kernel
theorem dL_law_2739 : decode cL_law 2739 = .ok (.ireturn, 1) := by decide +kernel
theorem dL_law_2740 : decode cL_law 2740 = .ok (.goto 712, 3) := by decide +kernel
theorem dL_law_2743 : decode cL_law 2743 = .ok (.aload_n 1, 1) := by decide +kernel
theorem dL_law_2744 : decode cL_law 2744 = .ok (.aload_n 0, 1) := by decide +kernel
theorem dL_law_2745 : decode cL_law 2745 = .ok (.iload 4, 2) := by decide +kernel
theorem dL_law_2747 : decode cL_law 2747 = .ok (.iconst 1, 1) := by decide +kernel
theorem dL_law_2748 : decode cL_law 2748 = .ok (.iadd, 1) := by decide +kernel
theorem dL_law_2749 : decode cL_law 2749 = .ok (.iaload, 1) := by decide +kernel
theorem dL_law_2750 : decode cL_law 2750 = .ok (.aload_n 0, 1) := by decide +kernel
theorem dL_law_2751 : decode cL_law 2751 = .ok (.iload 4, 2) := by decide +kernel
theorem dL_law_2753 : decode cL_law 2753 = .ok (.iconst 2, 1) := by decide +kernel
theorem dL_law_2754 : decode cL_law 2754 = .ok (.iadd, 1) := by decide +kernel
theorem dL_law_2755 : decode cL_law 2755 = .ok (.iaload, 1) := by decide +kernel
theorem dL_law_2756 : decode cL_law 2756 = .ok (.aload_n 3, 1) := by decide +kernel
theorem dL_law_2757 : decode cL_law 2757 = .ok (.invokestatic 350, 3) := by decide +kernel
theorem dL_law_2760 : decode cL_law 2760 = .ok (.istore 5, 2) := by decide +kernel
theorem dL_law_2762 : decode cL_law 2762 = .ok (.aload_n 2, 1) := by decide +kernel
theorem dL_law_2763 : decode cL_law 2763 = .ok (.aload_n 0, 1) := by decide +kernel
theorem dL_law_2764 : decode cL_law 2764 = .ok (.iload 4, 2) := by decide +kernel
theorem dL_law_2766 : decode cL_law 2766 = .ok (.iconst 1, 1) := by decide +kernel
theorem dL_law_2767 : decode cL_law 2767 = .ok (.iadd, 1) := by decide +kernel
theorem dL_law_2768 : decode cL_law 2768 = .ok (.iaload, 1) := by decide +kernel
theorem dL_law_2769 : decode cL_law 2769 = .ok (.aload_n 0, 1) := by decide +kernel
theorem dL_law_2770 : decode cL_law 2770 = .ok (.iload 4, 2) := by decide +kernel
theorem dL_law_2772 : decode cL_law 2772 = .ok (.iconst 2, 1) := by decide +kernel
theorem dL_law_2773 : decode cL_law 2773 = .ok (.iadd, 1) := by decide +kernel
theorem dL_law_2774 : decode cL_law 2774 = .ok (.iaload, 1) := by decide +kernel
theorem dL_law_2775 : decode cL_law 2775 = .ok (.invokevirtual 352, 3) := by decide +kernel
theorem dL_law_2778 : decode cL_law 2778 = .ok (.istore 6, 2) := by decide +kernel
theorem dL_law_2780 : decode cL_law 2780 = .ok (.aload_n 2, 1) := by decide +kernel
theorem dL_law_2781 : decode cL_law 2781 = .ok (.invokevirtual 175, 3) := by decide +kernel
theorem dL_law_2784 : decode cL_law 2784 = .ok (.iload 5, 2) := by decide +kernel
theorem dL_law_2786 : decode cL_law 2786 = .ok (.if_icmp .eq 5, 3) := by decide +kernel
theorem dL_law_2789 : decode cL_law 2789 = .ok (.iconst 0, 1) := by decide +kernel
theorem dL_law_2790 : decode cL_law 2790 = .ok (.ireturn, 1) := by decide +kernel
theorem dL_law_2791 : decode cL_law 2791 = .ok (.iload 5, 2) := by decide +kernel
theorem dL_law_2793 : decode cL_law 2793 = .ok (.ifCond .ne 15, 3) := by decide +kernel
theorem dL_law_2796 : decode cL_law 2796 = .ok (.aload_n 3, 1) := by decide +kernel
theorem dL_law_2797 : decode cL_law 2797 = .ok (.iconst 0, 1) := by decide +kernel
theorem dL_law_2798 : decode cL_law 2798 = .ok (.laload, 1) := by decide +kernel
theorem dL_law_2799 : decode cL_law 2799 = .ok (.iload 6, 2) := by decide +kernel
theorem dL_law_2801 : decode cL_law 2801 = .ok (.i2l, 1) := by decide +kernel
theorem dL_law_2802 : decode cL_law 2802 = .ok (.lcmp, 1) := by decide +kernel
theorem dL_law_2803 : decode cL_law 2803 = .ok (.ifCond .eq 5, 3) := by decide +kernel
theorem dL_law_2806 : decode cL_law 2806 = .ok (.iconst 0, 1) := by decide +kernel
theorem dL_law_2807 : decode cL_law 2807 = .ok (.ireturn, 1) := by decide +kernel
theorem dL_law_2808 : decode cL_law 2808 = .ok (.goto 644, 3) := by decide +kernel
theorem dL_law_2811 : decode cL_law 2811 = .ok (.aload_n 1, 1) := by decide +kernel
theorem dL_law_2812 : decode cL_law 2812 = .ok (.aload_n 0, 1) := by decide +kernel
theorem dL_law_2813 : decode cL_law 2813 = .ok (.iload 4, 2) := by decide +kernel
theorem dL_law_2815 : decode cL_law 2815 = .ok (.iconst 1, 1) := by decide +kernel
theorem dL_law_2816 : decode cL_law 2816 = .ok (.iadd, 1) := by decide +kernel
theorem dL_law_2817 : decode cL_law 2817 = .ok (.iaload, 1) := by decide +kernel
theorem dL_law_2818 : decode cL_law 2818 = .ok (.aload_n 3, 1) := by decide +kernel
theorem dL_law_2819 : decode cL_law 2819 = .ok (.invokestatic 353, 3) := by decide +kernel
theorem dL_law_2822 : decode cL_law 2822 = .ok (.istore 5, 2) := by decide +kernel
theorem dL_law_2824 : decode cL_law 2824 = .ok (.aload_n 2, 1) := by decide +kernel
theorem dL_law_2825 : decode cL_law 2825 = .ok (.aload_n 0, 1) := by decide +kernel
theorem dL_law_2826 : decode cL_law 2826 = .ok (.iload 4, 2) := by decide +kernel
theorem dL_law_2828 : decode cL_law 2828 = .ok (.iconst 1, 1) := by decide +kernel
theorem dL_law_2829 : decode cL_law 2829 = .ok (.iadd, 1) := by decide +kernel
theorem dL_law_2830 : decode cL_law 2830 = .ok (.iaload, 1) := by decide +kernel
theorem dL_law_2831 : decode cL_law 2831 = .ok (.invokevirtual 355, 3) := by decide +kernel
theorem dL_law_2834 : decode cL_law 2834 = .ok (.istore 6, 2) := by decide +kernel
theorem dL_law_2836 : decode cL_law 2836 = .ok (.aload_n 2, 1) := by decide +kernel
theorem dL_law_2837 : decode cL_law 2837 = .ok (.invokevirtual 175, 3) := by decide +kernel
theorem dL_law_2840 : decode cL_law 2840 = .ok (.iload 5, 2) := by decide +kernel
theorem dL_law_2842 : decode cL_law 2842 = .ok (.if_icmp .eq 5, 3) := by decide +kernel
theorem dL_law_2845 : decode cL_law 2845 = .ok (.iconst 0, 1) := by decide +kernel
theorem dL_law_2846 : decode cL_law 2846 = .ok (.ireturn, 1) := by decide +kernel
theorem dL_law_2847 : decode cL_law 2847 = .ok (.iload 5, 2) := by decide +kernel
theorem dL_law_2849 : decode cL_law 2849 = .ok (.ifCond .ne 15, 3) := by decide +kernel
theorem dL_law_2852 : decode cL_law 2852 = .ok (.aload_n 3, 1) := by decide +kernel
theorem dL_law_2853 : decode cL_law 2853 = .ok (.iconst 0, 1) := by decide +kernel
theorem dL_law_2854 : decode cL_law 2854 = .ok (.laload, 1) := by decide +kernel
theorem dL_law_2855 : decode cL_law 2855 = .ok (.iload 6, 2) := by decide +kernel
theorem dL_law_2857 : decode cL_law 2857 = .ok (.i2l, 1) := by decide +kernel
theorem dL_law_2858 : decode cL_law 2858 = .ok (.lcmp, 1) := by decide +kernel
theorem dL_law_2859 : decode cL_law 2859 = .ok (.ifCond .eq 5, 3) := by decide +kernel
theorem dL_law_2862 : decode cL_law 2862 = .ok (.iconst 0, 1) := by decide +kernel
theorem dL_law_2863 : decode cL_law 2863 = .ok (.ireturn, 1) := by decide +kernel
theorem dL_law_2864 : decode cL_law 2864 = .ok (.goto 588, 3) := by decide +kernel
theorem dL_law_2867 : decode cL_law 2867 = .ok (.aload_n 1, 1) := by decide +kernel
theorem dL_law_2868 : decode cL_law 2868 = .ok (.aload_n 0, 1) := by decide +kernel
theorem dL_law_2869 : decode cL_law 2869 = .ok (.iload 4, 2) := by decide +kernel
theorem dL_law_2871 : decode cL_law 2871 = .ok (.iconst 1, 1) := by decide +kernel
theorem dL_law_2872 : decode cL_law 2872 = .ok (.iadd, 1) := by decide +kernel
theorem dL_law_2873 : decode cL_law 2873 = .ok (.iaload, 1) := by decide +kernel
theorem dL_law_2874 : decode cL_law 2874 = .ok (.aload_n 3, 1) := by decide +kernel
theorem dL_law_2875 : decode cL_law 2875 = .ok (.invokestatic 356, 3) := by decide +kernel
theorem dL_law_2878 : decode cL_law 2878 = .ok (.istore 5, 2) := by decide +kernel
theorem dL_law_2880 : decode cL_law 2880 = .ok (.aload_n 2, 1) := by decide +kernel
theorem dL_law_2881 : decode cL_law 2881 = .ok (.aload_n 0, 1) := by decide +kernel
theorem dL_law_2882 : decode cL_law 2882 = .ok (.iload 4, 2) := by decide +kernel
theorem dL_law_2884 : decode cL_law 2884 = .ok (.iconst 1, 1) := by decide +kernel
theorem dL_law_2885 : decode cL_law 2885 = .ok (.iadd, 1) := by decide +kernel
theorem dL_law_2886 : decode cL_law 2886 = .ok (.iaload, 1) := by decide +kernel
theorem dL_law_2887 : decode cL_law 2887 = .ok (.invokevirtual 358, 3) := by decide +kernel
theorem dL_law_2890 : decode cL_law 2890 = .ok (.istore 6, 2) := by decide +kernel
theorem dL_law_2892 : decode cL_law 2892 = .ok (.aload_n 2, 1) := by decide +kernel
theorem dL_law_2893 : decode cL_law 2893 = .ok (.invokevirtual 175, 3) := by decide +kernel
theorem dL_law_2896 : decode cL_law 2896 = .ok (.iload 5, 2) := by decide +kernel
theorem dL_law_2898 : decode cL_law 2898 = .ok (.if_icmp .eq 5, 3) := by decide +kernel
theorem dL_law_2901 : decode cL_law 2901 = .ok (.iconst 0, 1) := by decide +kernel
theorem dL_law_2902 : decode cL_law 2902 = .ok (.ireturn, 1) := by decide +kernel
theorem dL_law_2903 : decode cL_law 2903 = .ok (.iload 5, 2) := by decide +kernel
theorem dL_law_2905 : decode cL_law 2905 = .ok (.ifCond .ne 15, 3) := by decide +kernel
theorem dL_law_2908 : decode cL_law 2908 = .ok (.aload_n 3, 1) := by decide +kernel
theorem dL_law_2909 : decode cL_law 2909 = .ok (.iconst 0, 1) := by decide +kernel
theorem dL_law_2910 : decode cL_law 2910 = .ok (.laload, 1) := by decide +kernel
theorem dL_law_2911 : decode cL_law 2911 = .ok (.iload 6, 2) := by decide +kernel
theorem dL_law_2913 : decode cL_law 2913 = .ok (.i2l, 1) := by decide +kernel
theorem dL_law_2914 : decode cL_law 2914 = .ok (.lcmp, 1) := by decide +kernel
theorem dL_law_2915 : decode cL_law 2915 = .ok (.ifCond .eq 5, 3) := by decide +kernel
theorem dL_law_2918 : decode cL_law 2918 = .ok (.iconst 0, 1) := by decide +kernel
theorem dL_law_2919 : decode cL_law 2919 = .ok (.ireturn, 1) := by decide +kernel
theorem dL_law_2920 : decode cL_law 2920 = .ok (.goto 532, 3) := by decide +kernel
theorem dL_law_2923 : decode cL_law 2923 = .ok (.aload_n 1, 1) := by decide +kernel
theorem dL_law_2924 : decode cL_law 2924 = .ok (.aload_n 0, 1) := by decide +kernel
theorem dL_law_2925 : decode cL_law 2925 = .ok (.iload 4, 2) := by decide +kernel
theorem dL_law_2927 : decode cL_law 2927 = .ok (.iconst 1, 1) := by decide +kernel
theorem dL_law_2928 : decode cL_law 2928 = .ok (.iadd, 1) := by decide +kernel
theorem dL_law_2929 : decode cL_law 2929 = .ok (.iaload, 1) := by decide +kernel
theorem dL_law_2930 : decode cL_law 2930 = .ok (.aload_n 3, 1) := by decide +kernel
theorem dL_law_2931 : decode cL_law 2931 = .ok (.invokestatic 359, 3) := by decide +kernel
theorem dL_law_2934 : decode cL_law 2934 = .ok (.istore 5, 2) := by decide +kernel
theorem dL_law_2936 : decode cL_law 2936 = .ok (.aload_n 2, 1) := by decide +kernel
theorem dL_law_2937 : decode cL_law 2937 = .ok (.aload_n 0, 1) := by decide +kernel
theorem dL_law_2938 : decode cL_law 2938 = .ok (.iload 4, 2) := by decide +kernel
theorem dL_law_2940 : decode cL_law 2940 = .ok (.iconst 1, 1) := by decide +kernel
theorem dL_law_2941 : decode cL_law 2941 = .ok (.iadd, 1) := by decide +kernel
theorem dL_law_2942 : decode cL_law 2942 = .ok (.iaload, 1) := by decide +kernel
theorem dL_law_2943 : decode cL_law 2943 = .ok (.invokevirtual 361, 3) := by decide +kernel
theorem dL_law_2946 : decode cL_law 2946 = .ok (.istore 6, 2) := by decide +kernel
theorem dL_law_2948 : decode cL_law 2948 = .ok (.aload_n 2, 1) := by decide +kernel
theorem dL_law_2949 : decode cL_law 2949 = .ok (.invokevirtual 175, 3) := by decide +kernel
theorem dL_law_2952 : decode cL_law 2952 = .ok (.iload 5, 2) := by decide +kernel
theorem dL_law_2954 : decode cL_law 2954 = .ok (.if_icmp .eq 5, 3) := by decide +kernel
theorem dL_law_2957 : decode cL_law 2957 = .ok (.iconst 0, 1) := by decide +kernel
theorem dL_law_2958 : decode cL_law 2958 = .ok (.ireturn, 1) := by decide +kernel
theorem dL_law_2959 : decode cL_law 2959 = .ok (.iload 5, 2) := by decide +kernel
theorem dL_law_2961 : decode cL_law 2961 = .ok (.ifCond .ne 15, 3) := by decide +kernel
theorem dL_law_2964 : decode cL_law 2964 = .ok (.aload_n 3, 1) := by decide +kernel
theorem dL_law_2965 : decode cL_law 2965 = .ok (.iconst 0, 1) := by decide +kernel
theorem dL_law_2966 : decode cL_law 2966 = .ok (.laload, 1) := by decide +kernel
theorem dL_law_2967 : decode cL_law 2967 = .ok (.iload 6, 2) := by decide +kernel
theorem dL_law_2969 : decode cL_law 2969 = .ok (.i2l, 1) := by decide +kernel
theorem dL_law_2970 : decode cL_law 2970 = .ok (.lcmp, 1) := by decide +kernel
theorem dL_law_2971 : decode cL_law 2971 = .ok (.ifCond .eq 5, 3) := by decide +kernel
theorem dL_law_2974 : decode cL_law 2974 = .ok (.iconst 0, 1) := by decide +kernel
theorem dL_law_2975 : decode cL_law 2975 = .ok (.ireturn, 1) := by decide +kernel
theorem dL_law_2976 : decode cL_law 2976 = .ok (.goto 476, 3) := by decide +kernel
theorem dL_law_2979 : decode cL_law 2979 = .ok (.aload_n 1, 1) := by decide +kernel
theorem dL_law_2980 : decode cL_law 2980 = .ok (.invokevirtual 362, 3) := by decide +kernel
theorem dL_law_2983 : decode cL_law 2983 = .ok (.aload_n 2, 1) := by decide +kernel
theorem dL_law_2984 : decode cL_law 2984 = .ok (.invokevirtual 365, 3) := by decide +kernel
theorem dL_law_2987 : decode cL_law 2987 = .ok (.if_icmp .eq 465, 3) := by decide +kernel
theorem dL_law_2990 : decode cL_law 2990 = .ok (.iconst 0, 1) := by decide +kernel
theorem dL_law_2991 : decode cL_law 2991 = .ok (.ireturn, 1) := by decide +kernel
theorem dL_law_2992 : decode cL_law 2992 = .ok (.aload_n 1, 1) := by decide +kernel
theorem dL_law_2993 : decode cL_law 2993 = .ok (.aload_n 0, 1) := by decide +kernel
theorem dL_law_2994 : decode cL_law 2994 = .ok (.iload 4, 2) := by decide +kernel
theorem dL_law_2996 : decode cL_law 2996 = .ok (.iconst 1, 1) := by decide +kernel
theorem dL_law_2997 : decode cL_law 2997 = .ok (.iadd, 1) := by decide +kernel
theorem dL_law_2998 : decode cL_law 2998 = .ok (.iaload, 1) := by decide +kernel
theorem dL_law_2999 : decode cL_law 2999 = .ok (.aload_n 0, 1) := by decide +kernel
theorem dL_law_3000 : decode cL_law 3000 = .ok (.iload 4, 2) := by decide +kernel
theorem dL_law_3002 : decode cL_law 3002 = .ok (.iconst 2, 1) := by decide +kernel
theorem dL_law_3003 : decode cL_law 3003 = .ok (.iadd, 1) := by decide +kernel
theorem dL_law_3004 : decode cL_law 3004 = .ok (.iaload, 1) := by decide +kernel
theorem dL_law_3005 : decode cL_law 3005 = .ok (.aload_n 3, 1) := by decide +kernel
theorem dL_law_3006 : decode cL_law 3006 = .ok (.invokestatic 366, 3) := by decide +kernel
theorem dL_law_3009 : decode cL_law 3009 = .ok (.istore 5, 2) := by decide +kernel
theorem dL_law_3011 : decode cL_law 3011 = .ok (.aload_n 2, 1) := by decide +kernel
theorem dL_law_3012 : decode cL_law 3012 = .ok (.aload_n 0, 1) := by decide +kernel
theorem dL_law_3013 : decode cL_law 3013 = .ok (.iload 4, 2) := by decide +kernel
theorem dL_law_3015 : decode cL_law 3015 = .ok (.iconst 1, 1) := by decide +kernel
theorem dL_law_3016 : decode cL_law 3016 = .ok (.iadd, 1) := by decide +kernel
theorem dL_law_3017 : decode cL_law 3017 = .ok (.iaload, 1) := by decide +kernel
theorem dL_law_3018 : decode cL_law 3018 = .ok (.aload_n 0, 1) := by decide +kernel
theorem dL_law_3019 : decode cL_law 3019 = .ok (.iload 4, 2) := by decide +kernel
theorem dL_law_3021 : decode cL_law 3021 = .ok (.iconst 2, 1) := by decide +kernel
theorem dL_law_3022 : decode cL_law 3022 = .ok (.iadd, 1) := by decide +kernel
theorem dL_law_3023 : decode cL_law 3023 = .ok (.iaload, 1) := by decide +kernel
theorem dL_law_3024 : decode cL_law 3024 = .ok (.invokevirtual 368, 3) := by decide +kernel
theorem dL_law_3027 : decode cL_law 3027 = .ok (.istore 6, 2) := by decide +kernel
theorem dL_law_3029 : decode cL_law 3029 = .ok (.aload_n 2, 1) := by decide +kernel
theorem dL_law_3030 : decode cL_law 3030 = .ok (.invokevirtual 175, 3) := by decide +kernel
theorem dL_law_3033 : decode cL_law 3033 = .ok (.iload 5, 2) := by decide +kernel
theorem dL_law_3035 : decode cL_law 3035 = .ok (.if_icmp .eq 5, 3) := by decide +kernel
theorem dL_law_3038 : decode cL_law 3038 = .ok (.iconst 0, 1) := by decide +kernel
theorem dL_law_3039 : decode cL_law 3039 = .ok (.ireturn, 1) := by decide +kernel
theorem dL_law_3040 : decode cL_law 3040 = .ok (.iload 5, 2) := by decide +kernel
theorem dL_law_3042 : decode cL_law 3042 = .ok (.ifCond .ne 15, 3) := by decide +kernel
theorem dL_law_3045 : decode cL_law 3045 = .ok (.aload_n 3, 1) := by decide +kernel
theorem dL_law_3046 : decode cL_law 3046 = .ok (.iconst 0, 1) := by decide +kernel
theorem dL_law_3047 : decode cL_law 3047 = .ok (.laload, 1) := by decide +kernel
theorem dL_law_3048 : decode cL_law 3048 = .ok (.iload 6, 2) := by decide +kernel
theorem dL_law_3050 : decode cL_law 3050 = .ok (.i2l, 1) := by decide +kernel
theorem dL_law_3051 : decode cL_law 3051 = .ok (.lcmp, 1) := by decide +kernel
theorem dL_law_3052 : decode cL_law 3052 = .ok (.ifCond .eq 5, 3) := by decide +kernel
theorem dL_law_3055 : decode cL_law 3055 = .ok (.iconst 0, 1) := by decide +kernel
theorem dL_law_3056 : decode cL_law 3056 = .ok (.ireturn, 1) := by decide +kernel
theorem dL_law_3057 : decode cL_law 3057 = .ok (.goto 395, 3) := by decide +kernel
theorem dL_law_3060 : decode cL_law 3060 = .ok (.aload_n 1, 1) := by decide +kernel
theorem dL_law_3061 : decode cL_law 3061 = .ok (.aload_n 0, 1) := by decide +kernel
theorem dL_law_3062 : decode cL_law 3062 = .ok (.iload 4, 2) := by decide +kernel
theorem dL_law_3064 : decode cL_law 3064 = .ok (.iconst 1, 1) := by decide +kernel
theorem dL_law_3065 : decode cL_law 3065 = .ok (.iadd, 1) := by decide +kernel
theorem dL_law_3066 : decode cL_law 3066 = .ok (.iaload, 1) := by decide +kernel
theorem dL_law_3067 : decode cL_law 3067 = .ok (.aload_n 0, 1) := by decide +kernel
theorem dL_law_3068 : decode cL_law 3068 = .ok (.iload 4, 2) := by decide +kernel
theorem dL_law_3070 : decode cL_law 3070 = .ok (.iconst 2, 1) := by decide +kernel
theorem dL_law_3071 : decode cL_law 3071 = .ok (.iadd, 1) := by decide +kernel
theorem dL_law_3072 : decode cL_law 3072 = .ok (.iaload, 1) := by decide +kernel
theorem dL_law_3073 : decode cL_law 3073 = .ok (.aload_n 3, 1) := by decide +kernel
theorem dL_law_3074 : decode cL_law 3074 = .ok (.invokestatic 369, 3) := by decide +kernel
theorem dL_law_3077 : decode cL_law 3077 = .ok (.istore 5, 2) := by decide +kernel
theorem dL_law_3079 : decode cL_law 3079 = .ok (.aload_n 2, 1) := by decide +kernel
theorem dL_law_3080 : decode cL_law 3080 = .ok (.aload_n 0, 1) := by decide +kernel
theorem dL_law_3081 : decode cL_law 3081 = .ok (.iload 4, 2) := by decide +kernel
theorem dL_law_3083 : decode cL_law 3083 = .ok (.iconst 1, 1) := by decide +kernel
theorem dL_law_3084 : decode cL_law 3084 = .ok (.iadd, 1) := by decide +kernel
theorem dL_law_3085 : decode cL_law 3085 = .ok (.iaload, 1) := by decide +kernel
theorem dL_law_3086 : decode cL_law 3086 = .ok (.aload_n 0, 1) := by decide +kernel
theorem dL_law_3087 : decode cL_law 3087 = .ok (.iload 4, 2) := by decide +kernel
theorem dL_law_3089 : decode cL_law 3089 = .ok (.iconst 2, 1) := by decide +kernel
theorem dL_law_3090 : decode cL_law 3090 = .ok (.iadd, 1) := by decide +kernel
theorem dL_law_3091 : decode cL_law 3091 = .ok (.iaload, 1) := by decide +kernel
theorem dL_law_3092 : decode cL_law 3092 = .ok (.invokevirtual 371, 3) := by decide +kernel
theorem dL_law_3095 : decode cL_law 3095 = .ok (.istore 6, 2) := by decide +kernel
theorem dL_law_3097 : decode cL_law 3097 = .ok (.aload_n 2, 1) := by decide +kernel
theorem dL_law_3098 : decode cL_law 3098 = .ok (.invokevirtual 175, 3) := by decide +kernel
theorem dL_law_3101 : decode cL_law 3101 = .ok (.iload 5, 2) := by decide +kernel
theorem dL_law_3103 : decode cL_law 3103 = .ok (.if_icmp .eq 5, 3) := by decide +kernel
theorem dL_law_3106 : decode cL_law 3106 = .ok (.iconst 0, 1) := by decide +kernel
theorem dL_law_3107 : decode cL_law 3107 = .ok (.ireturn, 1) := by decide +kernel
theorem dL_law_3108 : decode cL_law 3108 = .ok (.iload 5, 2) := by decide +kernel
theorem dL_law_3110 : decode cL_law 3110 = .ok (.ifCond .ne 15, 3) := by decide +kernel
theorem dL_law_3113 : decode cL_law 3113 = .ok (.aload_n 3, 1) := by decide +kernel
theorem dL_law_3114 : decode cL_law 3114 = .ok (.iconst 0, 1) := by decide +kernel
theorem dL_law_3115 : decode cL_law 3115 = .ok (.laload, 1) := by decide +kernel
theorem dL_law_3116 : decode cL_law 3116 = .ok (.iload 6, 2) := by decide +kernel
theorem dL_law_3118 : decode cL_law 3118 = .ok (.i2l, 1) := by decide +kernel
theorem dL_law_3119 : decode cL_law 3119 = .ok (.lcmp, 1) := by decide +kernel
theorem dL_law_3120 : decode cL_law 3120 = .ok (.ifCond .eq 5, 3) := by decide +kernel
theorem dL_law_3123 : decode cL_law 3123 = .ok (.iconst 0, 1) := by decide +kernel
theorem dL_law_3124 : decode cL_law 3124 = .ok (.ireturn, 1) := by decide +kernel
theorem dL_law_3125 : decode cL_law 3125 = .ok (.goto 327, 3) := by decide +kernel
theorem dL_law_3128 : decode cL_law 3128 = .ok (.aload_n 1, 1) := by decide +kernel
theorem dL_law_3129 : decode cL_law 3129 = .ok (.aload_n 0, 1) := by decide +kernel
theorem dL_law_3130 : decode cL_law 3130 = .ok (.iload 4, 2) := by decide +kernel
theorem dL_law_3132 : decode cL_law 3132 = .ok (.iconst 1, 1) := by decide +kernel
theorem dL_law_3133 : decode cL_law 3133 = .ok (.iadd, 1) := by decide +kernel
theorem dL_law_3134 : decode cL_law 3134 = .ok (.iaload, 1) := by decide +kernel
theorem dL_law_3135 : decode cL_law 3135 = .ok (.aload_n 3, 1) := by decide +kernel
theorem dL_law_3136 : decode cL_law 3136 = .ok (.invokestatic 372, 3) := by decide +kernel
theorem dL_law_3139 : decode cL_law 3139 = .ok (.istore 5, 2) := by decide +kernel
theorem dL_law_3141 : decode cL_law 3141 = .ok (.aload_n 2, 1) := by decide +kernel
theorem dL_law_3142 : decode cL_law 3142 = .ok (.aload_n 0, 1) := by decide +kernel
theorem dL_law_3143 : decode cL_law 3143 = .ok (.iload 4, 2) := by decide +kernel
theorem dL_law_3145 : decode cL_law 3145 = .ok (.iconst 1, 1) := by decide +kernel
theorem dL_law_3146 : decode cL_law 3146 = .ok (.iadd, 1) := by decide +kernel
theorem dL_law_3147 : decode cL_law 3147 = .ok (.iaload, 1) := by decide +kernel
theorem dL_law_3148 : decode cL_law 3148 = .ok (.invokevirtual 374, 3) := by decide +kernel
theorem dL_law_3151 : decode cL_law 3151 = .ok (.istore 6, 2) := by decide +kernel
theorem dL_law_3153 : decode cL_law 3153 = .ok (.aload_n 2, 1) := by decide +kernel
theorem dL_law_3154 : decode cL_law 3154 = .ok (.invokevirtual 175, 3) := by decide +kernel
theorem dL_law_3157 : decode cL_law 3157 = .ok (.iload 5, 2) := by decide +kernel
theorem dL_law_3159 : decode cL_law 3159 = .ok (.if_icmp .eq 5, 3) := by decide +kernel
theorem dL_law_3162 : decode cL_law 3162 = .ok (.iconst 0, 1) := by decide +kernel
theorem dL_law_3163 : decode cL_law 3163 = .ok (.ireturn, 1) := by decide +kernel
theorem dL_law_3164 : decode cL_law 3164 = .ok (.iload 5, 2) := by decide +kernel
theorem dL_law_3166 : decode cL_law 3166 = .ok (.ifCond .ne 15, 3) := by decide +kernel
theorem dL_law_3169 : decode cL_law 3169 = .ok (.aload_n 3, 1) := by decide +kernel
theorem dL_law_3170 : decode cL_law 3170 = .ok (.iconst 0, 1) := by decide +kernel
theorem dL_law_3171 : decode cL_law 3171 = .ok (.laload, 1) := by decide +kernel
theorem dL_law_3172 : decode cL_law 3172 = .ok (.iload 6, 2) := by decide +kernel
theorem dL_law_3174 : decode cL_law 3174 = .ok (.i2l, 1) := by decide +kernel
theorem dL_law_3175 : decode cL_law 3175 = .ok (.lcmp, 1) := by decide +kernel
theorem dL_law_3176 : decode cL_law 3176 = .ok (.ifCond .eq 5, 3) := by decide +kernel
theorem dL_law_3179 : decode cL_law 3179 = .ok (.iconst 0, 1) := by decide +kernel
theorem dL_law_3180 : decode cL_law 3180 = .ok (.ireturn, 1) := by decide +kernel
theorem dL_law_3181 : decode cL_law 3181 = .ok (.goto 271, 3) := by decide +kernel
theorem dL_law_3184 : decode cL_law 3184 = .ok (.aload_n 1, 1) := by decide +kernel
theorem dL_law_3185 : decode cL_law 3185 = .ok (.aload_n 0, 1) := by decide +kernel
theorem dL_law_3186 : decode cL_law 3186 = .ok (.iload 4, 2) := by decide +kernel
theorem dL_law_3188 : decode cL_law 3188 = .ok (.iconst 1, 1) := by decide +kernel
theorem dL_law_3189 : decode cL_law 3189 = .ok (.iadd, 1) := by decide +kernel
theorem dL_law_3190 : decode cL_law 3190 = .ok (.iaload, 1) := by decide +kernel
theorem dL_law_3191 : decode cL_law 3191 = .ok (.aload_n 3, 1) := by decide +kernel
theorem dL_law_3192 : decode cL_law 3192 = .ok (.invokestatic 375, 3) := by decide +kernel
theorem dL_law_3195 : decode cL_law 3195 = .ok (.istore 5, 2) := by decide +kernel
theorem dL_law_3197 : decode cL_law 3197 = .ok (.aload_n 2, 1) := by decide +kernel
theorem dL_law_3198 : decode cL_law 3198 = .ok (.aload_n 0, 1) := by decide +kernel
theorem dL_law_3199 : decode cL_law 3199 = .ok (.iload 4, 2) := by decide +kernel
theorem dL_law_3201 : decode cL_law 3201 = .ok (.iconst 1, 1) := by decide +kernel
theorem dL_law_3202 : decode cL_law 3202 = .ok (.iadd, 1) := by decide +kernel
theorem dL_law_3203 : decode cL_law 3203 = .ok (.iaload, 1) := by decide +kernel
theorem dL_law_3204 : decode cL_law 3204 = .ok (.invokevirtual 377, 3) := by decide +kernel
theorem dL_law_3207 : decode cL_law 3207 = .ok (.istore 6, 2) := by decide +kernel
theorem dL_law_3209 : decode cL_law 3209 = .ok (.aload_n 2, 1) := by decide +kernel
theorem dL_law_3210 : decode cL_law 3210 = .ok (.invokevirtual 175, 3) := by decide +kernel
theorem dL_law_3213 : decode cL_law 3213 = .ok (.iload 5, 2) := by decide +kernel
theorem dL_law_3215 : decode cL_law 3215 = .ok (.if_icmp .eq 5, 3) := by decide +kernel
theorem dL_law_3218 : decode cL_law 3218 = .ok (.iconst 0, 1) := by decide +kernel
theorem dL_law_3219 : decode cL_law 3219 = .ok (.ireturn, 1) := by decide +kernel
theorem dL_law_3220 : decode cL_law 3220 = .ok (.iload 5, 2) := by decide +kernel
theorem dL_law_3222 : decode cL_law 3222 = .ok (.ifCond .ne 15, 3) := by decide +kernel
theorem dL_law_3225 : decode cL_law 3225 = .ok (.aload_n 3, 1) := by decide +kernel
theorem dL_law_3226 : decode cL_law 3226 = .ok (.iconst 0, 1) := by decide +kernel
theorem dL_law_3227 : decode cL_law 3227 = .ok (.laload, 1) := by decide +kernel
theorem dL_law_3228 : decode cL_law 3228 = .ok (.iload 6, 2) := by decide +kernel
theorem dL_law_3230 : decode cL_law 3230 = .ok (.i2l, 1) := by decide +kernel
theorem dL_law_3231 : decode cL_law 3231 = .ok (.lcmp, 1) := by decide +kernel
theorem dL_law_3232 : decode cL_law 3232 = .ok (.ifCond .eq 5, 3) := by decide +kernel
theorem dL_law_3235 : decode cL_law 3235 = .ok (.iconst 0, 1) := by decide +kernel
theorem dL_law_3236 : decode cL_law 3236 = .ok (.ireturn, 1) := by decide +kernel
theorem dL_law_3237 : decode cL_law 3237 = .ok (.goto 215, 3) := by decide +kernel
theorem dL_law_3240 : decode cL_law 3240 = .ok (.aload_n 1, 1) := by decide +kernel
theorem dL_law_3241 : decode cL_law 3241 = .ok (.aload_n 0, 1) := by decide +kernel
theorem dL_law_3242 : decode cL_law 3242 = .ok (.iload 4, 2) := by decide +kernel
theorem dL_law_3244 : decode cL_law 3244 = .ok (.iconst 1, 1) := by decide +kernel
theorem dL_law_3245 : decode cL_law 3245 = .ok (.iadd, 1) := by decide +kernel
theorem dL_law_3246 : decode cL_law 3246 = .ok (.iaload, 1) := by decide +kernel
theorem dL_law_3247 : decode cL_law 3247 = .ok (.aload_n 3, 1) := by decide +kernel
theorem dL_law_3248 : decode cL_law 3248 = .ok (.invokestatic 378, 3) := by decide +kernel
theorem dL_law_3251 : decode cL_law 3251 = .ok (.istore 5, 2) := by decide +kernel
theorem dL_law_3253 : decode cL_law 3253 = .ok (.aload_n 2, 1) := by decide +kernel
theorem dL_law_3254 : decode cL_law 3254 = .ok (.aload_n 0, 1) := by decide +kernel
theorem dL_law_3255 : decode cL_law 3255 = .ok (.iload 4, 2) := by decide +kernel
theorem dL_law_3257 : decode cL_law 3257 = .ok (.iconst 1, 1) := by decide +kernel
theorem dL_law_3258 : decode cL_law 3258 = .ok (.iadd, 1) := by decide +kernel
theorem dL_law_3259 : decode cL_law 3259 = .ok (.iaload, 1) := by decide +kernel
theorem dL_law_3260 : decode cL_law 3260 = .ok (.invokevirtual 380, 3) := by decide +kernel
theorem dL_law_3263 : decode cL_law 3263 = .ok (.istore 6, 2) := by decide +kernel
theorem dL_law_3265 : decode cL_law 3265 = .ok (.aload_n 2, 1) := by decide +kernel
theorem dL_law_3266 : decode cL_law 3266 = .ok (.invokevirtual 175, 3) := by decide +kernel
theorem dL_law_3269 : decode cL_law 3269 = .ok (.iload 5, 2) := by decide +kernel
theorem dL_law_3271 : decode cL_law 3271 = .ok (.if_icmp .eq 5, 3) := by decide +kernel
theorem dL_law_3274 : decode cL_law 3274 = .ok (.iconst 0, 1) := by decide +kernel
theorem dL_law_3275 : decode cL_law 3275 = .ok (.ireturn, 1) := by decide +kernel
theorem dL_law_3276 : decode cL_law 3276 = .ok (.iload 5, 2) := by decide +kernel
theorem dL_law_3278 : decode cL_law 3278 = .ok (.ifCond .ne 15, 3) := by decide +kernel
theorem dL_law_3281 : decode cL_law 3281 = .ok (.aload_n 3, 1) := by decide +kernel
theorem dL_law_3282 : decode cL_law 3282 = .ok (.iconst 0, 1) := by decide +kernel
theorem dL_law_3283 : decode cL_law 3283 = .ok (.laload, 1) := by decide +kernel
theorem dL_law_3284 : decode cL_law 3284 = .ok (.iload 6, 2) := by decide +kernel
theorem dL_law_3286 : decode cL_law 3286 = .ok (.i2l, 1) := by decide +kernel
theorem dL_law_3287 : decode cL_law 3287 = .ok (.lcmp, 1) := by decide +kernel
theorem dL_law_3288 : decode cL_law 3288 = .ok (.ifCond .eq 5, 3) := by decide +kernel
theorem dL_law_3291 : decode cL_law 3291 = .ok (.iconst 0, 1) := by decide +kernel
theorem dL_law_3292 : decode cL_law 3292 = .ok (.ireturn, 1) := by decide +kernel
theorem dL_law_3293 : decode cL_law 3293 = .ok (.goto 159, 3) := by decide +kernel
theorem dL_law_3296 : decode cL_law 3296 = .ok (.aload_n 1, 1) := by decide +kernel
theorem dL_law_3297 : decode cL_law 3297 = .ok (.aload_n 0, 1) := by decide +kernel
theorem dL_law_3298 : decode cL_law 3298 = .ok (.iload 4, 2) := by decide +kernel
theorem dL_law_3300 : decode cL_law 3300 = .ok (.iconst 1, 1) := by decide +kernel
theorem dL_law_3301 : decode cL_law 3301 = .ok (.iadd, 1) := by decide +kernel
theorem dL_law_3302 : decode cL_law 3302 = .ok (.iaload, 1) := by decide +kernel
theorem dL_law_3303 : decode cL_law 3303 = .ok (.aload_n 3, 1) := by decide +kernel
theorem dL_law_3304 : decode cL_law 3304 = .ok (.invokestatic 381, 3) := by decide +kernel
theorem dL_law_3307 : decode cL_law 3307 = .ok (.istore 5, 2) := by decide +kernel
theorem dL_law_3309 : decode cL_law 3309 = .ok (.aload_n 2, 1) := by decide +kernel
theorem dL_law_3310 : decode cL_law 3310 = .ok (.aload_n 0, 1) := by decide +kernel
theorem dL_law_3311 : decode cL_law 3311 = .ok (.iload 4, 2) := by decide +kernel
theorem dL_law_3313 : decode cL_law 3313 = .ok (.iconst 1, 1) := by decide +kernel
theorem dL_law_3314 : decode cL_law 3314 = .ok (.iadd, 1) := by decide +kernel
theorem dL_law_3315 : decode cL_law 3315 = .ok (.iaload, 1) := by decide +kernel
theorem dL_law_3316 : decode cL_law 3316 = .ok (.invokevirtual 383, 3) := by decide +kernel
theorem dL_law_3319 : decode cL_law 3319 = .ok (.istore 6, 2) := by decide +kernel
theorem dL_law_3321 : decode cL_law 3321 = .ok (.aload_n 2, 1) := by decide +kernel
theorem dL_law_3322 : decode cL_law 3322 = .ok (.invokevirtual 175, 3) := by decide +kernel
theorem dL_law_3325 : decode cL_law 3325 = .ok (.iload 5, 2) := by decide +kernel
theorem dL_law_3327 : decode cL_law 3327 = .ok (.if_icmp .eq 5, 3) := by decide +kernel
theorem dL_law_3330 : decode cL_law 3330 = .ok (.iconst 0, 1) := by decide +kernel
theorem dL_law_3331 : decode cL_law 3331 = .ok (.ireturn, 1) := by decide +kernel
theorem dL_law_3332 : decode cL_law 3332 = .ok (.iload 5, 2) := by decide +kernel
theorem dL_law_3334 : decode cL_law 3334 = .ok (.ifCond .ne 15, 3) := by decide +kernel
theorem dL_law_3337 : decode cL_law 3337 = .ok (.aload_n 3, 1) := by decide +kernel
theorem dL_law_3338 : decode cL_law 3338 = .ok (.iconst 0, 1) := by decide +kernel
theorem dL_law_3339 : decode cL_law 3339 = .ok (.laload, 1) := by decide +kernel
theorem dL_law_3340 : decode cL_law 3340 = .ok (.iload 6, 2) := by decide +kernel
theorem dL_law_3342 : decode cL_law 3342 = .ok (.i2l, 1) := by decide +kernel
theorem dL_law_3343 : decode cL_law 3343 = .ok (.lcmp, 1) := by decide +kernel
theorem dL_law_3344 : decode cL_law 3344 = .ok (.ifCond .eq 5, 3) := by decide +kernel
theorem dL_law_3347 : decode cL_law 3347 = .ok (.iconst 0, 1) := by decide +kernel
theorem dL_law_3348 : decode cL_law 3348 = .ok (.ireturn, 1) := by decide +kernel
theorem dL_law_3349 : decode cL_law 3349 = .ok (.goto 103, 3) := by decide +kernel
theorem dL_law_3352 : decode cL_law 3352 = .ok (.aload_n 1, 1) := by decide +kernel
theorem dL_law_3353 : decode cL_law 3353 = .ok (.aload_n 0, 1) := by decide +kernel
theorem dL_law_3354 : decode cL_law 3354 = .ok (.iload 4, 2) := by decide +kernel
theorem dL_law_3356 : decode cL_law 3356 = .ok (.iconst 1, 1) := by decide +kernel
theorem dL_law_3357 : decode cL_law 3357 = .ok (.iadd, 1) := by decide +kernel
theorem dL_law_3358 : decode cL_law 3358 = .ok (.iaload, 1) := by decide +kernel
theorem dL_law_3359 : decode cL_law 3359 = .ok (.aload_n 3, 1) := by decide +kernel
theorem dL_law_3360 : decode cL_law 3360 = .ok (.invokestatic 384, 3) := by decide +kernel
theorem dL_law_3363 : decode cL_law 3363 = .ok (.istore 5, 2) := by decide +kernel
theorem dL_law_3365 : decode cL_law 3365 = .ok (.aload_n 2, 1) := by decide +kernel
theorem dL_law_3366 : decode cL_law 3366 = .ok (.aload_n 0, 1) := by decide +kernel
theorem dL_law_3367 : decode cL_law 3367 = .ok (.iload 4, 2) := by decide +kernel
theorem dL_law_3369 : decode cL_law 3369 = .ok (.iconst 1, 1) := by decide +kernel
theorem dL_law_3370 : decode cL_law 3370 = .ok (.iadd, 1) := by decide +kernel
theorem dL_law_3371 : decode cL_law 3371 = .ok (.iaload, 1) := by decide +kernel
theorem dL_law_3372 : decode cL_law 3372 = .ok (.invokevirtual 386, 3) := by decide +kernel
theorem dL_law_3375 : decode cL_law 3375 = .ok (.istore 6, 2) := by decide +kernel
theorem dL_law_3377 : decode cL_law 3377 = .ok (.aload_n 2, 1) := by decide +kernel
theorem dL_law_3378 : decode cL_law 3378 = .ok (.invokevirtual 175, 3) := by decide +kernel
theorem dL_law_3381 : decode cL_law 3381 = .ok (.iload 5, 2) := by decide +kernel
theorem dL_law_3383 : decode cL_law 3383 = .ok (.if_icmp .eq 5, 3) := by decide +kernel
theorem dL_law_3386 : decode cL_law 3386 = .ok (.iconst 0, 1) := by decide +kernel
theorem dL_law_3387 : decode cL_law 3387 = .ok (.ireturn, 1) := by decide +kernel
theorem dL_law_3388 : decode cL_law 3388 = .ok (.iload 5, 2) := by decide +kernel
theorem dL_law_3390 : decode cL_law 3390 = .ok (.ifCond .ne 15, 3) := by decide +kernel
theorem dL_law_3393 : decode cL_law 3393 = .ok (.aload_n 3, 1) := by decide +kernel
theorem dL_law_3394 : decode cL_law 3394 = .ok (.iconst 0, 1) := by decide +kernel
theorem dL_law_3395 : decode cL_law 3395 = .ok (.laload, 1) := by decide +kernel
theorem dL_law_3396 : decode cL_law 3396 = .ok (.iload 6, 2) := by decide +kernel
theorem dL_law_3398 : decode cL_law 3398 = .ok (.i2l, 1) := by decide +kernel
theorem dL_law_3399 : decode cL_law 3399 = .ok (.lcmp, 1) := by decide +kernel
theorem dL_law_3400 : decode cL_law 3400 = .ok (.ifCond .eq 5, 3) := by decide +kernel
theorem dL_law_3403 : decode cL_law 3403 = .ok (.iconst 0, 1) := by decide +kernel
theorem dL_law_3404 : decode cL_law 3404 = .ok (.ireturn, 1) := by decide +kernel
theorem dL_law_3405 : decode cL_law 3405 = .ok (.goto 47, 3) := by decide +kernel
theorem dL_law_3408 : decode cL_law 3408 = .ok (.aload_n 1, 1) := by decide +kernel
theorem dL_law_3409 : decode cL_law 3409 = .ok (.aload_n 3, 1) := by decide +kernel
theorem dL_law_3410 : decode cL_law 3410 = .ok (.invokestatic 387, 3) := by decide +kernel
theorem dL_law_3413 : decode cL_law 3413 = .ok (.istore 5, 2) := by decide +kernel
theorem dL_law_3415 : decode cL_law 3415 = .ok (.aload_n 2, 1) := by decide +kernel
theorem dL_law_3416 : decode cL_law 3416 = .ok (.invokevirtual 389, 3) := by decide +kernel
theorem dL_law_3419 : decode cL_law 3419 = .ok (.istore 6, 2) := by decide +kernel
theorem dL_law_3421 : decode cL_law 3421 = .ok (.aload_n 2, 1) := by decide +kernel
theorem dL_law_3422 : decode cL_law 3422 = .ok (.invokevirtual 175, 3) := by decide +kernel
theorem dL_law_3425 : decode cL_law 3425 = .ok (.iload 5, 2) := by decide +kernel
theorem dL_law_3427 : decode cL_law 3427 = .ok (.if_icmp .eq 5, 3) := by decide +kernel
theorem dL_law_3430 : decode cL_law 3430 = .ok (.iconst 0, 1) := by decide +kernel
theorem dL_law_3431 : decode cL_law 3431 = .ok (.ireturn, 1) := by decide +kernel
theorem dL_law_3432 : decode cL_law 3432 = .ok (.iload 5, 2) := by decide +kernel
theorem dL_law_3434 : decode cL_law 3434 = .ok (.ifCond .ne 15, 3) := by decide +kernel
theorem dL_law_3437 : decode cL_law 3437 = .ok (.aload_n 3, 1) := by decide +kernel
theorem dL_law_3438 : decode cL_law 3438 = .ok (.iconst 0, 1) := by decide +kernel
theorem dL_law_3439 : decode cL_law 3439 = .ok (.laload, 1) := by decide +kernel
theorem dL_law_3440 : decode cL_law 3440 = .ok (.iload 6, 2) := by decide +kernel
theorem dL_law_3442 : decode cL_law 3442 = .ok (.i2l, 1) := by decide +kernel
theorem dL_law_3443 : decode cL_law 3443 = .ok (.lcmp, 1) := by decide +kernel
theorem dL_law_3444 : decode cL_law 3444 = .ok (.ifCond .eq 5, 3) := by decide +kernel
theorem dL_law_3447 : decode cL_law 3447 = .ok (.iconst 0, 1) := by decide +kernel
theorem dL_law_3448 : decode cL_law 3448 = .ok (.ireturn, 1) := by decide +kernel
theorem dL_law_3449 : decode cL_law 3449 = .ok (.goto 3, 3) := by decide +kernel
theorem dL_law_3452 : decode cL_law 3452 = .ok (.iinc 4 6, 3) := by decide +kernel
theorem dL_law_3455 : decode cL_law 3455 = .ok (.goto (-3432), 3) := by decide +kernel
theorem dL_law_3458 : decode cL_law 3458 = .ok (.iconst 1, 1) := by decide +kernel
theorem dL_law_3459 : decode cL_law 3459 = .ok (.ireturn, 1) := by decide +kernel
