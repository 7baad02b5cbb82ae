/-! Constructors. -/
theorem wk_0 : Cond.methodLink RX6 3 Lib.objectInit ∈ Wg := t1_in (List.mem_of_getElem? (i := 78) rfl) rfl
theorem wk_1 : Cond.instanceMethod Lib.objectInit ∈ Wg := t1_in (List.mem_of_getElem? (i := 39) rfl) rfl
theorem wk_2 : Cond.code Lib.objectInit ⟨#[0xb1]⟩ 1 none ∈ Wg := t1_in (List.mem_of_getElem? (i := 40) rfl) rfl
theorem wk_3 : Cond.fieldLink RX6 9 "TicketGate$Table" "limit" "I" ∈ Wg := t1_in (List.mem_of_getElem? (i := 80) rfl) rfl
theorem wk_4 : Cond.fieldLink RX6 15 "TicketGate$Table" "width" "I" ∈ Wg := t1_in (List.mem_of_getElem? (i := 81) rfl) rfl
theorem wk_5 : Cond.methodLink RX6 18 Lib.Math.max.name ∈ Wg := t1_in (List.mem_of_getElem? (i := 79) rfl) rfl
theorem wk_6 : Cond.static Lib.Math.max.name ∈ Wg := t1_in (List.mem_of_getElem? (i := 48) rfl) rfl
theorem wk_7 : Cond.initialized "java/lang/Math" ∈ Wg := t1_in (List.mem_of_getElem? (i := 3) rfl) rfl
theorem wk_8 : Cond.code Lib.Math.max.name Lib.Math.max.code 2 (some .int) ∈ Wg := t1_in (List.mem_of_getElem? (i := 49) rfl) rfl
theorem wk_9 : Cond.arrayClass .int ∈ Wg := t1_in (List.mem_of_getElem? (i := 57) rfl) rfl
theorem wk_10 : Cond.fieldLink RX6 24 "TicketGate$Table" "cells" "[I" ∈ Wg := t1_in (List.mem_of_getElem? (i := 82) rfl) rfl
theorem wk_11 : Cond.laysFinal RX2 "TicketGate$Table" "limit" "I" ∈ Wg := t1_in (List.mem_of_getElem? (i := 84) rfl) rfl
theorem wk_12 : Cond.laysFinal RX2 "TicketGate$Table" "width" "I" ∈ Wg := t1_in (List.mem_of_getElem? (i := 86) rfl) rfl
theorem wk_13 : Cond.laysFinal RX2 "TicketGate$Table" "cells" "[I" ∈ Wg := t1_in (List.mem_of_getElem? (i := 88) rfl) rfl
theorem wk_14 : Cond.lays RX2 "TicketGate$Table" "rows" "I" ∈ Wg := t1_in (List.mem_of_getElem? (i := 90) rfl) rfl
theorem wk_15 : Cond.methodLink RX2 5 yX6_init ∈ Wg := t1_in (List.mem_of_getElem? (i := 75) rfl) rfl
theorem wk_16 : Cond.code yX6_init cX6_init 3 none ∈ Wg := t1_in (List.mem_of_getElem? (i := 77) rfl) rfl
theorem wk_17 : Cond.initialized RX6 ∈ Wg := t1_in (List.mem_of_getElem? (i := 6) rfl) rfl
theorem wk_18 : Cond.instanceMethod yX6_init ∈ Wg := t1_in (List.mem_of_getElem? (i := 76) rfl) rfl
theorem wk_19 : Cond.laysFinal RX8 "TicketGate$Table" "limit" "I" ∈ Wg := t1_in (List.mem_of_getElem? (i := 99) rfl) rfl
theorem wk_20 : Cond.laysFinal RX8 "TicketGate$Table" "width" "I" ∈ Wg := t1_in (List.mem_of_getElem? (i := 100) rfl) rfl
theorem wk_21 : Cond.laysFinal RX8 "TicketGate$Table" "cells" "[I" ∈ Wg := t1_in (List.mem_of_getElem? (i := 101) rfl) rfl
theorem wk_22 : Cond.lays RX8 "TicketGate$Table" "rows" "I" ∈ Wg := t1_in (List.mem_of_getElem? (i := 102) rfl) rfl
theorem wk_23 : Cond.methodLink RX8 5 yX6_init ∈ Wg := t1_in (List.mem_of_getElem? (i := 98) rfl) rfl
theorem wk_24 : Cond.laysFinal RX3 "TicketGate$Table" "limit" "I" ∈ Wg := t1_in (List.mem_of_getElem? (i := 110) rfl) rfl
theorem wk_25 : Cond.laysFinal RX3 "TicketGate$Table" "width" "I" ∈ Wg := t1_in (List.mem_of_getElem? (i := 111) rfl) rfl
theorem wk_26 : Cond.laysFinal RX3 "TicketGate$Table" "cells" "[I" ∈ Wg := t1_in (List.mem_of_getElem? (i := 112) rfl) rfl
theorem wk_27 : Cond.lays RX3 "TicketGate$Table" "rows" "I" ∈ Wg := t1_in (List.mem_of_getElem? (i := 113) rfl) rfl
theorem wk_28 : Cond.methodLink RX3 5 yX6_init ∈ Wg := t1_in (List.mem_of_getElem? (i := 109) rfl) rfl
theorem wk_29 : Cond.laysFinal RX7 "TicketGate$Table" "limit" "I" ∈ Wg := t1_in (List.mem_of_getElem? (i := 121) rfl) rfl
theorem wk_30 : Cond.laysFinal RX7 "TicketGate$Table" "width" "I" ∈ Wg := t1_in (List.mem_of_getElem? (i := 122) rfl) rfl
theorem wk_31 : Cond.laysFinal RX7 "TicketGate$Table" "cells" "[I" ∈ Wg := t1_in (List.mem_of_getElem? (i := 123) rfl) rfl
theorem wk_32 : Cond.lays RX7 "TicketGate$Table" "rows" "I" ∈ Wg := t1_in (List.mem_of_getElem? (i := 124) rfl) rfl
theorem wk_33 : Cond.methodLink RX7 5 yX6_init ∈ Wg := t1_in (List.mem_of_getElem? (i := 120) rfl) rfl
theorem wk_34 : Cond.laysFinal RX9 "TicketGate$Table" "limit" "I" ∈ Wg := t1_in (List.mem_of_getElem? (i := 132) rfl) rfl
theorem wk_35 : Cond.laysFinal RX9 "TicketGate$Table" "width" "I" ∈ Wg := t1_in (List.mem_of_getElem? (i := 133) rfl) rfl
theorem wk_36 : Cond.laysFinal RX9 "TicketGate$Table" "cells" "[I" ∈ Wg := t1_in (List.mem_of_getElem? (i := 134) rfl) rfl
theorem wk_37 : Cond.lays RX9 "TicketGate$Table" "rows" "I" ∈ Wg := t1_in (List.mem_of_getElem? (i := 135) rfl) rfl
theorem wk_38 : Cond.methodLink RX9 5 yX6_init ∈ Wg := t1_in (List.mem_of_getElem? (i := 131) rfl) rfl
theorem wk_39 : Cond.laysFinal RX10 "TicketGate$Table" "limit" "I" ∈ Wg := t4_in (List.mem_of_getElem? (i := 86) rfl) rfl
theorem wk_40 : Cond.laysFinal RX10 "TicketGate$Table" "width" "I" ∈ Wg := t4_in (List.mem_of_getElem? (i := 87) rfl) rfl
theorem wk_41 : Cond.laysFinal RX10 "TicketGate$Table" "cells" "[I" ∈ Wg := t4_in (List.mem_of_getElem? (i := 88) rfl) rfl
theorem wk_42 : Cond.lays RX10 "TicketGate$Table" "rows" "I" ∈ Wg := t4_in (List.mem_of_getElem? (i := 89) rfl) rfl
theorem wk_43 : Cond.methodLink RX10 3 yX6_init ∈ Wg := t4_in (List.mem_of_getElem? (i := 85) rfl) rfl
theorem wk_44 : Cond.methodLink RX0 3 Lib.objectInit ∈ Wg := t1_in (List.mem_of_getElem? (i := 46) rfl) rfl
theorem wk_45 : Cond.methodLink RX0 9 Lib.Math.max.name ∈ Wg := t1_in (List.mem_of_getElem? (i := 47) rfl) rfl
theorem wk_46 : Cond.laysFinal RX0 "TicketGate$Bytes" "cells" "[I" ∈ Wg := t1_in (List.mem_of_getElem? (i := 52) rfl) rfl
theorem wk_47 : Cond.lays RX0 "TicketGate$Bytes" "count" "I" ∈ Wg := t1_in (List.mem_of_getElem? (i := 54) rfl) rfl
theorem wk_48 : Cond.fieldLink RX0 15 "TicketGate$Bytes" "cells" "[I" ∈ Wg := t1_in (List.mem_of_getElem? (i := 50) rfl) rfl
theorem wk_49 : Cond.methodLink RX4 1 Lib.objectInit ∈ Wg := t1_in (List.mem_of_getElem? (i := 216) rfl) rfl
theorem wk_50 : Cond.methodLink RX4 7 Lib.Math.max.name ∈ Wg := t1_in (List.mem_of_getElem? (i := 217) rfl) rfl
theorem wk_51 : Cond.classLink RX4 13 RX5 ∈ Wg := t1_in (List.mem_of_getElem? (i := 218) rfl) rfl
theorem wk_52 : Cond.laysFinal RX4 "TicketGate$Shelf" "states" "[LTicketGate$State;" ∈ Wg := t1_in (List.mem_of_getElem? (i := 221) rfl) rfl
theorem wk_53 : Cond.fieldLink RX4 15 "TicketGate$Shelf" "states" "[LTicketGate$State;" ∈ Wg := t1_in (List.mem_of_getElem? (i := 220) rfl) rfl
theorem wk_54 : Cond.methodLink RX5 3 Lib.objectInit ∈ Wg := t1_in (List.mem_of_getElem? (i := 69) rfl) rfl
theorem wk_55 : Cond.classLink RX5 9 RX2 ∈ Wg := t1_in (List.mem_of_getElem? (i := 70) rfl) rfl
theorem wk_56 : Cond.instantiable RX2 4 ∈ Wg := t1_in (List.mem_of_getElem? (i := 71) rfl) rfl
theorem wk_57 : Cond.initialized RX2 ∈ Wg := t1_in (List.mem_of_getElem? (i := 7) rfl) rfl
theorem wk_58 : Cond.methodLink RX5 11 yX2_init ∈ Wg := t1_in (List.mem_of_getElem? (i := 72) rfl) rfl
theorem wk_59 : Cond.code yX2_init cX2_init 1 none ∈ Wg := t1_in (List.mem_of_getElem? (i := 74) rfl) rfl
theorem wk_60 : Cond.instanceMethod yX2_init ∈ Wg := t1_in (List.mem_of_getElem? (i := 73) rfl) rfl
theorem wk_61 : Cond.laysFinal RX5 "TicketGate$State" "realms" "LTicketGate$Realms;" ∈ Wg := t1_in (List.mem_of_getElem? (i := 161) rfl) rfl
theorem wk_62 : Cond.laysFinal RX5 "TicketGate$State" "users" "LTicketGate$Users;" ∈ Wg := t1_in (List.mem_of_getElem? (i := 163) rfl) rfl
theorem wk_63 : Cond.laysFinal RX5 "TicketGate$State" "services" "LTicketGate$Services;" ∈ Wg := t1_in (List.mem_of_getElem? (i := 165) rfl) rfl
theorem wk_64 : Cond.laysFinal RX5 "TicketGate$State" "tickets" "LTicketGate$Tickets;" ∈ Wg := t1_in (List.mem_of_getElem? (i := 167) rfl) rfl
theorem wk_65 : Cond.laysFinal RX5 "TicketGate$State" "uses" "LTicketGate$Uses;" ∈ Wg := t1_in (List.mem_of_getElem? (i := 169) rfl) rfl
theorem wk_66 : Cond.lays RX5 "TicketGate$State" "time" "I" ∈ Wg := t1_in (List.mem_of_getElem? (i := 171) rfl) rfl
theorem wk_67 : Cond.lays RX5 "TicketGate$State" "tolerance" "I" ∈ Wg := t1_in (List.mem_of_getElem? (i := 173) rfl) rfl
theorem wk_68 : Cond.lays RX5 "TicketGate$State" "seed" "I" ∈ Wg := t1_in (List.mem_of_getElem? (i := 175) rfl) rfl
theorem wk_69 : Cond.lays RX5 "TicketGate$State" "madeTickets" "I" ∈ Wg := t1_in (List.mem_of_getElem? (i := 177) rfl) rfl
theorem wk_70 : Cond.lays RX5 "TicketGate$State" "cheesesOfText" "I" ∈ Wg := t1_in (List.mem_of_getElem? (i := 179) rfl) rfl
theorem wk_71 : Cond.fieldLink RX5 12 "TicketGate$State" "realms" "LTicketGate$Realms;" ∈ Wg := t1_in (List.mem_of_getElem? (i := 137) rfl) rfl
theorem wk_72 : Cond.classLink RX5 18 RX8 ∈ Wg := t1_in (List.mem_of_getElem? (i := 93) rfl) rfl
theorem wk_73 : Cond.instantiable RX8 4 ∈ Wg := t1_in (List.mem_of_getElem? (i := 94) rfl) rfl
theorem wk_74 : Cond.initialized RX8 ∈ Wg := t1_in (List.mem_of_getElem? (i := 8) rfl) rfl
theorem wk_75 : Cond.methodLink RX5 20 yX8_init ∈ Wg := t1_in (List.mem_of_getElem? (i := 95) rfl) rfl
theorem wk_76 : Cond.code yX8_init cX8_init 1 none ∈ Wg := t1_in (List.mem_of_getElem? (i := 97) rfl) rfl
theorem wk_77 : Cond.instanceMethod yX8_init ∈ Wg := t1_in (List.mem_of_getElem? (i := 96) rfl) rfl
theorem wk_78 : Cond.fieldLink RX5 21 "TicketGate$State" "users" "LTicketGate$Users;" ∈ Wg := t1_in (List.mem_of_getElem? (i := 140) rfl) rfl
theorem wk_79 : Cond.classLink RX5 25 RX3 ∈ Wg := t1_in (List.mem_of_getElem? (i := 104) rfl) rfl
theorem wk_80 : Cond.instantiable RX3 4 ∈ Wg := t1_in (List.mem_of_getElem? (i := 105) rfl) rfl
theorem wk_81 : Cond.initialized RX3 ∈ Wg := t1_in (List.mem_of_getElem? (i := 9) rfl) rfl
theorem wk_82 : Cond.methodLink RX5 27 yX3_init ∈ Wg := t1_in (List.mem_of_getElem? (i := 106) rfl) rfl
theorem wk_83 : Cond.code yX3_init cX3_init 1 none ∈ Wg := t1_in (List.mem_of_getElem? (i := 108) rfl) rfl
theorem wk_84 : Cond.instanceMethod yX3_init ∈ Wg := t1_in (List.mem_of_getElem? (i := 107) rfl) rfl
theorem wk_85 : Cond.fieldLink RX5 28 "TicketGate$State" "services" "LTicketGate$Services;" ∈ Wg := t1_in (List.mem_of_getElem? (i := 143) rfl) rfl
theorem wk_86 : Cond.classLink RX5 32 RX7 ∈ Wg := t1_in (List.mem_of_getElem? (i := 115) rfl) rfl
theorem wk_87 : Cond.instantiable RX7 4 ∈ Wg := t1_in (List.mem_of_getElem? (i := 116) rfl) rfl
theorem wk_88 : Cond.initialized RX7 ∈ Wg := t1_in (List.mem_of_getElem? (i := 10) rfl) rfl
theorem wk_89 : Cond.methodLink RX5 34 yX7_init ∈ Wg := t1_in (List.mem_of_getElem? (i := 117) rfl) rfl
theorem wk_90 : Cond.code yX7_init cX7_init 1 none ∈ Wg := t1_in (List.mem_of_getElem? (i := 119) rfl) rfl
theorem wk_91 : Cond.instanceMethod yX7_init ∈ Wg := t1_in (List.mem_of_getElem? (i := 118) rfl) rfl
theorem wk_92 : Cond.fieldLink RX5 35 "TicketGate$State" "tickets" "LTicketGate$Tickets;" ∈ Wg := t1_in (List.mem_of_getElem? (i := 146) rfl) rfl
theorem wk_93 : Cond.classLink RX5 39 RX9 ∈ Wg := t1_in (List.mem_of_getElem? (i := 126) rfl) rfl
theorem wk_94 : Cond.instantiable RX9 4 ∈ Wg := t1_in (List.mem_of_getElem? (i := 127) rfl) rfl
theorem wk_95 : Cond.initialized RX9 ∈ Wg := t1_in (List.mem_of_getElem? (i := 11) rfl) rfl
theorem wk_96 : Cond.methodLink RX5 41 yX9_init ∈ Wg := t1_in (List.mem_of_getElem? (i := 128) rfl) rfl
theorem wk_97 : Cond.code yX9_init cX9_init 1 none ∈ Wg := t1_in (List.mem_of_getElem? (i := 130) rfl) rfl
theorem wk_98 : Cond.instanceMethod yX9_init ∈ Wg := t1_in (List.mem_of_getElem? (i := 129) rfl) rfl
theorem wk_99 : Cond.fieldLink RX5 42 "TicketGate$State" "uses" "LTicketGate$Uses;" ∈ Wg := t1_in (List.mem_of_getElem? (i := 149) rfl) rfl
theorem wk_100 : Cond.methodLink RX1 3 Lib.objectInit ∈ Wg := t1_in (List.mem_of_getElem? (i := 63) rfl) rfl
theorem wk_101 : Cond.classLink RX1 9 RX5 ∈ Wg := t1_in (List.mem_of_getElem? (i := 64) rfl) rfl
theorem wk_102 : Cond.instantiable RX5 10 ∈ Wg := t1_in (List.mem_of_getElem? (i := 65) rfl) rfl
theorem wk_103 : Cond.initialized RX5 ∈ Wg := t1_in (List.mem_of_getElem? (i := 5) rfl) rfl
theorem wk_104 : Cond.code yX5_init cX5_init 1 none ∈ Wg := t1_in (List.mem_of_getElem? (i := 68) rfl) rfl
theorem wk_105 : Cond.instanceMethod yX5_init ∈ Wg := t1_in (List.mem_of_getElem? (i := 67) rfl) rfl
theorem wk_106 : Cond.laysFinal RX1 "TicketGate$Parser" "text" "LTicketGate$Bytes;" ∈ Wg := t1_in (List.mem_of_getElem? (i := 192) rfl) rfl
theorem wk_107 : Cond.laysFinal RX1 "TicketGate$Parser" "draft" "LTicketGate$State;" ∈ Wg := t1_in (List.mem_of_getElem? (i := 194) rfl) rfl
theorem wk_108 : Cond.lays RX1 "TicketGate$Parser" "start" "I" ∈ Wg := t1_in (List.mem_of_getElem? (i := 196) rfl) rfl
theorem wk_109 : Cond.lays RX1 "TicketGate$Parser" "end" "I" ∈ Wg := t1_in (List.mem_of_getElem? (i := 198) rfl) rfl
theorem wk_110 : Cond.lays RX1 "TicketGate$Parser" "kind" "I" ∈ Wg := t1_in (List.mem_of_getElem? (i := 200) rfl) rfl
theorem wk_111 : Cond.lays RX1 "TicketGate$Parser" "value" "I" ∈ Wg := t1_in (List.mem_of_getElem? (i := 202) rfl) rfl
theorem wk_112 : Cond.lays RX1 "TicketGate$Parser" "error" "I" ∈ Wg := t1_in (List.mem_of_getElem? (i := 204) rfl) rfl
theorem wk_113 : Cond.lays RX1 "TicketGate$Parser" "errorAt" "I" ∈ Wg := t1_in (List.mem_of_getElem? (i := 206) rfl) rfl
theorem wk_114 : Cond.fieldLink RX1 12 "TicketGate$Parser" "draft" "LTicketGate$State;" ∈ Wg := t1_in (List.mem_of_getElem? (i := 183) rfl) rfl
theorem wk_115 : Cond.fieldLink RX1 18 "TicketGate$Parser" "errorAt" "I" ∈ Wg := t1_in (List.mem_of_getElem? (i := 191) rfl) rfl
theorem wk_116 : Cond.fieldLink RX1 22 "TicketGate$Parser" "text" "LTicketGate$Bytes;" ∈ Wg := t1_in (List.mem_of_getElem? (i := 182) rfl) rfl
theorem layk_X2 : ∀ k, k < 4 → u_lay RX2 TX2 k ∈ Wg := fun k hk => match k, hk with
  | 0, _ => wk_11
  | 1, _ => wk_12
  | 2, _ => wk_13
  | 3, _ => wk_14
  | k + 4, h => absurd h (by omega)
theorem layk_X8 : ∀ k, k < 4 → u_lay RX8 TX8 k ∈ Wg := fun k hk => match k, hk with
  | 0, _ => wk_19
  | 1, _ => wk_20
  | 2, _ => wk_21
  | 3, _ => wk_22
  | k + 4, h => absurd h (by omega)
theorem layk_X3 : ∀ k, k < 4 → u_lay RX3 TX3 k ∈ Wg := fun k hk => match k, hk with
  | 0, _ => wk_24
  | 1, _ => wk_25
  | 2, _ => wk_26
  | 3, _ => wk_27
  | k + 4, h => absurd h (by omega)
theorem layk_X7 : ∀ k, k < 4 → u_lay RX7 TX7 k ∈ Wg := fun k hk => match k, hk with
  | 0, _ => wk_29
  | 1, _ => wk_30
  | 2, _ => wk_31
  | 3, _ => wk_32
  | k + 4, h => absurd h (by omega)
theorem layk_X9 : ∀ k, k < 4 → u_lay RX9 TX9 k ∈ Wg := fun k hk => match k, hk with
  | 0, _ => wk_34
  | 1, _ => wk_35
  | 2, _ => wk_36
  | 3, _ => wk_37
  | k + 4, h => absurd h (by omega)
theorem layk_X10 : ∀ k, k < 4 → u_lay RX10 TX10 k ∈ Wg := fun k hk => match k, hk with
  | 0, _ => wk_39
  | 1, _ => wk_40
  | 2, _ => wk_41
  | 3, _ => wk_42
  | k + 4, h => absurd h (by omega)
theorem layk_X0 : ∀ k, k < 2 → u_lay RX0 TX0 k ∈ Wg := fun k hk => match k, hk with
  | 0, _ => wk_46
  | 1, _ => wk_47
  | k + 2, h => absurd h (by omega)
theorem layk_X4 : ∀ k, k < 1 → u_lay RX4 TX4 k ∈ Wg := fun k hk => match k, hk with
  | 0, _ => wk_52
  | k + 1, h => absurd h (by omega)
theorem layk_X5 : ∀ k, k < 10 → u_lay RX5 TX5 k ∈ Wg := fun k hk => match k, hk with
  | 0, _ => wk_61
  | 1, _ => wk_62
  | 2, _ => wk_63
  | 3, _ => wk_64
  | 4, _ => wk_65
  | 5, _ => wk_66
  | 6, _ => wk_67
  | 7, _ => wk_68
  | 8, _ => wk_69
  | 9, _ => wk_70
  | k + 10, h => absurd h (by omega)
theorem layk_X1 : ∀ k, k < 8 → u_lay RX1 TX1 k ∈ Wg := fun k hk => match k, hk with
  | 0, _ => wk_106
  | 1, _ => wk_107
  | 2, _ => wk_108
  | 3, _ => wk_109
  | 4, _ => wk_110
  | 5, _ => wk_111
  | 6, _ => wk_112
  | 7, _ => wk_113
  | k + 8, h => absurd h (by omega)
theorem pd_X6_init : yX6_init.cls ≠ "java/lang/invoke/MethodHandle" ∧ yX6_init.cls ≠ "java/lang/invoke/VarHandle" ∧ (parseMethodDescriptor yX6_init.desc).map (fun d => d.parameters.length) = some 2 := by decide +kernel
set_option maxRecDepth 100000 in
set_option maxHeartbeats 4000000 in
theorem c_X6_init (l : Launch) {G : (Nat → Prop) → State → Heap → Prop} (hG : vG G) (D : va_G) (c9 : Nat → ClassId)  (a : Nat) (ci : Nat) (C9 : String) (hci : vwCl[ci]? = some (C9, TX2, 4)) (hwi : ∀ k, k < 4 → u_lay C9 TX2 k ∈ Wg) (v1 v2 : Int32) (tn : Nat) (hn : ¬ imax 0 (v1 * v2) < 0) (hN : (imax 0 (v1 * v2)).toNatClampNeg = tn) (hb : tn * componentBytes .int ≤ 536870912) : mN (S := Nat) l yX6_init (wq yX6_init cX6_init 3 none) { frames := 1, cells := 1, slots := tn, locals := 40 } G D (tyA c9) [.ref a, .int v1, .int v2] [(a, .inr (ci, [.int 0, .int 0, .null, .int 0]))] [] 1 (tn) (fun _ => True) (fun q => [(a, .inr (ci, [.int v1, .int v2, .ref q, .int 0])), (q, .inl (c9 0, tn, .inl (fun _ => 0)))]) := by
  refine mN_of hG (cc := cX6_init) (maxL := 3) (by decide) rfl (Nat.le_of_ble_eq_true rfl) ?_
  intro p e s m args below meth c A hnm X
  have X : vX p s m args meth c cX6_init 3 none RX6 (wq yX6_init cX6_init 3 none) D (tyA c9) G A := X
  have hnm : meth.name = "<init>" := hnm
  refine v_eq (lv2 := [(0, .ref a), (1, .int v1), (2, .int v2)]) rfl rfl rfl rfl ?_
  refine v_aload_n X dX6_init_0 0 rfl rfl 1 rfl ?_
  refine v_oinit X dX6_init_1 (mw wk_0) (mw wk_1) (mw wk_2) (by first | exact Nat.le_of_ble_eq_true rfl | exact Nat.le_of_eq (Nat.zero_add _) | omega) (by first | exact Nat.le_of_ble_eq_true rfl | exact Nat.le_of_eq (Nat.zero_add _) | omega) 4 rfl ?_
  refine v_aload_n X dX6_init_4 0 rfl rfl 5 rfl ?_
  refine v_iload_n X dX6_init_5 1 rfl rfl 6 rfl ?_
  refine v_putF X (C := C9) (T := TX2) (N := 4) (ci := ci) (ty := tyX2 0) (ws' := [(a, .inr (ci, [.int v1, .int 0, .null, .int 0]))]) dX6_init_6 (lay_of hwi) 0 rfl hci 0 (by decide) tyX2 tyX2_ok nmX2 (mw wk_3) rfl rfl hnm rfl (tyX2_ok 0 (by decide)) rfl rfl (Nat.le_of_ble_eq_true rfl) rfl 9 rfl ?_
  refine v_aload_n X dX6_init_9 0 rfl rfl 10 rfl ?_
  refine v_iload_n X dX6_init_10 2 rfl rfl 11 rfl ?_
  refine v_putF X (C := C9) (T := TX2) (N := 4) (ci := ci) (ty := tyX2 1) (ws' := [(a, .inr (ci, [.int v1, .int v2, .null, .int 0]))]) dX6_init_11 (lay_of hwi) 0 rfl hci 1 (by decide) tyX2 tyX2_ok nmX2 (mw wk_4) rfl rfl hnm rfl (tyX2_ok 1 (by decide)) rfl rfl (Nat.le_of_ble_eq_true rfl) rfl 14 rfl ?_
  refine v_aload_n X dX6_init_14 0 rfl rfl 15 rfl ?_
  refine v_iconst X dX6_init_15 ic_0 16 rfl ?_
  refine v_iload_n X dX6_init_16 1 rfl rfl 17 rfl ?_
  refine v_iload_n X dX6_init_17 2 rfl rfl 18 rfl ?_
  refine v_imul X dX6_init_18 19 rfl ?_
  refine v_mmax X dX6_init_19 (mw wk_5) (mw wk_6) (mw wk_7) (mw wk_8) (Nat.le_of_ble_eq_true rfl) (Nat.le_of_ble_eq_true rfl) (Nat.zero_le _) (Nat.zero_le _) 22 rfl ?_
  refine v_newa X (ty := .int) (a0 := (tn, .inl (fun _ => 0))) dX6_init_22 (mw wk_9) rfl 0 rfl (fun _ _ h1 h2 => Option.some.inj (h1.symm.trans h2)) (fun _ => rfl) hn hN hb (by first | exact Nat.le_of_ble_eq_true rfl | exact Nat.le_of_eq (Nat.zero_add _) | omega) (by first | exact Nat.le_of_ble_eq_true rfl | exact Nat.le_of_eq (Nat.zero_add _) | omega) 24 rfl (fun q4 => ?_)
  refine v_eq (ws2 := [(a, .inr (ci, [.int v1, .int v2, .null, .int 0])), (q4, .inl (c9 0, tn, .inl (fun _ => 0)))]) rfl rfl rfl rfl ?_
  refine v_putF X (C := C9) (T := TX2) (N := 4) (ci := ci) (ty := tyX2 2) (ws' := [(a, .inr (ci, [.int v1, .int v2, .ref q4, .int 0])), (q4, .inl (c9 0, tn, .inl (fun _ => 0)))]) dX6_init_24 (lay_of hwi) 0 rfl hci 2 (by decide) tyX2 tyX2_ok nmX2 (mw wk_10) rfl rfl hnm rfl (tyX2_ok 2 (by decide)) rfl rfl (Nat.le_of_ble_eq_true rfl) rfl 27 rfl ?_
  exact v_nret q4 trivial (List.Perm.of_eq rfl) X (by first | exact Nat.le_of_ble_eq_true rfl | exact Nat.le_of_eq (Nat.zero_add _) | omega) (by first | exact Nat.le_of_ble_eq_true rfl | exact Nat.le_of_eq (Nat.zero_add _) | omega) dX6_init_27
theorem pd_X2_init : yX2_init.cls ≠ "java/lang/invoke/MethodHandle" ∧ yX2_init.cls ≠ "java/lang/invoke/VarHandle" ∧ (parseMethodDescriptor yX2_init.desc).map (fun d => d.parameters.length) = some 0 := by decide +kernel
set_option maxRecDepth 100000 in
set_option maxHeartbeats 4000000 in
theorem c_X2_init (l : Launch) {G : (Nat → Prop) → State → Heap → Prop} (hG : vG G) (D : va_G) (c9 : Nat → ClassId)  (a : Nat) : mN (S := Nat) l yX2_init (wq yX2_init cX2_init 1 none) { frames := 2, cells := 1, slots := 25, locals := 62 } G D (tyA c9) [.ref a] [(a, .inr (4, [.int 0, .int 0, .null, .int 0]))] [] 1 (25) (fun _ => True) (fun q => [(a, .inr (4, [.int 5, .int 5, .ref q, .int 0])), (q, .inl (c9 0, 25, .inl (fun _ => 0)))]) := by
  refine mN_of hG (cc := cX2_init) (maxL := 1) (by decide) rfl (Nat.le_of_ble_eq_true rfl) ?_
  intro p e s m args below meth c A hnm X
  have X : vX p s m args meth c cX2_init 1 none RX2 (wq yX2_init cX2_init 1 none) D (tyA c9) G A := X
  have hnm : meth.name = "<init>" := hnm
  refine v_eq (lv2 := [(0, .ref a)]) rfl rfl rfl rfl ?_
  refine v_aload_n X dX2_init_0 0 rfl rfl 1 rfl ?_
  refine v_iconst X dX2_init_1 ic_5 2 rfl ?_
  refine v_iconst X dX2_init_2 ic_5 3 rfl ?_
  refine v_callIn X (S := Nat) (As := [.int 5, .int 5]) (rest := []) (ws' := fun u4 => [(a, .inr (4, [.int 5, .int 5, .ref u4, .int 0])), (u4, .inl (c9 0, 25, .inl (fun _ => 0)))]) (c_X6_init l hG D c9 a 4 RX2 rfl layk_X2 5 5 25 (by decide) (by decide) (by decide)) 2 (wg_sub _ wk_16 _) rfl rfl rfl (mw wk_17) (mw wk_15) (mw wk_18) rfl pd_X6_init ⟨Nat.le_of_ble_eq_true rfl, Nat.le_of_ble_eq_true rfl⟩ rfl rfl (Nat.le_of_ble_eq_true rfl) ⟨(by first | exact Nat.le_of_ble_eq_true rfl | exact Nat.le_of_eq (Nat.zero_add _) | omega), (by first | exact Nat.le_of_ble_eq_true rfl | exact Nat.le_of_eq (Nat.zero_add _) | omega)⟩ [0] [] [0, 1] rfl rfl (fun _ => rfl) rfl dX2_init_3 6 rfl (fun u4 hpu4 => ?_)
  refine v_eq (ws2 := [(a, .inr (4, [.int 5, .int 5, .ref u4, .int 0])), (u4, .inl (c9 0, 25, .inl (fun _ => 0)))]) rfl rfl rfl rfl ?_
  exact v_nret u4 trivial (List.Perm.of_eq rfl) X (by first | exact Nat.le_of_ble_eq_true rfl | exact Nat.le_of_eq (Nat.zero_add _) | omega) (by first | exact Nat.le_of_ble_eq_true rfl | exact Nat.le_of_eq (Nat.zero_add _) | omega) dX2_init_6
theorem pd_X8_init : yX8_init.cls ≠ "java/lang/invoke/MethodHandle" ∧ yX8_init.cls ≠ "java/lang/invoke/VarHandle" ∧ (parseMethodDescriptor yX8_init.desc).map (fun d => d.parameters.length) = some 0 := by decide +kernel
set_option maxRecDepth 100000 in
set_option maxHeartbeats 4000000 in
theorem c_X8_init (l : Launch) {G : (Nat → Prop) → State → Heap → Prop} (hG : vG G) (D : va_G) (c9 : Nat → ClassId)  (a : Nat) : mN (S := Nat) l yX8_init (wq yX8_init cX8_init 1 none) { frames := 2, cells := 1, slots := 30, locals := 62 } G D (tyA c9) [.ref a] [(a, .inr (9, [.int 0, .int 0, .null, .int 0]))] [] 1 (30) (fun _ => True) (fun q => [(a, .inr (9, [.int 6, .int 5, .ref q, .int 0])), (q, .inl (c9 0, 30, .inl (fun _ => 0)))]) := by
  refine mN_of hG (cc := cX8_init) (maxL := 1) (by decide) rfl (Nat.le_of_ble_eq_true rfl) ?_
  intro p e s m args below meth c A hnm X
  have X : vX p s m args meth c cX8_init 1 none RX8 (wq yX8_init cX8_init 1 none) D (tyA c9) G A := X
  have hnm : meth.name = "<init>" := hnm
  refine v_eq (lv2 := [(0, .ref a)]) rfl rfl rfl rfl ?_
  refine v_aload_n X dX8_init_0 0 rfl rfl 1 rfl ?_
  refine v_bipush X dX8_init_1 bp_6 3 rfl ?_
  refine v_iconst X dX8_init_3 ic_5 4 rfl ?_
  refine v_callIn X (S := Nat) (As := [.int 6, .int 5]) (rest := []) (ws' := fun u4 => [(a, .inr (9, [.int 6, .int 5, .ref u4, .int 0])), (u4, .inl (c9 0, 30, .inl (fun _ => 0)))]) (c_X6_init l hG D c9 a 9 RX8 rfl layk_X8 6 5 30 (by decide) (by decide) (by decide)) 2 (wg_sub _ wk_16 _) rfl rfl rfl (mw wk_17) (mw wk_23) (mw wk_18) rfl pd_X6_init ⟨Nat.le_of_ble_eq_true rfl, Nat.le_of_ble_eq_true rfl⟩ rfl rfl (Nat.le_of_ble_eq_true rfl) ⟨(by first | exact Nat.le_of_ble_eq_true rfl | exact Nat.le_of_eq (Nat.zero_add _) | omega), (by first | exact Nat.le_of_ble_eq_true rfl | exact Nat.le_of_eq (Nat.zero_add _) | omega)⟩ [0] [] [0, 1] rfl rfl (fun _ => rfl) rfl dX8_init_4 7 rfl (fun u4 hpu4 => ?_)
  refine v_eq (ws2 := [(a, .inr (9, [.int 6, .int 5, .ref u4, .int 0])), (u4, .inl (c9 0, 30, .inl (fun _ => 0)))]) rfl rfl rfl rfl ?_
  exact v_nret u4 trivial (List.Perm.of_eq rfl) X (by first | exact Nat.le_of_ble_eq_true rfl | exact Nat.le_of_eq (Nat.zero_add _) | omega) (by first | exact Nat.le_of_ble_eq_true rfl | exact Nat.le_of_eq (Nat.zero_add _) | omega) dX8_init_7
theorem pd_X3_init : yX3_init.cls ≠ "java/lang/invoke/MethodHandle" ∧ yX3_init.cls ≠ "java/lang/invoke/VarHandle" ∧ (parseMethodDescriptor yX3_init.desc).map (fun d => d.parameters.length) = some 0 := by decide +kernel
set_option maxRecDepth 100000 in
set_option maxHeartbeats 4000000 in
theorem c_X3_init (l : Launch) {G : (Nat → Prop) → State → Heap → Prop} (hG : vG G) (D : va_G) (c9 : Nat → ClassId)  (a : Nat) : mN (S := Nat) l yX3_init (wq yX3_init cX3_init 1 none) { frames := 2, cells := 1, slots := 18, locals := 62 } G D (tyA c9) [.ref a] [(a, .inr (5, [.int 0, .int 0, .null, .int 0]))] [] 1 (18) (fun _ => True) (fun q => [(a, .inr (5, [.int 6, .int 3, .ref q, .int 0])), (q, .inl (c9 0, 18, .inl (fun _ => 0)))]) := by
  refine mN_of hG (cc := cX3_init) (maxL := 1) (by decide) rfl (Nat.le_of_ble_eq_true rfl) ?_
  intro p e s m args below meth c A hnm X
  have X : vX p s m args meth c cX3_init 1 none RX3 (wq yX3_init cX3_init 1 none) D (tyA c9) G A := X
  have hnm : meth.name = "<init>" := hnm
  refine v_eq (lv2 := [(0, .ref a)]) rfl rfl rfl rfl ?_
  refine v_aload_n X dX3_init_0 0 rfl rfl 1 rfl ?_
  refine v_bipush X dX3_init_1 bp_6 3 rfl ?_
  refine v_iconst X dX3_init_3 ic_3 4 rfl ?_
  refine v_callIn X (S := Nat) (As := [.int 6, .int 3]) (rest := []) (ws' := fun u4 => [(a, .inr (5, [.int 6, .int 3, .ref u4, .int 0])), (u4, .inl (c9 0, 18, .inl (fun _ => 0)))]) (c_X6_init l hG D c9 a 5 RX3 rfl layk_X3 6 3 18 (by decide) (by decide) (by decide)) 2 (wg_sub _ wk_16 _) rfl rfl rfl (mw wk_17) (mw wk_28) (mw wk_18) rfl pd_X6_init ⟨Nat.le_of_ble_eq_true rfl, Nat.le_of_ble_eq_true rfl⟩ rfl rfl (Nat.le_of_ble_eq_true rfl) ⟨(by first | exact Nat.le_of_ble_eq_true rfl | exact Nat.le_of_eq (Nat.zero_add _) | omega), (by first | exact Nat.le_of_ble_eq_true rfl | exact Nat.le_of_eq (Nat.zero_add _) | omega)⟩ [0] [] [0, 1] rfl rfl (fun _ => rfl) rfl dX3_init_4 7 rfl (fun u4 hpu4 => ?_)
  refine v_eq (ws2 := [(a, .inr (5, [.int 6, .int 3, .ref u4, .int 0])), (u4, .inl (c9 0, 18, .inl (fun _ => 0)))]) rfl rfl rfl rfl ?_
  exact v_nret u4 trivial (List.Perm.of_eq rfl) X (by first | exact Nat.le_of_ble_eq_true rfl | exact Nat.le_of_eq (Nat.zero_add _) | omega) (by first | exact Nat.le_of_ble_eq_true rfl | exact Nat.le_of_eq (Nat.zero_add _) | omega) dX3_init_7
theorem pd_X7_init : yX7_init.cls ≠ "java/lang/invoke/MethodHandle" ∧ yX7_init.cls ≠ "java/lang/invoke/VarHandle" ∧ (parseMethodDescriptor yX7_init.desc).map (fun d => d.parameters.length) = some 0 := by decide +kernel
set_option maxRecDepth 100000 in
set_option maxHeartbeats 4000000 in
theorem c_X7_init (l : Launch) {G : (Nat → Prop) → State → Heap → Prop} (hG : vG G) (D : va_G) (c9 : Nat → ClassId)  (a : Nat) : mN (S := Nat) l yX7_init (wq yX7_init cX7_init 1 none) { frames := 2, cells := 1, slots := 240, locals := 62 } G D (tyA c9) [.ref a] [(a, .inr (8, [.int 0, .int 0, .null, .int 0]))] [] 1 (240) (fun _ => True) (fun q => [(a, .inr (8, [.int 24, .int 10, .ref q, .int 0])), (q, .inl (c9 0, 240, .inl (fun _ => 0)))]) := by
  refine mN_of hG (cc := cX7_init) (maxL := 1) (by decide) rfl (Nat.le_of_ble_eq_true rfl) ?_
  intro p e s m args below meth c A hnm X
  have X : vX p s m args meth c cX7_init 1 none RX7 (wq yX7_init cX7_init 1 none) D (tyA c9) G A := X
  have hnm : meth.name = "<init>" := hnm
  refine v_eq (lv2 := [(0, .ref a)]) rfl rfl rfl rfl ?_
  refine v_aload_n X dX7_init_0 0 rfl rfl 1 rfl ?_
  refine v_bipush X dX7_init_1 bp_24 3 rfl ?_
  refine v_bipush X dX7_init_3 bp_10 5 rfl ?_
  refine v_callIn X (S := Nat) (As := [.int 24, .int 10]) (rest := []) (ws' := fun u4 => [(a, .inr (8, [.int 24, .int 10, .ref u4, .int 0])), (u4, .inl (c9 0, 240, .inl (fun _ => 0)))]) (c_X6_init l hG D c9 a 8 RX7 rfl layk_X7 24 10 240 (by decide) (by decide) (by decide)) 2 (wg_sub _ wk_16 _) rfl rfl rfl (mw wk_17) (mw wk_33) (mw wk_18) rfl pd_X6_init ⟨Nat.le_of_ble_eq_true rfl, Nat.le_of_ble_eq_true rfl⟩ rfl rfl (Nat.le_of_ble_eq_true rfl) ⟨(by first | exact Nat.le_of_ble_eq_true rfl | exact Nat.le_of_eq (Nat.zero_add _) | omega), (by first | exact Nat.le_of_ble_eq_true rfl | exact Nat.le_of_eq (Nat.zero_add _) | omega)⟩ [0] [] [0, 1] rfl rfl (fun _ => rfl) rfl dX7_init_5 8 rfl (fun u4 hpu4 => ?_)
  refine v_eq (ws2 := [(a, .inr (8, [.int 24, .int 10, .ref u4, .int 0])), (u4, .inl (c9 0, 240, .inl (fun _ => 0)))]) rfl rfl rfl rfl ?_
  exact v_nret u4 trivial (List.Perm.of_eq rfl) X (by first | exact Nat.le_of_ble_eq_true rfl | exact Nat.le_of_eq (Nat.zero_add _) | omega) (by first | exact Nat.le_of_ble_eq_true rfl | exact Nat.le_of_eq (Nat.zero_add _) | omega) dX7_init_8
theorem pd_X9_init : yX9_init.cls ≠ "java/lang/invoke/MethodHandle" ∧ yX9_init.cls ≠ "java/lang/invoke/VarHandle" ∧ (parseMethodDescriptor yX9_init.desc).map (fun d => d.parameters.length) = some 0 := by decide +kernel
set_option maxRecDepth 100000 in
set_option maxHeartbeats 4000000 in
theorem c_X9_init (l : Launch) {G : (Nat → Prop) → State → Heap → Prop} (hG : vG G) (D : va_G) (c9 : Nat → ClassId)  (a : Nat) : mN (S := Nat) l yX9_init (wq yX9_init cX9_init 1 none) { frames := 2, cells := 1, slots := 120, locals := 62 } G D (tyA c9) [.ref a] [(a, .inr (10, [.int 0, .int 0, .null, .int 0]))] [] 1 (120) (fun _ => True) (fun q => [(a, .inr (10, [.int 30, .int 4, .ref q, .int 0])), (q, .inl (c9 0, 120, .inl (fun _ => 0)))]) := by
  refine mN_of hG (cc := cX9_init) (maxL := 1) (by decide) rfl (Nat.le_of_ble_eq_true rfl) ?_
  intro p e s m args below meth c A hnm X
  have X : vX p s m args meth c cX9_init 1 none RX9 (wq yX9_init cX9_init 1 none) D (tyA c9) G A := X
  have hnm : meth.name = "<init>" := hnm
  refine v_eq (lv2 := [(0, .ref a)]) rfl rfl rfl rfl ?_
  refine v_aload_n X dX9_init_0 0 rfl rfl 1 rfl ?_
  refine v_bipush X dX9_init_1 bp_30 3 rfl ?_
  refine v_iconst X dX9_init_3 ic_4 4 rfl ?_
  refine v_callIn X (S := Nat) (As := [.int 30, .int 4]) (rest := []) (ws' := fun u4 => [(a, .inr (10, [.int 30, .int 4, .ref u4, .int 0])), (u4, .inl (c9 0, 120, .inl (fun _ => 0)))]) (c_X6_init l hG D c9 a 10 RX9 rfl layk_X9 30 4 120 (by decide) (by decide) (by decide)) 2 (wg_sub _ wk_16 _) rfl rfl rfl (mw wk_17) (mw wk_38) (mw wk_18) rfl pd_X6_init ⟨Nat.le_of_ble_eq_true rfl, Nat.le_of_ble_eq_true rfl⟩ rfl rfl (Nat.le_of_ble_eq_true rfl) ⟨(by first | exact Nat.le_of_ble_eq_true rfl | exact Nat.le_of_eq (Nat.zero_add _) | omega), (by first | exact Nat.le_of_ble_eq_true rfl | exact Nat.le_of_eq (Nat.zero_add _) | omega)⟩ [0] [] [0, 1] rfl rfl (fun _ => rfl) rfl dX9_init_4 7 rfl (fun u4 hpu4 => ?_)
  refine v_eq (ws2 := [(a, .inr (10, [.int 30, .int 4, .ref u4, .int 0])), (u4, .inl (c9 0, 120, .inl (fun _ => 0)))]) rfl rfl rfl rfl ?_
  exact v_nret u4 trivial (List.Perm.of_eq rfl) X (by first | exact Nat.le_of_ble_eq_true rfl | exact Nat.le_of_eq (Nat.zero_add _) | omega) (by first | exact Nat.le_of_ble_eq_true rfl | exact Nat.le_of_eq (Nat.zero_add _) | omega) dX9_init_7
theorem pd_X10_init : yX10_init.cls ≠ "java/lang/invoke/MethodHandle" ∧ yX10_init.cls ≠ "java/lang/invoke/VarHandle" ∧ (parseMethodDescriptor yX10_init.desc).map (fun d => d.parameters.length) = some 0 := by decide +kernel
set_option maxRecDepth 100000 in
set_option maxHeartbeats 4000000 in
theorem c_X10_init (l : Launch) {G : (Nat → Prop) → State → Heap → Prop} (hG : vG G) (D : va_G) (c9 : Nat → ClassId)  (a : Nat) : mN (S := Nat) l yX10_init (wq yX10_init cX10_init 1 none) { frames := 2, cells := 1, slots := 25, locals := 62 } G D (tyA c9) [.ref a] [(a, .inr (11, [.int 0, .int 0, .null, .int 0]))] [] 1 (25) (fun _ => True) (fun q => [(a, .inr (11, [.int 5, .int 5, .ref q, .int 0])), (q, .inl (c9 0, 25, .inl (fun _ => 0)))]) := by
  refine mN_of hG (cc := cX10_init) (maxL := 1) (by decide) rfl (Nat.le_of_ble_eq_true rfl) ?_
  intro p e s m args below meth c A hnm X
  have X : vX p s m args meth c cX10_init 1 none RX10 (wq yX10_init cX10_init 1 none) D (tyA c9) G A := X
  have hnm : meth.name = "<init>" := hnm
  refine v_eq (lv2 := [(0, .ref a)]) rfl rfl rfl rfl ?_
  refine v_aload_n X dX10_init_0 0 rfl rfl 1 rfl ?_
  refine v_iconst X dX10_init_1 ic_5 2 rfl ?_
  refine v_iconst X dX10_init_2 ic_5 3 rfl ?_
  refine v_callIn X (S := Nat) (As := [.int 5, .int 5]) (rest := []) (ws' := fun u4 => [(a, .inr (11, [.int 5, .int 5, .ref u4, .int 0])), (u4, .inl (c9 0, 25, .inl (fun _ => 0)))]) (c_X6_init l hG D c9 a 11 RX10 rfl layk_X10 5 5 25 (by decide) (by decide) (by decide)) 2 (wg_sub _ wk_16 _) rfl rfl rfl (mw wk_17) (mw wk_43) (mw wk_18) rfl pd_X6_init ⟨Nat.le_of_ble_eq_true rfl, Nat.le_of_ble_eq_true rfl⟩ rfl rfl (Nat.le_of_ble_eq_true rfl) ⟨(by first | exact Nat.le_of_ble_eq_true rfl | exact Nat.le_of_eq (Nat.zero_add _) | omega), (by first | exact Nat.le_of_ble_eq_true rfl | exact Nat.le_of_eq (Nat.zero_add _) | omega)⟩ [0] [] [0, 1] rfl rfl (fun _ => rfl) rfl dX10_init_3 6 rfl (fun u4 hpu4 => ?_)
  refine v_eq (ws2 := [(a, .inr (11, [.int 5, .int 5, .ref u4, .int 0])), (u4, .inl (c9 0, 25, .inl (fun _ => 0)))]) rfl rfl rfl rfl ?_
  exact v_nret u4 trivial (List.Perm.of_eq rfl) X (by first | exact Nat.le_of_ble_eq_true rfl | exact Nat.le_of_eq (Nat.zero_add _) | omega) (by first | exact Nat.le_of_ble_eq_true rfl | exact Nat.le_of_eq (Nat.zero_add _) | omega) dX10_init_6
theorem pd_X0_init : yX0_init.cls ≠ "java/lang/invoke/MethodHandle" ∧ yX0_init.cls ≠ "java/lang/invoke/VarHandle" ∧ (parseMethodDescriptor yX0_init.desc).map (fun d => d.parameters.length) = some 1 := by decide +kernel
set_option maxRecDepth 100000 in
set_option maxHeartbeats 4000000 in
theorem c_X0_init (l : Launch) {G : (Nat → Prop) → State → Heap → Prop} (hG : vG G) (D : va_G) (c9 : Nat → ClassId)  (a : Nat) (v1 : Int32) (tn : Nat) (hn : ¬ imax 0 v1 < 0) (hN : (imax 0 v1).toNatClampNeg = tn) (hb : tn * componentBytes .int ≤ 536870912) : mN (S := Nat) l yX0_init (wq yX0_init cX0_init 2 none) { frames := 1, cells := 1, slots := tn, locals := 40 } G D (tyA c9) [.ref a, .int v1] [(a, .inr (2, [.null, .int 0]))] [] 1 (tn) (fun _ => True) (fun q => [(a, .inr (2, [.ref q, .int 0])), (q, .inl (c9 0, tn, .inl (fun _ => 0)))]) := by
  refine mN_of hG (cc := cX0_init) (maxL := 2) (by decide) rfl (Nat.le_of_ble_eq_true rfl) ?_
  intro p e s m args below meth c A hnm X
  have X : vX p s m args meth c cX0_init 2 none RX0 (wq yX0_init cX0_init 2 none) D (tyA c9) G A := X
  have hnm : meth.name = "<init>" := hnm
  refine v_eq (lv2 := [(0, .ref a), (1, .int v1)]) rfl rfl rfl rfl ?_
  refine v_aload_n X dX0_init_0 0 rfl rfl 1 rfl ?_
  refine v_oinit X dX0_init_1 (mw wk_44) (mw wk_1) (mw wk_2) (by first | exact Nat.le_of_ble_eq_true rfl | exact Nat.le_of_eq (Nat.zero_add _) | omega) (by first | exact Nat.le_of_ble_eq_true rfl | exact Nat.le_of_eq (Nat.zero_add _) | omega) 4 rfl ?_
  refine v_aload_n X dX0_init_4 0 rfl rfl 5 rfl ?_
  refine v_iconst X dX0_init_5 ic_0 6 rfl ?_
  refine v_iload_n X dX0_init_6 1 rfl rfl 7 rfl ?_
  refine v_mmax X dX0_init_7 (mw wk_45) (mw wk_6) (mw wk_7) (mw wk_8) (Nat.le_of_ble_eq_true rfl) (Nat.le_of_ble_eq_true rfl) (Nat.zero_le _) (Nat.zero_le _) 10 rfl ?_
  refine v_newa X (ty := .int) (a0 := (tn, .inl (fun _ => 0))) dX0_init_10 (mw wk_9) rfl 0 rfl (fun _ _ h1 h2 => Option.some.inj (h1.symm.trans h2)) (fun _ => rfl) hn hN hb (by first | exact Nat.le_of_ble_eq_true rfl | exact Nat.le_of_eq (Nat.zero_add _) | omega) (by first | exact Nat.le_of_ble_eq_true rfl | exact Nat.le_of_eq (Nat.zero_add _) | omega) 12 rfl (fun q2 => ?_)
  refine v_eq (ws2 := [(a, .inr (2, [.null, .int 0])), (q2, .inl (c9 0, tn, .inl (fun _ => 0)))]) rfl rfl rfl rfl ?_
  refine v_putF X (C := RX0) (T := TX0) (N := 2) (ci := 2) (ty := tyX0 0) (ws' := [(a, .inr (2, [.ref q2, .int 0])), (q2, .inl (c9 0, tn, .inl (fun _ => 0)))]) dX0_init_12 (lay_of layk_X0) 0 rfl rfl 0 (by decide) tyX0 tyX0_ok nmX0 (mw wk_48) rfl rfl hnm rfl (tyX0_ok 0 (by decide)) rfl rfl (Nat.le_of_ble_eq_true rfl) rfl 15 rfl ?_
  exact v_nret q2 trivial (List.Perm.of_eq rfl) X (by first | exact Nat.le_of_ble_eq_true rfl | exact Nat.le_of_eq (Nat.zero_add _) | omega) (by first | exact Nat.le_of_ble_eq_true rfl | exact Nat.le_of_eq (Nat.zero_add _) | omega) dX0_init_15
theorem pd_X4_init : yX4_init.cls ≠ "java/lang/invoke/MethodHandle" ∧ yX4_init.cls ≠ "java/lang/invoke/VarHandle" ∧ (parseMethodDescriptor yX4_init.desc).map (fun d => d.parameters.length) = some 1 := by decide +kernel
set_option maxRecDepth 100000 in
set_option maxHeartbeats 4000000 in
theorem c_X4_init (l : Launch) {G : (Nat → Prop) → State → Heap → Prop} (hG : vG G) (D : va_G) (c9 : Nat → ClassId)  (hGA : ∀ (A : Nat → Prop) (U : State) (H : Heap), G A U H → va_AO RX5 U) (a : Nat) (v1 : Int32) (tn : Nat) (hn : ¬ imax 0 v1 < 0) (hN : (imax 0 v1).toNatClampNeg = tn) (hb : tn * 4 ≤ 536870912) : mN (S := Nat) l yX4_init (wq yX4_init cX4_init 2 none) { frames := 1, cells := 1, slots := tn, locals := 40 } G D (tyA c9) [.ref a, .int v1] [(a, .inr (6, [.null]))] [] 1 (tn) (fun _ => True) (fun q => [(a, .inr (6, [.ref q])), (q, .inl (c9 3, tn, .inr (.inr (.inr (.inr (fun _ => none))))))]) := by
  refine mN_of hG (cc := cX4_init) (maxL := 2) (by decide) rfl (Nat.le_of_ble_eq_true rfl) ?_
  intro p e s m args below meth c A hnm X
  have X : vX p s m args meth c cX4_init 2 none RX4 (wq yX4_init cX4_init 2 none) D (tyA c9) G A := X
  have hnm : meth.name = "<init>" := hnm
  refine v_eq (lv2 := [(0, .ref a), (1, .int v1)]) rfl rfl rfl rfl ?_
  refine v_aload_n X dX4_init_0 0 rfl rfl 1 rfl ?_
  refine v_oinit X dX4_init_1 (mw wk_49) (mw wk_1) (mw wk_2) (by first | exact Nat.le_of_ble_eq_true rfl | exact Nat.le_of_eq (Nat.zero_add _) | omega) (by first | exact Nat.le_of_ble_eq_true rfl | exact Nat.le_of_eq (Nat.zero_add _) | omega) 4 rfl ?_
  refine v_aload_n X dX4_init_4 0 rfl rfl 5 rfl ?_
  refine v_iconst X dX4_init_5 ic_0 6 rfl ?_
  refine v_iload_n X dX4_init_6 1 rfl rfl 7 rfl ?_
  refine v_mmax X dX4_init_7 (mw wk_50) (mw wk_6) (mw wk_7) (mw wk_8) (Nat.le_of_ble_eq_true rfl) (Nat.le_of_ble_eq_true rfl) (Nat.zero_le _) (Nat.zero_le _) 10 rfl ?_
  refine v_newq X (C := RX5) dX4_init_10 (mw wk_51) (hGA _ _ _ X.2.2.2.2.2.2.2.2.2.2) 3 rfl hn hN hb (by first | exact Nat.le_of_ble_eq_true rfl | exact Nat.le_of_eq (Nat.zero_add _) | omega) (by first | exact Nat.le_of_ble_eq_true rfl | exact Nat.le_of_eq (Nat.zero_add _) | omega) 13 rfl (fun q1 => ?_)
  refine v_eq (ws2 := [(a, .inr (6, [.null])), (q1, .inl (c9 3, tn, .inr (.inr (.inr (.inr (fun _ => none))))))]) rfl rfl rfl rfl ?_
  refine v_putF X (C := RX4) (T := TX4) (N := 1) (ci := 6) (ty := tyX4 0) (ws' := [(a, .inr (6, [.ref q1])), (q1, .inl (c9 3, tn, .inr (.inr (.inr (.inr (fun _ => none))))))]) dX4_init_13 (lay_of layk_X4) 0 rfl rfl 0 (by decide) tyX4 tyX4_ok nmX4 (mw wk_53) rfl rfl hnm rfl (tyX4_ok 0 (by decide)) rfl rfl (Nat.le_of_ble_eq_true rfl) rfl 16 rfl ?_
  exact v_nret q1 trivial (List.Perm.of_eq rfl) X (by first | exact Nat.le_of_ble_eq_true rfl | exact Nat.le_of_eq (Nat.zero_add _) | omega) (by first | exact Nat.le_of_ble_eq_true rfl | exact Nat.le_of_eq (Nat.zero_add _) | omega) dX4_init_16
theorem pd_X5_init : yX5_init.cls ≠ "java/lang/invoke/MethodHandle" ∧ yX5_init.cls ≠ "java/lang/invoke/VarHandle" ∧ (parseMethodDescriptor yX5_init.desc).map (fun d => d.parameters.length) = some 0 := by decide +kernel
set_option maxRecDepth 100000 in
set_option maxHeartbeats 4000000 in
theorem c_X5_init (l : Launch) {G : (Nat → Prop) → State → Heap → Prop} (hG : vG G) (D : va_G) (c9 : Nat → ClassId)  (a : Nat) : mN (S := Nat → Nat) l yX5_init (wq yX5_init cX5_init 1 none) { frames := 3, cells := 10, slots := 453, locals := 82 } G D (tyA c9) [.ref a] [(a, .inr (7, [.null, .null, .null, .null, .null, .int 0, .int 0, .int 0, .int 0, .int 0]))] [] 10 (453) (fun u => u 0 = a) (fun u => wX5 u c9 0 0 0 0 0 0 (fun _ => 0) 0 (fun _ => 0) 0 (fun _ => 0) 0 (fun _ => 0) 0 (fun _ => 0)) := by
  refine mN_of hG (cc := cX5_init) (maxL := 1) (by decide) rfl (Nat.le_of_ble_eq_true rfl) ?_
  intro p e s m args below meth c A hnm X
  have X : vX p s m args meth c cX5_init 1 none RX5 (wq yX5_init cX5_init 1 none) D (tyA c9) G A := X
  have hnm : meth.name = "<init>" := hnm
  refine v_eq (lv2 := [(0, .ref a)]) rfl rfl rfl rfl ?_
  refine v_aload_n X dX5_init_0 0 rfl rfl 1 rfl ?_
  refine v_oinit X dX5_init_1 (mw wk_54) (mw wk_1) (mw wk_2) (by first | exact Nat.le_of_ble_eq_true rfl | exact Nat.le_of_eq (Nat.zero_add _) | omega) (by first | exact Nat.le_of_ble_eq_true rfl | exact Nat.le_of_eq (Nat.zero_add _) | omega) 4 rfl ?_
  refine v_aload_n X dX5_init_4 0 rfl rfl 5 rfl ?_
  refine v_new X (C := RX2) (T := TX2) (N := 4) (ci := 4) (fs := [.int 0, .int 0, .null, .int 0]) dX5_init_5 (lay_of layk_X2) tyX2 tyX2_ok (mw wk_55) (mw wk_56) (mw wk_57) rfl (fun j hj => match j, hj with | 0, _ => rfl | 1, _ => rfl | 2, _ => rfl | 3, _ => rfl | z + 4, h => absurd h (by omega)) (by first | exact Nat.le_of_ble_eq_true rfl | exact Nat.le_of_eq (Nat.zero_add _) | omega) (by first | exact Nat.le_of_ble_eq_true rfl | exact Nat.le_of_eq (Nat.zero_add _) | omega) 8 rfl (fun q6 => ?_)
  refine v_eq (ws2 := [(a, .inr (7, [.null, .null, .null, .null, .null, .int 0, .int 0, .int 0, .int 0, .int 0])), (q6, .inr (4, [.int 0, .int 0, .null, .int 0]))]) rfl rfl rfl rfl ?_
  refine v_dup X dX5_init_8 rfl 9 rfl ?_
  refine v_callIn X (S := Nat) (As := []) (rest := [.ref q6, .ref a]) (ws' := fun u10 => [(a, .inr (7, [.null, .null, .null, .null, .null, .int 0, .int 0, .int 0, .int 0, .int 0])), (q6, .inr (4, [.int 5, .int 5, .ref u10, .int 0])), (u10, .inl (c9 0, 25, .inl (fun _ => 0)))]) (c_X2_init l hG D c9 q6) 0 (wg_sub _ wk_59 _) rfl rfl rfl (mw wk_57) (mw wk_58) (mw wk_60) rfl pd_X2_init ⟨Nat.le_of_ble_eq_true rfl, Nat.le_of_ble_eq_true rfl⟩ rfl rfl (Nat.le_of_ble_eq_true rfl) ⟨(by first | exact Nat.le_of_ble_eq_true rfl | exact Nat.le_of_eq (Nat.zero_add _) | omega), (by first | exact Nat.le_of_ble_eq_true rfl | exact Nat.le_of_eq (Nat.zero_add _) | omega)⟩ [1] [0] [0, 1, 2] rfl rfl (fun _ => rfl) rfl dX5_init_9 12 rfl (fun u10 hpu10 => ?_)
  refine v_eq (ws2 := [(a, .inr (7, [.null, .null, .null, .null, .null, .int 0, .int 0, .int 0, .int 0, .int 0])), (q6, .inr (4, [.int 5, .int 5, .ref u10, .int 0])), (u10, .inl (c9 0, 25, .inl (fun _ => 0)))]) rfl rfl rfl rfl ?_
  refine v_putF X (C := RX5) (T := TX5) (N := 10) (ci := 7) (ty := tyX5 0) (ws' := [(a, .inr (7, [.ref q6, .null, .null, .null, .null, .int 0, .int 0, .int 0, .int 0, .int 0])), (q6, .inr (4, [.int 5, .int 5, .ref u10, .int 0])), (u10, .inl (c9 0, 25, .inl (fun _ => 0)))]) dX5_init_12 (lay_of layk_X5) 0 rfl rfl 0 (by decide) tyX5 tyX5_ok nmX5 (mw wk_71) rfl rfl hnm rfl (tyX5_ok 0 (by decide)) rfl rfl (Nat.le_of_ble_eq_true rfl) rfl 15 rfl ?_
  refine v_aload_n X dX5_init_15 0 rfl rfl 16 rfl ?_
  refine v_new X (C := RX8) (T := TX8) (N := 4) (ci := 9) (fs := [.int 0, .int 0, .null, .int 0]) dX5_init_16 (lay_of layk_X8) tyX8 tyX8_ok (mw wk_72) (mw wk_73) (mw wk_74) rfl (fun j hj => match j, hj with | 0, _ => rfl | 1, _ => rfl | 2, _ => rfl | 3, _ => rfl | z + 4, h => absurd h (by omega)) (by first | exact Nat.le_of_ble_eq_true rfl | exact Nat.le_of_eq (Nat.zero_add _) | omega) (by first | exact Nat.le_of_ble_eq_true rfl | exact Nat.le_of_eq (Nat.zero_add _) | omega) 19 rfl (fun q12 => ?_)
  refine v_eq (ws2 := [(a, .inr (7, [.ref q6, .null, .null, .null, .null, .int 0, .int 0, .int 0, .int 0, .int 0])), (q6, .inr (4, [.int 5, .int 5, .ref u10, .int 0])), (u10, .inl (c9 0, 25, .inl (fun _ => 0))), (q12, .inr (9, [.int 0, .int 0, .null, .int 0]))]) rfl rfl rfl rfl ?_
  refine v_dup X dX5_init_19 rfl 20 rfl ?_
  refine v_callIn X (S := Nat) (As := []) (rest := [.ref q12, .ref a]) (ws' := fun u16 => [(a, .inr (7, [.ref q6, .null, .null, .null, .null, .int 0, .int 0, .int 0, .int 0, .int 0])), (q6, .inr (4, [.int 5, .int 5, .ref u10, .int 0])), (u10, .inl (c9 0, 25, .inl (fun _ => 0))), (q12, .inr (9, [.int 6, .int 5, .ref u16, .int 0])), (u16, .inl (c9 0, 30, .inl (fun _ => 0)))]) (c_X8_init l hG D c9 q12) 0 (wg_sub _ wk_76 _) rfl rfl rfl (mw wk_74) (mw wk_75) (mw wk_77) rfl pd_X8_init ⟨Nat.le_of_ble_eq_true rfl, Nat.le_of_ble_eq_true rfl⟩ rfl rfl (Nat.le_of_ble_eq_true rfl) ⟨(by first | exact Nat.le_of_ble_eq_true rfl | exact Nat.le_of_eq (Nat.zero_add _) | omega), (by first | exact Nat.le_of_ble_eq_true rfl | exact Nat.le_of_eq (Nat.zero_add _) | omega)⟩ [3] [0, 1, 2] [0, 1, 2, 3, 4] rfl rfl (fun _ => rfl) rfl dX5_init_20 23 rfl (fun u16 hpu16 => ?_)
  refine v_eq (ws2 := [(a, .inr (7, [.ref q6, .null, .null, .null, .null, .int 0, .int 0, .int 0, .int 0, .int 0])), (q6, .inr (4, [.int 5, .int 5, .ref u10, .int 0])), (u10, .inl (c9 0, 25, .inl (fun _ => 0))), (q12, .inr (9, [.int 6, .int 5, .ref u16, .int 0])), (u16, .inl (c9 0, 30, .inl (fun _ => 0)))]) rfl rfl rfl rfl ?_
  refine v_putF X (C := RX5) (T := TX5) (N := 10) (ci := 7) (ty := tyX5 1) (ws' := [(a, .inr (7, [.ref q6, .ref q12, .null, .null, .null, .int 0, .int 0, .int 0, .int 0, .int 0])), (q6, .inr (4, [.int 5, .int 5, .ref u10, .int 0])), (u10, .inl (c9 0, 25, .inl (fun _ => 0))), (q12, .inr (9, [.int 6, .int 5, .ref u16, .int 0])), (u16, .inl (c9 0, 30, .inl (fun _ => 0)))]) dX5_init_23 (lay_of layk_X5) 0 rfl rfl 1 (by decide) tyX5 tyX5_ok nmX5 (mw wk_78) rfl rfl hnm rfl (tyX5_ok 1 (by decide)) rfl rfl (Nat.le_of_ble_eq_true rfl) rfl 26 rfl ?_
  refine v_aload_n X dX5_init_26 0 rfl rfl 27 rfl ?_
  refine v_new X (C := RX3) (T := TX3) (N := 4) (ci := 5) (fs := [.int 0, .int 0, .null, .int 0]) dX5_init_27 (lay_of layk_X3) tyX3 tyX3_ok (mw wk_79) (mw wk_80) (mw wk_81) rfl (fun j hj => match j, hj with | 0, _ => rfl | 1, _ => rfl | 2, _ => rfl | 3, _ => rfl | z + 4, h => absurd h (by omega)) (by first | exact Nat.le_of_ble_eq_true rfl | exact Nat.le_of_eq (Nat.zero_add _) | omega) (by first | exact Nat.le_of_ble_eq_true rfl | exact Nat.le_of_eq (Nat.zero_add _) | omega) 30 rfl (fun q18 => ?_)
  refine v_eq (ws2 := [(a, .inr (7, [.ref q6, .ref q12, .null, .null, .null, .int 0, .int 0, .int 0, .int 0, .int 0])), (q6, .inr (4, [.int 5, .int 5, .ref u10, .int 0])), (u10, .inl (c9 0, 25, .inl (fun _ => 0))), (q12, .inr (9, [.int 6, .int 5, .ref u16, .int 0])), (u16, .inl (c9 0, 30, .inl (fun _ => 0))), (q18, .inr (5, [.int 0, .int 0, .null, .int 0]))]) rfl rfl rfl rfl ?_
  refine v_dup X dX5_init_30 rfl 31 rfl ?_
  refine v_callIn X (S := Nat) (As := []) (rest := [.ref q18, .ref a]) (ws' := fun u22 => [(a, .inr (7, [.ref q6, .ref q12, .null, .null, .null, .int 0, .int 0, .int 0, .int 0, .int 0])), (q6, .inr (4, [.int 5, .int 5, .ref u10, .int 0])), (u10, .inl (c9 0, 25, .inl (fun _ => 0))), (q12, .inr (9, [.int 6, .int 5, .ref u16, .int 0])), (u16, .inl (c9 0, 30, .inl (fun _ => 0))), (q18, .inr (5, [.int 6, .int 3, .ref u22, .int 0])), (u22, .inl (c9 0, 18, .inl (fun _ => 0)))]) (c_X3_init l hG D c9 q18) 0 (wg_sub _ wk_83 _) rfl rfl rfl (mw wk_81) (mw wk_82) (mw wk_84) rfl pd_X3_init ⟨Nat.le_of_ble_eq_true rfl, Nat.le_of_ble_eq_true rfl⟩ rfl rfl (Nat.le_of_ble_eq_true rfl) ⟨(by first | exact Nat.le_of_ble_eq_true rfl | exact Nat.le_of_eq (Nat.zero_add _) | omega), (by first | exact Nat.le_of_ble_eq_true rfl | exact Nat.le_of_eq (Nat.zero_add _) | omega)⟩ [5] [0, 1, 2, 3, 4] [0, 1, 2, 3, 4, 5, 6] rfl rfl (fun _ => rfl) rfl dX5_init_31 34 rfl (fun u22 hpu22 => ?_)
  refine v_eq (ws2 := [(a, .inr (7, [.ref q6, .ref q12, .null, .null, .null, .int 0, .int 0, .int 0, .int 0, .int 0])), (q6, .inr (4, [.int 5, .int 5, .ref u10, .int 0])), (u10, .inl (c9 0, 25, .inl (fun _ => 0))), (q12, .inr (9, [.int 6, .int 5, .ref u16, .int 0])), (u16, .inl (c9 0, 30, .inl (fun _ => 0))), (q18, .inr (5, [.int 6, .int 3, .ref u22, .int 0])), (u22, .inl (c9 0, 18, .inl (fun _ => 0)))]) rfl rfl rfl rfl ?_
  refine v_putF X (C := RX5) (T := TX5) (N := 10) (ci := 7) (ty := tyX5 2) (ws' := [(a, .inr (7, [.ref q6, .ref q12, .ref q18, .null, .null, .int 0, .int 0, .int 0, .int 0, .int 0])), (q6, .inr (4, [.int 5, .int 5, .ref u10, .int 0])), (u10, .inl (c9 0, 25, .inl (fun _ => 0))), (q12, .inr (9, [.int 6, .int 5, .ref u16, .int 0])), (u16, .inl (c9 0, 30, .inl (fun _ => 0))), (q18, .inr (5, [.int 6, .int 3, .ref u22, .int 0])), (u22, .inl (c9 0, 18, .inl (fun _ => 0)))]) dX5_init_34 (lay_of layk_X5) 0 rfl rfl 2 (by decide) tyX5 tyX5_ok nmX5 (mw wk_85) rfl rfl hnm rfl (tyX5_ok 2 (by decide)) rfl rfl (Nat.le_of_ble_eq_true rfl) rfl 37 rfl ?_
  refine v_aload_n X dX5_init_37 0 rfl rfl 38 rfl ?_
  refine v_new X (C := RX7) (T := TX7) (N := 4) (ci := 8) (fs := [.int 0, .int 0, .null, .int 0]) dX5_init_38 (lay_of layk_X7) tyX7 tyX7_ok (mw wk_86) (mw wk_87) (mw wk_88) rfl (fun j hj => match j, hj with | 0, _ => rfl | 1, _ => rfl | 2, _ => rfl | 3, _ => rfl | z + 4, h => absurd h (by omega)) (by first | exact Nat.le_of_ble_eq_true rfl | exact Nat.le_of_eq (Nat.zero_add _) | omega) (by first | exact Nat.le_of_ble_eq_true rfl | exact Nat.le_of_eq (Nat.zero_add _) | omega) 41 rfl (fun q24 => ?_)
  refine v_eq (ws2 := [(a, .inr (7, [.ref q6, .ref q12, .ref q18, .null, .null, .int 0, .int 0, .int 0, .int 0, .int 0])), (q6, .inr (4, [.int 5, .int 5, .ref u10, .int 0])), (u10, .inl (c9 0, 25, .inl (fun _ => 0))), (q12, .inr (9, [.int 6, .int 5, .ref u16, .int 0])), (u16, .inl (c9 0, 30, .inl (fun _ => 0))), (q18, .inr (5, [.int 6, .int 3, .ref u22, .int 0])), (u22, .inl (c9 0, 18, .inl (fun _ => 0))), (q24, .inr (8, [.int 0, .int 0, .null, .int 0]))]) rfl rfl rfl rfl ?_
  refine v_dup X dX5_init_41 rfl 42 rfl ?_
  refine v_callIn X (S := Nat) (As := []) (rest := [.ref q24, .ref a]) (ws' := fun u28 => [(a, .inr (7, [.ref q6, .ref q12, .ref q18, .null, .null, .int 0, .int 0, .int 0, .int 0, .int 0])), (q6, .inr (4, [.int 5, .int 5, .ref u10, .int 0])), (u10, .inl (c9 0, 25, .inl (fun _ => 0))), (q12, .inr (9, [.int 6, .int 5, .ref u16, .int 0])), (u16, .inl (c9 0, 30, .inl (fun _ => 0))), (q18, .inr (5, [.int 6, .int 3, .ref u22, .int 0])), (u22, .inl (c9 0, 18, .inl (fun _ => 0))), (q24, .inr (8, [.int 24, .int 10, .ref u28, .int 0])), (u28, .inl (c9 0, 240, .inl (fun _ => 0)))]) (c_X7_init l hG D c9 q24) 0 (wg_sub _ wk_90 _) rfl rfl rfl (mw wk_88) (mw wk_89) (mw wk_91) rfl pd_X7_init ⟨Nat.le_of_ble_eq_true rfl, Nat.le_of_ble_eq_true rfl⟩ rfl rfl (Nat.le_of_ble_eq_true rfl) ⟨(by first | exact Nat.le_of_ble_eq_true rfl | exact Nat.le_of_eq (Nat.zero_add _) | omega), (by first | exact Nat.le_of_ble_eq_true rfl | exact Nat.le_of_eq (Nat.zero_add _) | omega)⟩ [7] [0, 1, 2, 3, 4, 5, 6] [0, 1, 2, 3, 4, 5, 6, 7, 8] rfl rfl (fun _ => rfl) rfl dX5_init_42 45 rfl (fun u28 hpu28 => ?_)
  refine v_eq (ws2 := [(a, .inr (7, [.ref q6, .ref q12, .ref q18, .null, .null, .int 0, .int 0, .int 0, .int 0, .int 0])), (q6, .inr (4, [.int 5, .int 5, .ref u10, .int 0])), (u10, .inl (c9 0, 25, .inl (fun _ => 0))), (q12, .inr (9, [.int 6, .int 5, .ref u16, .int 0])), (u16, .inl (c9 0, 30, .inl (fun _ => 0))), (q18, .inr (5, [.int 6, .int 3, .ref u22, .int 0])), (u22, .inl (c9 0, 18, .inl (fun _ => 0))), (q24, .inr (8, [.int 24, .int 10, .ref u28, .int 0])), (u28, .inl (c9 0, 240, .inl (fun _ => 0)))]) rfl rfl rfl rfl ?_
  refine v_putF X (C := RX5) (T := TX5) (N := 10) (ci := 7) (ty := tyX5 3) (ws' := [(a, .inr (7, [.ref q6, .ref q12, .ref q18, .ref q24, .null, .int 0, .int 0, .int 0, .int 0, .int 0])), (q6, .inr (4, [.int 5, .int 5, .ref u10, .int 0])), (u10, .inl (c9 0, 25, .inl (fun _ => 0))), (q12, .inr (9, [.int 6, .int 5, .ref u16, .int 0])), (u16, .inl (c9 0, 30, .inl (fun _ => 0))), (q18, .inr (5, [.int 6, .int 3, .ref u22, .int 0])), (u22, .inl (c9 0, 18, .inl (fun _ => 0))), (q24, .inr (8, [.int 24, .int 10, .ref u28, .int 0])), (u28, .inl (c9 0, 240, .inl (fun _ => 0)))]) dX5_init_45 (lay_of layk_X5) 0 rfl rfl 3 (by decide) tyX5 tyX5_ok nmX5 (mw wk_92) rfl rfl hnm rfl (tyX5_ok 3 (by decide)) rfl rfl (Nat.le_of_ble_eq_true rfl) rfl 48 rfl ?_
  refine v_aload_n X dX5_init_48 0 rfl rfl 49 rfl ?_
  refine v_new X (C := RX9) (T := TX9) (N := 4) (ci := 10) (fs := [.int 0, .int 0, .null, .int 0]) dX5_init_49 (lay_of layk_X9) tyX9 tyX9_ok (mw wk_93) (mw wk_94) (mw wk_95) rfl (fun j hj => match j, hj with | 0, _ => rfl | 1, _ => rfl | 2, _ => rfl | 3, _ => rfl | z + 4, h => absurd h (by omega)) (by first | exact Nat.le_of_ble_eq_true rfl | exact Nat.le_of_eq (Nat.zero_add _) | omega) (by first | exact Nat.le_of_ble_eq_true rfl | exact Nat.le_of_eq (Nat.zero_add _) | omega) 52 rfl (fun q30 => ?_)
  refine v_eq (ws2 := [(a, .inr (7, [.ref q6, .ref q12, .ref q18, .ref q24, .null, .int 0, .int 0, .int 0, .int 0, .int 0])), (q6, .inr (4, [.int 5, .int 5, .ref u10, .int 0])), (u10, .inl (c9 0, 25, .inl (fun _ => 0))), (q12, .inr (9, [.int 6, .int 5, .ref u16, .int 0])), (u16, .inl (c9 0, 30, .inl (fun _ => 0))), (q18, .inr (5, [.int 6, .int 3, .ref u22, .int 0])), (u22, .inl (c9 0, 18, .inl (fun _ => 0))), (q24, .inr (8, [.int 24, .int 10, .ref u28, .int 0])), (u28, .inl (c9 0, 240, .inl (fun _ => 0))), (q30, .inr (10, [.int 0, .int 0, .null, .int 0]))]) rfl rfl rfl rfl ?_
  refine v_dup X dX5_init_52 rfl 53 rfl ?_
  refine v_callIn X (S := Nat) (As := []) (rest := [.ref q30, .ref a]) (ws' := fun u34 => [(a, .inr (7, [.ref q6, .ref q12, .ref q18, .ref q24, .null, .int 0, .int 0, .int 0, .int 0, .int 0])), (q6, .inr (4, [.int 5, .int 5, .ref u10, .int 0])), (u10, .inl (c9 0, 25, .inl (fun _ => 0))), (q12, .inr (9, [.int 6, .int 5, .ref u16, .int 0])), (u16, .inl (c9 0, 30, .inl (fun _ => 0))), (q18, .inr (5, [.int 6, .int 3, .ref u22, .int 0])), (u22, .inl (c9 0, 18, .inl (fun _ => 0))), (q24, .inr (8, [.int 24, .int 10, .ref u28, .int 0])), (u28, .inl (c9 0, 240, .inl (fun _ => 0))), (q30, .inr (10, [.int 30, .int 4, .ref u34, .int 0])), (u34, .inl (c9 0, 120, .inl (fun _ => 0)))]) (c_X9_init l hG D c9 q30) 0 (wg_sub _ wk_97 _) rfl rfl rfl (mw wk_95) (mw wk_96) (mw wk_98) rfl pd_X9_init ⟨Nat.le_of_ble_eq_true rfl, Nat.le_of_ble_eq_true rfl⟩ rfl rfl (Nat.le_of_ble_eq_true rfl) ⟨(by first | exact Nat.le_of_ble_eq_true rfl | exact Nat.le_of_eq (Nat.zero_add _) | omega), (by first | exact Nat.le_of_ble_eq_true rfl | exact Nat.le_of_eq (Nat.zero_add _) | omega)⟩ [9] [0, 1, 2, 3, 4, 5, 6, 7, 8] [0, 1, 2, 3, 4, 5, 6, 7, 8, 9, 10] rfl rfl (fun _ => rfl) rfl dX5_init_53 56 rfl (fun u34 hpu34 => ?_)
  refine v_eq (ws2 := [(a, .inr (7, [.ref q6, .ref q12, .ref q18, .ref q24, .null, .int 0, .int 0, .int 0, .int 0, .int 0])), (q6, .inr (4, [.int 5, .int 5, .ref u10, .int 0])), (u10, .inl (c9 0, 25, .inl (fun _ => 0))), (q12, .inr (9, [.int 6, .int 5, .ref u16, .int 0])), (u16, .inl (c9 0, 30, .inl (fun _ => 0))), (q18, .inr (5, [.int 6, .int 3, .ref u22, .int 0])), (u22, .inl (c9 0, 18, .inl (fun _ => 0))), (q24, .inr (8, [.int 24, .int 10, .ref u28, .int 0])), (u28, .inl (c9 0, 240, .inl (fun _ => 0))), (q30, .inr (10, [.int 30, .int 4, .ref u34, .int 0])), (u34, .inl (c9 0, 120, .inl (fun _ => 0)))]) rfl rfl rfl rfl ?_
  refine v_putF X (C := RX5) (T := TX5) (N := 10) (ci := 7) (ty := tyX5 4) (ws' := [(a, .inr (7, [.ref q6, .ref q12, .ref q18, .ref q24, .ref q30, .int 0, .int 0, .int 0, .int 0, .int 0])), (q6, .inr (4, [.int 5, .int 5, .ref u10, .int 0])), (u10, .inl (c9 0, 25, .inl (fun _ => 0))), (q12, .inr (9, [.int 6, .int 5, .ref u16, .int 0])), (u16, .inl (c9 0, 30, .inl (fun _ => 0))), (q18, .inr (5, [.int 6, .int 3, .ref u22, .int 0])), (u22, .inl (c9 0, 18, .inl (fun _ => 0))), (q24, .inr (8, [.int 24, .int 10, .ref u28, .int 0])), (u28, .inl (c9 0, 240, .inl (fun _ => 0))), (q30, .inr (10, [.int 30, .int 4, .ref u34, .int 0])), (u34, .inl (c9 0, 120, .inl (fun _ => 0)))]) dX5_init_56 (lay_of layk_X5) 0 rfl rfl 4 (by decide) tyX5 tyX5_ok nmX5 (mw wk_99) rfl rfl hnm rfl (tyX5_ok 4 (by decide)) rfl rfl (Nat.le_of_ble_eq_true rfl) rfl 59 rfl ?_
  exact v_nret (fun k => [a, q6, u10, q12, u16, q18, u22, q24, u28, q30, u34].getD k 0) rfl (List.Perm.of_eq rfl) X (by first | exact Nat.le_of_ble_eq_true rfl | exact Nat.le_of_eq (Nat.zero_add _) | omega) (by first | exact Nat.le_of_ble_eq_true rfl | exact Nat.le_of_eq (Nat.zero_add _) | omega) dX5_init_59
theorem pd_X1_init : yX1_init.cls ≠ "java/lang/invoke/MethodHandle" ∧ yX1_init.cls ≠ "java/lang/invoke/VarHandle" ∧ (parseMethodDescriptor yX1_init.desc).map (fun d => d.parameters.length) = some 1 := by decide +kernel
set_option maxRecDepth 100000 in
set_option maxHeartbeats 4000000 in
theorem c_X1_init (l : Launch) {G : (Nat → Prop) → State → Heap → Prop} (hG : vG G) (D : va_G) (c9 : Nat → ClassId)  (a b : Nat) : mN (S := Nat → Nat) l yX1_init (wq yX1_init cX1_init 2 none) { frames := 4, cells := 11, slots := 463, locals := 102 } G D (tyA c9) [.ref a, .ref b] [(a, .inr (3, [.null, .null, .int 0, .int 0, .int 0, .int 0, .int 0, .int 0]))] [] 11 (463) (fun u => u 0 = a) (fun u => [(u 0, .inr (3, [.ref b, .ref (u 1), .int 0, .int 0, .int 0, .int 0, .int 0, .int (-1)]))] ++ wX5 (fun k => u (k + 1)) c9 0 0 0 0 0 0 (fun _ => 0) 0 (fun _ => 0) 0 (fun _ => 0) 0 (fun _ => 0) 0 (fun _ => 0)) := by
  refine mN_of hG (cc := cX1_init) (maxL := 2) (by decide) rfl (Nat.le_of_ble_eq_true rfl) ?_
  intro p e s m args below meth c A hnm X
  have X : vX p s m args meth c cX1_init 2 none RX1 (wq yX1_init cX1_init 2 none) D (tyA c9) G A := X
  have hnm : meth.name = "<init>" := hnm
  refine v_eq (lv2 := [(0, .ref a), (1, .ref b)]) rfl rfl rfl rfl ?_
  refine v_aload_n X dX1_init_0 0 rfl rfl 1 rfl ?_
  refine v_oinit X dX1_init_1 (mw wk_100) (mw wk_1) (mw wk_2) (by first | exact Nat.le_of_ble_eq_true rfl | exact Nat.le_of_eq (Nat.zero_add _) | omega) (by first | exact Nat.le_of_ble_eq_true rfl | exact Nat.le_of_eq (Nat.zero_add _) | omega) 4 rfl ?_
  refine v_aload_n X dX1_init_4 0 rfl rfl 5 rfl ?_
  refine v_new X (C := RX5) (T := TX5) (N := 10) (ci := 7) (fs := [.null, .null, .null, .null, .null, .int 0, .int 0, .int 0, .int 0, .int 0]) dX1_init_5 (lay_of layk_X5) tyX5 tyX5_ok (mw wk_101) (mw wk_102) (mw wk_103) rfl (fun j hj => match j, hj with | 0, _ => rfl | 1, _ => rfl | 2, _ => rfl | 3, _ => rfl | 4, _ => rfl | 5, _ => rfl | 6, _ => rfl | 7, _ => rfl | 8, _ => rfl | 9, _ => rfl | z + 10, h => absurd h (by omega)) (by first | exact Nat.le_of_ble_eq_true rfl | exact Nat.le_of_eq (Nat.zero_add _) | omega) (by first | exact Nat.le_of_ble_eq_true rfl | exact Nat.le_of_eq (Nat.zero_add _) | omega) 8 rfl (fun q7 => ?_)
  refine v_eq (ws2 := [(a, .inr (3, [.null, .null, .int 0, .int 0, .int 0, .int 0, .int 0, .int 0])), (q7, .inr (7, [.null, .null, .null, .null, .null, .int 0, .int 0, .int 0, .int 0, .int 0]))]) rfl rfl rfl rfl ?_
  refine v_dup X dX1_init_8 rfl 9 rfl ?_
  refine v_callINn X (S := Nat → Nat) (As := []) (rest := [.ref q7, .ref a]) (ws' := fun u13 => [(a, .inr (3, [.null, .null, .int 0, .int 0, .int 0, .int 0, .int 0, .int 0])), ((u13 0), .inr (7, [.ref (u13 1), .ref (u13 3), .ref (u13 5), .ref (u13 7), .ref (u13 9), .int 0, .int 0, .int 0, .int 0, .int 0])), ((u13 1), .inr (4, [.int 5, .int 5, .ref (u13 2), .int 0])), ((u13 2), .inl (c9 0, 25, .inl (fun _ => 0))), ((u13 3), .inr (9, [.int 6, .int 5, .ref (u13 4), .int 0])), ((u13 4), .inl (c9 0, 30, .inl (fun _ => 0))), ((u13 5), .inr (5, [.int 6, .int 3, .ref (u13 6), .int 0])), ((u13 6), .inl (c9 0, 18, .inl (fun _ => 0))), ((u13 7), .inr (8, [.int 24, .int 10, .ref (u13 8), .int 0])), ((u13 8), .inl (c9 0, 240, .inl (fun _ => 0))), ((u13 9), .inr (10, [.int 30, .int 4, .ref (u13 10), .int 0])), ((u13 10), .inl (c9 0, 120, .inl (fun _ => 0)))]) (c_X5_init l hG D c9 q7) 0 (wg_sub _ wk_104 _) rfl rfl rfl (mw wk_103) nest_RX1_11 (mw wk_105) rfl pd_X5_init ⟨Nat.le_of_ble_eq_true rfl, Nat.le_of_ble_eq_true rfl⟩ rfl rfl (Nat.le_of_ble_eq_true rfl) ⟨(by first | exact Nat.le_of_ble_eq_true rfl | exact Nat.le_of_eq (Nat.zero_add _) | omega), (by first | exact Nat.le_of_ble_eq_true rfl | exact Nat.le_of_eq (Nat.zero_add _) | omega)⟩ [1] [0] [0, 1, 2, 3, 4, 5, 6, 7, 8, 9, 10, 11] rfl rfl (fun _ => rfl) rfl dX1_init_9 12 rfl (fun u13 hpu13 => ?_)
  subst hpu13
  refine v_eq (ws2 := [(a, .inr (3, [.null, .null, .int 0, .int 0, .int 0, .int 0, .int 0, .int 0])), ((u13 0), .inr (7, [.ref (u13 1), .ref (u13 3), .ref (u13 5), .ref (u13 7), .ref (u13 9), .int 0, .int 0, .int 0, .int 0, .int 0])), ((u13 1), .inr (4, [.int 5, .int 5, .ref (u13 2), .int 0])), ((u13 2), .inl (c9 0, 25, .inl (fun _ => 0))), ((u13 3), .inr (9, [.int 6, .int 5, .ref (u13 4), .int 0])), ((u13 4), .inl (c9 0, 30, .inl (fun _ => 0))), ((u13 5), .inr (5, [.int 6, .int 3, .ref (u13 6), .int 0])), ((u13 6), .inl (c9 0, 18, .inl (fun _ => 0))), ((u13 7), .inr (8, [.int 24, .int 10, .ref (u13 8), .int 0])), ((u13 8), .inl (c9 0, 240, .inl (fun _ => 0))), ((u13 9), .inr (10, [.int 30, .int 4, .ref (u13 10), .int 0])), ((u13 10), .inl (c9 0, 120, .inl (fun _ => 0)))]) rfl rfl rfl rfl ?_
  refine v_putF X (C := RX1) (T := TX1) (N := 8) (ci := 3) (ty := tyX1 1) (ws' := [(a, .inr (3, [.null, .ref (u13 0), .int 0, .int 0, .int 0, .int 0, .int 0, .int 0])), ((u13 0), .inr (7, [.ref (u13 1), .ref (u13 3), .ref (u13 5), .ref (u13 7), .ref (u13 9), .int 0, .int 0, .int 0, .int 0, .int 0])), ((u13 1), .inr (4, [.int 5, .int 5, .ref (u13 2), .int 0])), ((u13 2), .inl (c9 0, 25, .inl (fun _ => 0))), ((u13 3), .inr (9, [.int 6, .int 5, .ref (u13 4), .int 0])), ((u13 4), .inl (c9 0, 30, .inl (fun _ => 0))), ((u13 5), .inr (5, [.int 6, .int 3, .ref (u13 6), .int 0])), ((u13 6), .inl (c9 0, 18, .inl (fun _ => 0))), ((u13 7), .inr (8, [.int 24, .int 10, .ref (u13 8), .int 0])), ((u13 8), .inl (c9 0, 240, .inl (fun _ => 0))), ((u13 9), .inr (10, [.int 30, .int 4, .ref (u13 10), .int 0])), ((u13 10), .inl (c9 0, 120, .inl (fun _ => 0)))]) dX1_init_12 (lay_of layk_X1) 0 rfl rfl 1 (by decide) tyX1 tyX1_ok nmX1 (mw wk_114) rfl rfl hnm rfl (tyX1_ok 1 (by decide)) rfl rfl (Nat.le_of_ble_eq_true rfl) rfl 15 rfl ?_
  refine v_aload_n X dX1_init_15 0 rfl rfl 16 rfl ?_
  refine v_iconst X dX1_init_16 ic_m1 17 rfl ?_
  refine v_put X (C := RX1) (T := TX1) (N := 8) (ci := 3) (ty := tyX1 7) (ws' := [(a, .inr (3, [.null, .ref (u13 0), .int 0, .int 0, .int 0, .int 0, .int 0, .int (-1)])), ((u13 0), .inr (7, [.ref (u13 1), .ref (u13 3), .ref (u13 5), .ref (u13 7), .ref (u13 9), .int 0, .int 0, .int 0, .int 0, .int 0])), ((u13 1), .inr (4, [.int 5, .int 5, .ref (u13 2), .int 0])), ((u13 2), .inl (c9 0, 25, .inl (fun _ => 0))), ((u13 3), .inr (9, [.int 6, .int 5, .ref (u13 4), .int 0])), ((u13 4), .inl (c9 0, 30, .inl (fun _ => 0))), ((u13 5), .inr (5, [.int 6, .int 3, .ref (u13 6), .int 0])), ((u13 6), .inl (c9 0, 18, .inl (fun _ => 0))), ((u13 7), .inr (8, [.int 24, .int 10, .ref (u13 8), .int 0])), ((u13 8), .inl (c9 0, 240, .inl (fun _ => 0))), ((u13 9), .inr (10, [.int 30, .int 4, .ref (u13 10), .int 0])), ((u13 10), .inl (c9 0, 120, .inl (fun _ => 0)))]) dX1_init_17 (lay_of layk_X1) 0 rfl rfl 7 (by decide) tyX1 tyX1_ok nmX1 (mw wk_115) rfl rfl (tyX1_ok 7 (by decide)) rfl rfl (Nat.le_of_ble_eq_true rfl) rfl 20 rfl ?_
  refine v_aload_n X dX1_init_20 0 rfl rfl 21 rfl ?_
  refine v_aload_n X dX1_init_21 1 rfl rfl 22 rfl ?_
  refine v_putF X (C := RX1) (T := TX1) (N := 8) (ci := 3) (ty := tyX1 0) (ws' := [(a, .inr (3, [.ref b, .ref (u13 0), .int 0, .int 0, .int 0, .int 0, .int 0, .int (-1)])), ((u13 0), .inr (7, [.ref (u13 1), .ref (u13 3), .ref (u13 5), .ref (u13 7), .ref (u13 9), .int 0, .int 0, .int 0, .int 0, .int 0])), ((u13 1), .inr (4, [.int 5, .int 5, .ref (u13 2), .int 0])), ((u13 2), .inl (c9 0, 25, .inl (fun _ => 0))), ((u13 3), .inr (9, [.int 6, .int 5, .ref (u13 4), .int 0])), ((u13 4), .inl (c9 0, 30, .inl (fun _ => 0))), ((u13 5), .inr (5, [.int 6, .int 3, .ref (u13 6), .int 0])), ((u13 6), .inl (c9 0, 18, .inl (fun _ => 0))), ((u13 7), .inr (8, [.int 24, .int 10, .ref (u13 8), .int 0])), ((u13 8), .inl (c9 0, 240, .inl (fun _ => 0))), ((u13 9), .inr (10, [.int 30, .int 4, .ref (u13 10), .int 0])), ((u13 10), .inl (c9 0, 120, .inl (fun _ => 0)))]) dX1_init_22 (lay_of layk_X1) 0 rfl rfl 0 (by decide) tyX1 tyX1_ok nmX1 (mw wk_116) rfl rfl hnm rfl (tyX1_ok 0 (by decide)) rfl rfl (Nat.le_of_ble_eq_true rfl) rfl 25 rfl ?_
  exact v_nret (fun k => [a, (u13 0), (u13 1), (u13 2), (u13 3), (u13 4), (u13 5), (u13 6), (u13 7), (u13 8), (u13 9), (u13 10)].getD k 0) rfl (List.Perm.of_eq rfl) X (by first | exact Nat.le_of_ble_eq_true rfl | exact Nat.le_of_eq (Nat.zero_add _) | omega) (by first | exact Nat.le_of_ble_eq_true rfl | exact Nat.le_of_eq (Nat.zero_add _) | omega) dX1_init_25
