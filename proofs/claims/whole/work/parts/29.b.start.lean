/-! From the entry to the loop. -/
theorem wen_0 : Cond.laysFinal RX11 "TicketGate" "input" "LTicketGate$Bytes;" ∈ Wg := t4_in (List.mem_of_getElem? (i := 10) rfl) rfl
theorem wen_1 : Cond.laysFinal RX11 "TicketGate" "output" "LTicketGate$Bytes;" ∈ Wg := t4_in (List.mem_of_getElem? (i := 12) rfl) rfl
theorem wen_2 : Cond.laysFinal RX11 "TicketGate" "parser" "LTicketGate$Parser;" ∈ Wg := t4_in (List.mem_of_getElem? (i := 14) rfl) rfl
theorem wen_3 : Cond.laysFinal RX11 "TicketGate" "state" "LTicketGate$State;" ∈ Wg := t4_in (List.mem_of_getElem? (i := 16) rfl) rfl
theorem wen_4 : Cond.laysFinal RX11 "TicketGate" "slots" "LTicketGate$Shelf;" ∈ Wg := t4_in (List.mem_of_getElem? (i := 18) rfl) rfl
theorem wen_5 : Cond.laysFinal RX11 "TicketGate" "past" "LTicketGate$Shelf;" ∈ Wg := t4_in (List.mem_of_getElem? (i := 20) rfl) rfl
theorem wen_6 : Cond.lays RX11 "TicketGate" "nextPast" "I" ∈ Wg := t4_in (List.mem_of_getElem? (i := 22) rfl) rfl
theorem wen_7 : Cond.lays RX11 "TicketGate" "pastCount" "I" ∈ Wg := t4_in (List.mem_of_getElem? (i := 24) rfl) rfl
theorem wen_8 : Cond.classLink RL 8 RX11 ∈ Wg := t1_in (List.mem_of_getElem? (i := 27) rfl) rfl
theorem wen_9 : Cond.instantiable RX11 8 ∈ Wg := t1_in (List.mem_of_getElem? (i := 28) rfl) rfl
theorem wen_10 : Cond.initialized RX11 ∈ Wg := t1_in (List.mem_of_getElem? (i := 1) rfl) rfl
theorem wen_11 : Cond.methodLink RL 165 yX11_init ∈ Wg := t1_in (List.mem_of_getElem? (i := 29) rfl) rfl
theorem wen_12 : Cond.code yX11_init cX11_init 1 none ∈ Wg := t1_in (List.mem_of_getElem? (i := 31) rfl) rfl
theorem wen_13 : Cond.instanceMethod yX11_init ∈ Wg := t1_in (List.mem_of_getElem? (i := 30) rfl) rfl
theorem wen_14 : Cond.laysFinal RX12 "TicketGateModel" "s" "[I" ∈ Wg := t8_in (List.mem_of_getElem? (i := 98) rfl) rfl
theorem wen_15 : Cond.laysFinal RX12 "TicketGateModel" "parsed" "[I" ∈ Wg := t8_in (List.mem_of_getElem? (i := 100) rfl) rfl
theorem wen_16 : Cond.laysFinal RX12 "TicketGateModel" "tried" "[I" ∈ Wg := t8_in (List.mem_of_getElem? (i := 102) rfl) rfl
theorem wen_17 : Cond.laysFinal RX12 "TicketGateModel" "remembered" "[I" ∈ Wg := t8_in (List.mem_of_getElem? (i := 104) rfl) rfl
theorem wen_18 : Cond.laysFinal RX12 "TicketGateModel" "slots" "[I" ∈ Wg := t8_in (List.mem_of_getElem? (i := 106) rfl) rfl
theorem wen_19 : Cond.laysFinal RX12 "TicketGateModel" "kept" "[Z" ∈ Wg := t8_in (List.mem_of_getElem? (i := 108) rfl) rfl
theorem wen_20 : Cond.lays RX12 "TicketGateModel" "undoable" "I" ∈ Wg := t8_in (List.mem_of_getElem? (i := 110) rfl) rfl
theorem wen_21 : Cond.lays RX12 "TicketGateModel" "undoStart" "I" ∈ Wg := t8_in (List.mem_of_getElem? (i := 112) rfl) rfl
theorem wen_22 : Cond.lays RX12 "TicketGateModel" "thrown" "I" ∈ Wg := t8_in (List.mem_of_getElem? (i := 114) rfl) rfl
theorem wen_23 : Cond.laysFinal RX12 "TicketGateModel" "away" "[I" ∈ Wg := t8_in (List.mem_of_getElem? (i := 116) rfl) rfl
theorem wen_24 : Cond.laysFinal RX12 "TicketGateModel" "input" "[I" ∈ Wg := t8_in (List.mem_of_getElem? (i := 118) rfl) rfl
theorem wen_25 : Cond.lays RX12 "TicketGateModel" "inputLength" "I" ∈ Wg := t8_in (List.mem_of_getElem? (i := 120) rfl) rfl
theorem wen_26 : Cond.lays RX12 "TicketGateModel" "position" "I" ∈ Wg := t8_in (List.mem_of_getElem? (i := 122) rfl) rfl
theorem wen_27 : Cond.lays RX12 "TicketGateModel" "start" "I" ∈ Wg := t8_in (List.mem_of_getElem? (i := 124) rfl) rfl
theorem wen_28 : Cond.lays RX12 "TicketGateModel" "token" "I" ∈ Wg := t8_in (List.mem_of_getElem? (i := 126) rfl) rfl
theorem wen_29 : Cond.lays RX12 "TicketGateModel" "value" "I" ∈ Wg := t8_in (List.mem_of_getElem? (i := 128) rfl) rfl
theorem wen_30 : Cond.lays RX12 "TicketGateModel" "letters" "I" ∈ Wg := t8_in (List.mem_of_getElem? (i := 130) rfl) rfl
theorem wen_31 : Cond.lays RX12 "TicketGateModel" "code" "I" ∈ Wg := t8_in (List.mem_of_getElem? (i := 132) rfl) rfl
theorem wen_32 : Cond.lays RX12 "TicketGateModel" "place" "I" ∈ Wg := t8_in (List.mem_of_getElem? (i := 134) rfl) rfl
theorem wen_33 : Cond.laysFinal RX12 "TicketGateModel" "halfway" "[I" ∈ Wg := t8_in (List.mem_of_getElem? (i := 136) rfl) rfl
theorem wen_34 : Cond.laysFinal RX12 "TicketGateModel" "output" "[B" ∈ Wg := t8_in (List.mem_of_getElem? (i := 138) rfl) rfl
theorem wen_35 : Cond.lays RX12 "TicketGateModel" "outputLength" "I" ∈ Wg := t8_in (List.mem_of_getElem? (i := 140) rfl) rfl
theorem wen_36 : Cond.classLink RL 166 RX12 ∈ Wg := t7_in (List.mem_of_getElem? (i := 37) rfl) rfl
theorem wen_37 : Cond.instantiable RX12 22 ∈ Wg := t7_in (List.mem_of_getElem? (i := 38) rfl) rfl
theorem wen_38 : Cond.initialized RX12 ∈ Wg := t1_in (List.mem_of_getElem? (i := 18) rfl) rfl
theorem wen_39 : Cond.methodLink RL 168 yX12_init ∈ Wg := t7_in (List.mem_of_getElem? (i := 39) rfl) rfl
theorem wen_40 : Cond.code yX12_init cX12_init 1 none ∈ Wg := t7_in (List.mem_of_getElem? (i := 41) rfl) rfl
theorem wen_41 : Cond.instanceMethod yX12_init ∈ Wg := t7_in (List.mem_of_getElem? (i := 40) rfl) rfl
theorem wen_42 : Cond.arrayClass .int ∈ Wg := t1_in (List.mem_of_getElem? (i := 51) rfl) rfl
theorem wen_43 : Cond.arrayClass .boolean ∈ Wg := t8_in (List.mem_of_getElem? (i := 143) rfl) rfl
theorem wen_44 : Cond.arrayClass .byte ∈ Wg := t4_in (List.mem_of_getElem? (i := 27) rfl) rfl
theorem wen_45 : Cond.arrayClass .long ∈ Wg := t9_in (List.mem_of_getElem? (i := 236) rfl) rfl
theorem wen_46 : Cond.instantiable RX0 2 ∈ Wg := t1_in (List.mem_of_getElem? (i := 36) rfl) rfl
theorem wen_47 : Cond.laysFinal RX0 "TicketGate$Bytes" "cells" "[I" ∈ Wg := t1_in (List.mem_of_getElem? (i := 46) rfl) rfl
theorem wen_48 : Cond.lays RX0 "TicketGate$Bytes" "count" "I" ∈ Wg := t1_in (List.mem_of_getElem? (i := 48) rfl) rfl
theorem wen_49 : Cond.instantiable RX1 8 ∈ Wg := t1_in (List.mem_of_getElem? (i := 53) rfl) rfl
theorem wen_50 : Cond.laysFinal RX1 "TicketGate$Parser" "text" "LTicketGate$Bytes;" ∈ Wg := t1_in (List.mem_of_getElem? (i := 187) rfl) rfl
theorem wen_51 : Cond.laysFinal RX1 "TicketGate$Parser" "draft" "LTicketGate$State;" ∈ Wg := t1_in (List.mem_of_getElem? (i := 189) rfl) rfl
theorem wen_52 : Cond.lays RX1 "TicketGate$Parser" "start" "I" ∈ Wg := t1_in (List.mem_of_getElem? (i := 191) rfl) rfl
theorem wen_53 : Cond.lays RX1 "TicketGate$Parser" "end" "I" ∈ Wg := t1_in (List.mem_of_getElem? (i := 193) rfl) rfl
theorem wen_54 : Cond.lays RX1 "TicketGate$Parser" "kind" "I" ∈ Wg := t1_in (List.mem_of_getElem? (i := 195) rfl) rfl
theorem wen_55 : Cond.lays RX1 "TicketGate$Parser" "value" "I" ∈ Wg := t1_in (List.mem_of_getElem? (i := 197) rfl) rfl
theorem wen_56 : Cond.lays RX1 "TicketGate$Parser" "error" "I" ∈ Wg := t1_in (List.mem_of_getElem? (i := 199) rfl) rfl
theorem wen_57 : Cond.lays RX1 "TicketGate$Parser" "errorAt" "I" ∈ Wg := t1_in (List.mem_of_getElem? (i := 201) rfl) rfl
theorem wen_58 : Cond.instantiable RX2 4 ∈ Wg := t1_in (List.mem_of_getElem? (i := 65) rfl) rfl
theorem wen_59 : Cond.laysFinal RX2 "TicketGate$Table" "limit" "I" ∈ Wg := t1_in (List.mem_of_getElem? (i := 78) rfl) rfl
theorem wen_60 : Cond.laysFinal RX2 "TicketGate$Table" "width" "I" ∈ Wg := t1_in (List.mem_of_getElem? (i := 80) rfl) rfl
theorem wen_61 : Cond.laysFinal RX2 "TicketGate$Table" "cells" "[I" ∈ Wg := t1_in (List.mem_of_getElem? (i := 82) rfl) rfl
theorem wen_62 : Cond.lays RX2 "TicketGate$Table" "rows" "I" ∈ Wg := t1_in (List.mem_of_getElem? (i := 84) rfl) rfl
theorem wen_63 : Cond.instantiable RX3 4 ∈ Wg := t1_in (List.mem_of_getElem? (i := 99) rfl) rfl
theorem wen_64 : Cond.laysFinal RX3 "TicketGate$Table" "limit" "I" ∈ Wg := t1_in (List.mem_of_getElem? (i := 104) rfl) rfl
theorem wen_65 : Cond.laysFinal RX3 "TicketGate$Table" "width" "I" ∈ Wg := t1_in (List.mem_of_getElem? (i := 105) rfl) rfl
theorem wen_66 : Cond.laysFinal RX3 "TicketGate$Table" "cells" "[I" ∈ Wg := t1_in (List.mem_of_getElem? (i := 106) rfl) rfl
theorem wen_67 : Cond.lays RX3 "TicketGate$Table" "rows" "I" ∈ Wg := t1_in (List.mem_of_getElem? (i := 107) rfl) rfl
theorem wen_68 : Cond.instantiable RX4 1 ∈ Wg := t1_in (List.mem_of_getElem? (i := 207) rfl) rfl
theorem wen_69 : Cond.laysFinal RX4 "TicketGate$Shelf" "states" "[LTicketGate$State;" ∈ Wg := t1_in (List.mem_of_getElem? (i := 216) rfl) rfl
theorem wen_70 : Cond.instantiable RX5 10 ∈ Wg := t1_in (List.mem_of_getElem? (i := 59) rfl) rfl
theorem wen_71 : Cond.laysFinal RX5 "TicketGate$State" "realms" "LTicketGate$Realms;" ∈ Wg := t1_in (List.mem_of_getElem? (i := 155) rfl) rfl
theorem wen_72 : Cond.laysFinal RX5 "TicketGate$State" "users" "LTicketGate$Users;" ∈ Wg := t1_in (List.mem_of_getElem? (i := 157) rfl) rfl
theorem wen_73 : Cond.laysFinal RX5 "TicketGate$State" "services" "LTicketGate$Services;" ∈ Wg := t1_in (List.mem_of_getElem? (i := 159) rfl) rfl
theorem wen_74 : Cond.laysFinal RX5 "TicketGate$State" "tickets" "LTicketGate$Tickets;" ∈ Wg := t1_in (List.mem_of_getElem? (i := 161) rfl) rfl
theorem wen_75 : Cond.laysFinal RX5 "TicketGate$State" "uses" "LTicketGate$Uses;" ∈ Wg := t1_in (List.mem_of_getElem? (i := 163) rfl) rfl
theorem wen_76 : Cond.lays RX5 "TicketGate$State" "time" "I" ∈ Wg := t1_in (List.mem_of_getElem? (i := 165) rfl) rfl
theorem wen_77 : Cond.lays RX5 "TicketGate$State" "tolerance" "I" ∈ Wg := t1_in (List.mem_of_getElem? (i := 167) rfl) rfl
theorem wen_78 : Cond.lays RX5 "TicketGate$State" "seed" "I" ∈ Wg := t1_in (List.mem_of_getElem? (i := 169) rfl) rfl
theorem wen_79 : Cond.lays RX5 "TicketGate$State" "madeTickets" "I" ∈ Wg := t1_in (List.mem_of_getElem? (i := 171) rfl) rfl
theorem wen_80 : Cond.lays RX5 "TicketGate$State" "cheesesOfText" "I" ∈ Wg := t1_in (List.mem_of_getElem? (i := 173) rfl) rfl
theorem wen_81 : Cond.instantiable RX7 4 ∈ Wg := t1_in (List.mem_of_getElem? (i := 110) rfl) rfl
theorem wen_82 : Cond.laysFinal RX7 "TicketGate$Table" "limit" "I" ∈ Wg := t1_in (List.mem_of_getElem? (i := 115) rfl) rfl
theorem wen_83 : Cond.laysFinal RX7 "TicketGate$Table" "width" "I" ∈ Wg := t1_in (List.mem_of_getElem? (i := 116) rfl) rfl
theorem wen_84 : Cond.laysFinal RX7 "TicketGate$Table" "cells" "[I" ∈ Wg := t1_in (List.mem_of_getElem? (i := 117) rfl) rfl
theorem wen_85 : Cond.lays RX7 "TicketGate$Table" "rows" "I" ∈ Wg := t1_in (List.mem_of_getElem? (i := 118) rfl) rfl
theorem wen_86 : Cond.instantiable RX8 4 ∈ Wg := t1_in (List.mem_of_getElem? (i := 88) rfl) rfl
theorem wen_87 : Cond.laysFinal RX8 "TicketGate$Table" "limit" "I" ∈ Wg := t1_in (List.mem_of_getElem? (i := 93) rfl) rfl
theorem wen_88 : Cond.laysFinal RX8 "TicketGate$Table" "width" "I" ∈ Wg := t1_in (List.mem_of_getElem? (i := 94) rfl) rfl
theorem wen_89 : Cond.laysFinal RX8 "TicketGate$Table" "cells" "[I" ∈ Wg := t1_in (List.mem_of_getElem? (i := 95) rfl) rfl
theorem wen_90 : Cond.lays RX8 "TicketGate$Table" "rows" "I" ∈ Wg := t1_in (List.mem_of_getElem? (i := 96) rfl) rfl
theorem wen_91 : Cond.instantiable RX9 4 ∈ Wg := t1_in (List.mem_of_getElem? (i := 121) rfl) rfl
theorem wen_92 : Cond.laysFinal RX9 "TicketGate$Table" "limit" "I" ∈ Wg := t1_in (List.mem_of_getElem? (i := 126) rfl) rfl
theorem wen_93 : Cond.laysFinal RX9 "TicketGate$Table" "width" "I" ∈ Wg := t1_in (List.mem_of_getElem? (i := 127) rfl) rfl
theorem wen_94 : Cond.laysFinal RX9 "TicketGate$Table" "cells" "[I" ∈ Wg := t1_in (List.mem_of_getElem? (i := 128) rfl) rfl
theorem wen_95 : Cond.lays RX9 "TicketGate$Table" "rows" "I" ∈ Wg := t1_in (List.mem_of_getElem? (i := 129) rfl) rfl
theorem wen_96 : Cond.instantiable RX10 4 ∈ Wg := t4_in (List.mem_of_getElem? (i := 123) rfl) rfl
theorem wen_97 : Cond.laysFinal RX10 "TicketGate$Table" "limit" "I" ∈ Wg := t4_in (List.mem_of_getElem? (i := 128) rfl) rfl
theorem wen_98 : Cond.laysFinal RX10 "TicketGate$Table" "width" "I" ∈ Wg := t4_in (List.mem_of_getElem? (i := 129) rfl) rfl
theorem wen_99 : Cond.laysFinal RX10 "TicketGate$Table" "cells" "[I" ∈ Wg := t4_in (List.mem_of_getElem? (i := 130) rfl) rfl
theorem wen_100 : Cond.lays RX10 "TicketGate$Table" "rows" "I" ∈ Wg := t4_in (List.mem_of_getElem? (i := 131) rfl) rfl
theorem layen_X11 : ∀ k, k < 8 → u_lay RX11 TX11 k ∈ Wg := fun k hk => match k, hk with
  | 0, _ => wen_0
  | 1, _ => wen_1
  | 2, _ => wen_2
  | 3, _ => wen_3
  | 4, _ => wen_4
  | 5, _ => wen_5
  | 6, _ => wen_6
  | 7, _ => wen_7
  | k + 8, h => absurd h (by omega)
theorem layen_X12 : ∀ k, k < 22 → u_lay RX12 TX12 k ∈ Wg := fun k hk => match k, hk with
  | 0, _ => wen_14
  | 1, _ => wen_15
  | 2, _ => wen_16
  | 3, _ => wen_17
  | 4, _ => wen_18
  | 5, _ => wen_19
  | 6, _ => wen_20
  | 7, _ => wen_21
  | 8, _ => wen_22
  | 9, _ => wen_23
  | 10, _ => wen_24
  | 11, _ => wen_25
  | 12, _ => wen_26
  | 13, _ => wen_27
  | 14, _ => wen_28
  | 15, _ => wen_29
  | 16, _ => wen_30
  | 17, _ => wen_31
  | 18, _ => wen_32
  | 19, _ => wen_33
  | 20, _ => wen_34
  | 21, _ => wen_35
  | k + 22, h => absurd h (by omega)
theorem layen_X0 : ∀ k, k < 2 → u_lay RX0 TX0 k ∈ Wg := fun k hk => match k, hk with
  | 0, _ => wen_47
  | 1, _ => wen_48
  | k + 2, h => absurd h (by omega)
theorem layen_X1 : ∀ k, k < 8 → u_lay RX1 TX1 k ∈ Wg := fun k hk => match k, hk with
  | 0, _ => wen_50
  | 1, _ => wen_51
  | 2, _ => wen_52
  | 3, _ => wen_53
  | 4, _ => wen_54
  | 5, _ => wen_55
  | 6, _ => wen_56
  | 7, _ => wen_57
  | k + 8, h => absurd h (by omega)
theorem layen_X2 : ∀ k, k < 4 → u_lay RX2 TX2 k ∈ Wg := fun k hk => match k, hk with
  | 0, _ => wen_59
  | 1, _ => wen_60
  | 2, _ => wen_61
  | 3, _ => wen_62
  | k + 4, h => absurd h (by omega)
theorem layen_X3 : ∀ k, k < 4 → u_lay RX3 TX3 k ∈ Wg := fun k hk => match k, hk with
  | 0, _ => wen_64
  | 1, _ => wen_65
  | 2, _ => wen_66
  | 3, _ => wen_67
  | k + 4, h => absurd h (by omega)
theorem layen_X4 : ∀ k, k < 1 → u_lay RX4 TX4 k ∈ Wg := fun k hk => match k, hk with
  | 0, _ => wen_69
  | k + 1, h => absurd h (by omega)
theorem layen_X5 : ∀ k, k < 10 → u_lay RX5 TX5 k ∈ Wg := fun k hk => match k, hk with
  | 0, _ => wen_71
  | 1, _ => wen_72
  | 2, _ => wen_73
  | 3, _ => wen_74
  | 4, _ => wen_75
  | 5, _ => wen_76
  | 6, _ => wen_77
  | 7, _ => wen_78
  | 8, _ => wen_79
  | 9, _ => wen_80
  | k + 10, h => absurd h (by omega)
theorem layen_X7 : ∀ k, k < 4 → u_lay RX7 TX7 k ∈ Wg := fun k hk => match k, hk with
  | 0, _ => wen_82
  | 1, _ => wen_83
  | 2, _ => wen_84
  | 3, _ => wen_85
  | k + 4, h => absurd h (by omega)
theorem layen_X8 : ∀ k, k < 4 → u_lay RX8 TX8 k ∈ Wg := fun k hk => match k, hk with
  | 0, _ => wen_87
  | 1, _ => wen_88
  | 2, _ => wen_89
  | 3, _ => wen_90
  | k + 4, h => absurd h (by omega)
theorem layen_X9 : ∀ k, k < 4 → u_lay RX9 TX9 k ∈ Wg := fun k hk => match k, hk with
  | 0, _ => wen_92
  | 1, _ => wen_93
  | 2, _ => wen_94
  | 3, _ => wen_95
  | k + 4, h => absurd h (by omega)
theorem layen_X10 : ∀ k, k < 4 → u_lay RX10 TX10 k ∈ Wg := fun k hk => match k, hk with
  | 0, _ => wen_97
  | 1, _ => wen_98
  | 2, _ => wen_99
  | 3, _ => wen_100
  | k + 4, h => absurd h (by omega)
def HINIT (REL : FX → FM → Prop) : Prop := ∃ (ox : Int32 × (Nat → Int32) × Int32 × Int32 × Int32 × Int32 × Int32 × Int32 × Int32 × Int32 × Int32 × Int32 × Int32 × Int32 × (Nat → Int32) × Int32 × (Nat → Int32) × Int32 × (Nat → Int32) × Int32 × (Nat → Int32) × Int32 × (Nat → Int32) × Int32 × Int32 × Int32 × Int32 × Int32 × Int32 × (Nat → Int32) × Int32 × (Nat → Int32) × Int32 × (Nat → Int32) × Int32 × (Nat → Int32) × Int32 × (Nat → Int32)) (om : Int32 × Int32 × Int32 × Int32 × Int32 × Int32 × Int32 × (Nat → Int32) × (Nat → Int32) × (Nat → Int32)), f_X11_init = some ox ∧ f_X12_init = some om ∧ REL (0, 0, ox.1, ox.2.1, 0, (fun _ => 0), ox.2.2.1, ox.2.2.2.1, ox.2.2.2.2.1, ox.2.2.2.2.2.1, ox.2.2.2.2.2.2.1, ox.2.2.2.2.2.2.2.1, ox.2.2.2.2.2.2.2.2.1, ox.2.2.2.2.2.2.2.2.2.1, ox.2.2.2.2.2.2.2.2.2.2.1, ox.2.2.2.2.2.2.2.2.2.2.2.1, ox.2.2.2.2.2.2.2.2.2.2.2.2.1, ox.2.2.2.2.2.2.2.2.2.2.2.2.2.1, ox.2.2.2.2.2.2.2.2.2.2.2.2.2.2.1, ox.2.2.2.2.2.2.2.2.2.2.2.2.2.2.2.1, ox.2.2.2.2.2.2.2.2.2.2.2.2.2.2.2.2.1, ox.2.2.2.2.2.2.2.2.2.2.2.2.2.2.2.2.2.1, ox.2.2.2.2.2.2.2.2.2.2.2.2.2.2.2.2.2.2.1, ox.2.2.2.2.2.2.2.2.2.2.2.2.2.2.2.2.2.2.2.1, ox.2.2.2.2.2.2.2.2.2.2.2.2.2.2.2.2.2.2.2.2.1, ox.2.2.2.2.2.2.2.2.2.2.2.2.2.2.2.2.2.2.2.2.2.1, ox.2.2.2.2.2.2.2.2.2.2.2.2.2.2.2.2.2.2.2.2.2.2.1, ox.2.2.2.2.2.2.2.2.2.2.2.2.2.2.2.2.2.2.2.2.2.2.2.1, ox.2.2.2.2.2.2.2.2.2.2.2.2.2.2.2.2.2.2.2.2.2.2.2.2.1, ox.2.2.2.2.2.2.2.2.2.2.2.2.2.2.2.2.2.2.2.2.2.2.2.2.2.1, ox.2.2.2.2.2.2.2.2.2.2.2.2.2.2.2.2.2.2.2.2.2.2.2.2.2.2.1, ox.2.2.2.2.2.2.2.2.2.2.2.2.2.2.2.2.2.2.2.2.2.2.2.2.2.2.2.1, ox.2.2.2.2.2.2.2.2.2.2.2.2.2.2.2.2.2.2.2.2.2.2.2.2.2.2.2.2.1, ox.2.2.2.2.2.2.2.2.2.2.2.2.2.2.2.2.2.2.2.2.2.2.2.2.2.2.2.2.2.1, ox.2.2.2.2.2.2.2.2.2.2.2.2.2.2.2.2.2.2.2.2.2.2.2.2.2.2.2.2.2.2.1, ox.2.2.2.2.2.2.2.2.2.2.2.2.2.2.2.2.2.2.2.2.2.2.2.2.2.2.2.2.2.2.2.1, ox.2.2.2.2.2.2.2.2.2.2.2.2.2.2.2.2.2.2.2.2.2.2.2.2.2.2.2.2.2.2.2.2.1, ox.2.2.2.2.2.2.2.2.2.2.2.2.2.2.2.2.2.2.2.2.2.2.2.2.2.2.2.2.2.2.2.2.2.1, ox.2.2.2.2.2.2.2.2.2.2.2.2.2.2.2.2.2.2.2.2.2.2.2.2.2.2.2.2.2.2.2.2.2.2.1, ox.2.2.2.2.2.2.2.2.2.2.2.2.2.2.2.2.2.2.2.2.2.2.2.2.2.2.2.2.2.2.2.2.2.2.2.1, ox.2.2.2.2.2.2.2.2.2.2.2.2.2.2.2.2.2.2.2.2.2.2.2.2.2.2.2.2.2.2.2.2.2.2.2.2.1, ox.2.2.2.2.2.2.2.2.2.2.2.2.2.2.2.2.2.2.2.2.2.2.2.2.2.2.2.2.2.2.2.2.2.2.2.2.2, (fun _ => none), (fun _ => none)) (0, 0, 0, 0, om.1, om.2.1, om.2.2.1, om.2.2.2.1, om.2.2.2.2.1, om.2.2.2.2.2.1, om.2.2.2.2.2.2.1, 0, om.2.2.2.2.2.2.2.1, om.2.2.2.2.2.2.2.2.1, (fun _ => 0), (fun _ => 0), (fun _ => 0), (fun _ => 0), (fun _ => 0), om.2.2.2.2.2.2.2.2.2, (fun _ => 0), (fun _ => 0))
def GW (sk sv : Nat → Nat) (A : Nat → Prop) (U : State) (H : Heap) : Prop := vU sk sv A U H ∧ (∀ w ∈ nestW, va_Nw w U) ∧ va_AO RX5 U ∧ ∀ q ∈ ncL, va_Nc q.1 q.2 U
theorem nest_warm {s U : State} (hW : s.WarmedH U.vm) (h : ∀ w ∈ nestW, va_Nw w s) : ∀ w ∈ nestW, va_Nw w U := by
  intro w hw
  have hz := h w hw
  simp only [nestW, List.mem_cons, List.not_mem_nil, or_false] at hw
  rcases hw with rfl | rfl | rfl | rfl | rfl | rfl | rfl | rfl | rfl | rfl | rfl | rfl | rfl | rfl | rfl | rfl | rfl | rfl | rfl | rfl | rfl | rfl | rfl | rfl | rfl | rfl | rfl
  all_goals first | exact va_Nw.warmF hW hz | exact va_Nw.warmM hW hz | exact va_Nw.warmC hW hz | exact va_Nw.warmD hW hz
theorem GW_ok (sk sv : Nat → Nat) : vG (GW sk sv) :=
  ⟨fun A B U H h hAB => ⟨⟨vk_S.narrow h.1.1 hAB, h.1.2.1, va_Z.narrow h.1.2.2.1 hAB, va_Zq.narrow h.1.2.2.2.1 hAB, vx_Zq.narrow h.1.2.2.2.2.1 hAB, vx_Zq.narrow h.1.2.2.2.2.2 hAB⟩, h.2⟩,
   fun A U H H1 h hq => ⟨⟨vk_S.kept h.1.1 hq, h.1.2.1, va_Z.kept h.1.2.2.1 hq, va_Zq.kept h.1.2.2.2.1 hq, vx_Zq.kept h.1.2.2.2.2.1 hq, vx_Zq.kept h.1.2.2.2.2.2 hq⟩, h.2⟩,
   fun A s U H hW h => ⟨⟨vk_S.moved hW.alike h.1.1, fun r hr => vk_R.warm hW (h.1.2.1 r hr), va_Z.moved hW.alike h.1.2.2.1, va_Zq.moved hW.alike h.1.2.2.2.1, vx_Zq.moved hW.alike h.1.2.2.2.2.1, vx_Zq.moved hW.alike h.1.2.2.2.2.2⟩, nest_warm hW h.2.1, va_AO.moved hW.alike h.2.2.1, fun q hq => va_Nc.moved hW.alike (h.2.2.2 q hq)⟩,
   fun A U H h => h.2.1⟩
theorem nest_tbl : ∀ w ∈ nestW, w ∈ lw_tbl := by decide +kernel
theorem ao_tbl : Cond.arrayOver (.object RX5) ∈ lw_tbl := by decide +kernel
theorem nc_tbl : ∀ q ∈ ncL, Cond.not (.castable q.1 q.2) ∈ FLS := by decide +kernel
theorem st_GW {s : State} {args : Array Value} (hs : ∀ c ∈ FLS, c.before args s = true) (hts : ∀ w ∈ lw_tbl, w.before args s = true) {A : Nat → Prop} (hA : ∀ a : Nat, a < s.heap.size → ¬ A a) : ∃ sk sv : Nat → Nat, GW sk sv A s s.heap := by
  obtain ⟨sk, sv, h⟩ := st_vU hs hts hA
  exact ⟨sk, sv, h, fun w hw => va_Nw.of (nest_ok w hw) (hts w (nest_tbl w hw)), va_AO.of (hts _ ao_tbl), fun q hq => va_Nc.of (hs _ (nc_tbl q hq))⟩
theorem st_arr1 {s : State} {args : Array Value} {ty : FieldType} (h : (Cond.arrayClass ty).before args s = true) : ∃ cA, ArrOfT s cA ty ∧ s.vm.findClass ("[" ++ ty.toString) = some cA := by
  obtain ⟨c, k, comp, h1, h2, h3⟩ := Cond.arrayClass_spec h
  exact ⟨c, fun n z => ⟨fun k h => (by cases h), k, h2, comp, h3⟩, h1⟩
theorem st_arr {s : State} {args : Array Value} (hts : ∀ w ∈ Cond.tt :: Wg, w.before args s = true) (hA : va_AO RX5 s) : ∃ c9 : Nat → ClassId, ∀ (k : Nat) (q : ClassId × FieldType), (tyA c9)[k]? = some q → ArrOfT s q.1 q.2 ∧ va_RA s q.1 q.2 := by
  obtain ⟨c0, a0, b0⟩ := st_arr1 (hts _ (mw wen_42))
  obtain ⟨c1, a1, b1⟩ := st_arr1 (hts _ (mw wen_43))
  obtain ⟨c2, a2, b2⟩ := st_arr1 (hts _ (mw wen_44))
  obtain ⟨c4, a4, b4⟩ := st_arr1 (hts _ (mw wen_45))
  obtain ⟨comp, c3, k3, h1, h2, h3, h4, h5⟩ := Cond.arrayOver_spec (va_AO.use (A := args) hA)
  refine ⟨fun k => if k = 0 then c0 else if k = 1 then c1 else if k = 2 then c2 else if k = 3 then c3 else c4, ?_⟩
  intro k q hq
  match k, hq with
  | 0, hq => cases hq; exact ⟨a0, b0⟩
  | 1, hq => cases hq; exact ⟨a1, b1⟩
  | 2, hq => cases hq; exact ⟨a2, b2⟩
  | 3, hq => cases hq; exact ⟨fun n z => ⟨fun k h => (by cases h), k3, h3, comp, h4⟩, k3, comp, h3, h4, h1, h5⟩
  | 4, hq => cases hq; exact ⟨a4, b4⟩
  | k + 5, hq => simp at hq
theorem st_cls {s : State} {args : Array Value} (hts : ∀ w ∈ Cond.tt :: Wg, w.before args s = true) : ∃ D : va_G, ∀ (k : Nat) (q : vw_C), vwCl[k]? = some q → u_Kn s q.1 q.2.1 q.2.2 (D.1 k) (D.2 k) := by
  obtain ⟨c0, i0, h0⟩ := u_known (C := RX0) (T := TX0) (N := 2) (n := 2) hts (lay_of layen_X0) (hts _ (mw wen_46))
  obtain ⟨c1, i1, h1⟩ := u_known (C := RX1) (T := TX1) (N := 8) (n := 8) hts (lay_of layen_X1) (hts _ (mw wen_49))
  obtain ⟨c2, i2, h2⟩ := u_known (C := RX2) (T := TX2) (N := 4) (n := 4) hts (lay_of layen_X2) (hts _ (mw wen_58))
  obtain ⟨c3, i3, h3⟩ := u_known (C := RX3) (T := TX3) (N := 4) (n := 4) hts (lay_of layen_X3) (hts _ (mw wen_63))
  obtain ⟨c4, i4, h4⟩ := u_known (C := RX4) (T := TX4) (N := 1) (n := 1) hts (lay_of layen_X4) (hts _ (mw wen_68))
  obtain ⟨c5, i5, h5⟩ := u_known (C := RX5) (T := TX5) (N := 10) (n := 10) hts (lay_of layen_X5) (hts _ (mw wen_70))
  obtain ⟨c6, i6, h6⟩ := u_known (C := RX7) (T := TX7) (N := 4) (n := 4) hts (lay_of layen_X7) (hts _ (mw wen_81))
  obtain ⟨c7, i7, h7⟩ := u_known (C := RX8) (T := TX8) (N := 4) (n := 4) hts (lay_of layen_X8) (hts _ (mw wen_86))
  obtain ⟨c8, i8, h8⟩ := u_known (C := RX9) (T := TX9) (N := 4) (n := 4) hts (lay_of layen_X9) (hts _ (mw wen_91))
  obtain ⟨c9, i9, h9⟩ := u_known (C := RX10) (T := TX10) (N := 4) (n := 4) hts (lay_of layen_X10) (hts _ (mw wen_96))
  obtain ⟨c10, i10, h10⟩ := u_known (C := RX11) (T := TX11) (N := 8) (n := 8) hts (lay_of layen_X11) (hts _ (mw wen_9))
  obtain ⟨c11, i11, h11⟩ := u_known (C := RX12) (T := TX12) (N := 22) (n := 22) hts (lay_of layen_X12) (hts _ (mw wen_37))
  refine ⟨(fun k => [c0, c1, c2, c3, c4, c5, c6, c7, c8, c9, c10, c11].getD k c0, fun k => [i0, i1, i2, i3, i4, i5, i6, i7, i8, i9, i10, i11].getD k i0), ?_⟩
  intro k q hq
  match k, hq with
  | 0, hq => cases hq; exact h0
  | 1, hq => cases hq; exact h1
  | 2, hq => cases hq; exact h2
  | 3, hq => cases hq; exact h3
  | 4, hq => cases hq; exact h4
  | 5, hq => cases hq; exact h5
  | 6, hq => cases hq; exact h6
  | 7, hq => cases hq; exact h7
  | 8, hq => cases hq; exact h8
  | 9, hq => cases hq; exact h9
  | 10, hq => cases hq; exact h10
  | 11, hq => cases hq; exact h11
  | k + 12, hq => simp [vwCl] at hq
set_option maxRecDepth 100000 in
set_option maxHeartbeats 4000000 in
theorem law_walks (l : Launch) {G : (Nat → Prop) → State → Heap → Prop} (hG : vG G) (hl0 : l.stackTraces = false) (hNC : ∀ (A : Nat → Prop) (U : State) (H : Heap), G A U H → ∀ q ∈ ncL, va_Nc q.1 q.2 U) (hGA : ∀ (A : Nat → Prop) (U : State) (H : Heap), G A U H → va_AO RX5 U) (D : va_G) (c9 : Nat → ClassId) (sk sv : Nat → Nat) (hGU : ∀ (A : Nat → Prop) (U : State) (H : Heap), G A U H → vU sk sv A U H) (b L : Nat) (xs : Nat → Int32) {p : Program} {e : Env} {s : State} {mm : MethodId} {args : Array Value} {below : List Frame} {meth : Method} {c : Code} {A : Nat → Prop} {Q : State → Prop} (X : vX p s mm args meth c cL_law 9 (some .boolean) RL (Cond.tt :: Wg) D (tyA c9) G A) (hX : va_X b L xs s s.heap) (hbl : b < s.heap.size) (hbA : ¬ A b) (REL : Nat → FX → FM → Prop) (H : ∀ t : Nat, HALL (REL (t + 1)) (REL t)) (HI : HINIT (REL 512)) (hL : L ≤ 3072) (KX : ∀ (W F : va_W) (C S : Nat) (lv : List (Nat × Value)), C ≤ 601024 → S ≤ 7293034 → vW p l e room_1 s mm args below meth c 9 D A F C S Q W 3459 lv [.int 1]) : vW p l e room_1 s mm args below meth c 9 D A [] 0 0 Q [] 0 [(0, .ref b)] [] := by
  obtain ⟨ox, om, hx1, hm1, hR⟩ := HI
  refine v_new X (C := RX11) (T := TX11) (N := 8) (ci := 10) (fs := [.null, .null, .null, .null, .null, .null, .int 0, .int 0]) dL_law_0 (lay_of layen_X11) tyX11 tyX11_ok (mw wen_8) (mw wen_9) (mw wen_10) rfl (fun j hj => match j, hj with | 0, _ => rfl | 1, _ => rfl | 2, _ => rfl | 3, _ => rfl | 4, _ => rfl | 5, _ => rfl | 6, _ => rfl | 7, _ => rfl | z + 8, h => absurd h (by omega)) (by first | exact Nat.le_of_ble_eq_true rfl | exact Nat.le_of_eq (Nat.zero_add _) | omega) (by first | exact Nat.le_of_ble_eq_true rfl | exact Nat.le_of_eq (Nat.zero_add _) | omega) 3 rfl (fun q1 => ?_)
  refine v_eq (ws2 := [(q1, .inr (10, [.null, .null, .null, .null, .null, .null, .int 0, .int 0]))]) rfl rfl rfl rfl ?_
  refine v_dup X dL_law_3 rfl 4 rfl ?_
  refine v_callIn X (S := Nat → Nat) (As := []) (rest := [.ref q1]) (ws' := fun u4 => [((u4 0), .inr (10, [.ref (u4 1), .ref (u4 3), .ref (u4 5), .ref (u4 17), .ref (u4 28), .ref (u4 30), .int 0, .int 0])), ((u4 1), .inr (0, [.ref (u4 2), .int ox.1])), ((u4 2), .inl (c9 0, 600, .inl ox.2.1)), ((u4 3), .inr (0, [.ref (u4 4), .int 0])), ((u4 4), .inl (c9 0, 64, .inl (fun _ => 0))), ((u4 5), .inr (1, [.ref (u4 1), .ref (u4 6), .int ox.2.2.1, .int ox.2.2.2.1, .int ox.2.2.2.2.1, .int ox.2.2.2.2.2.1, .int ox.2.2.2.2.2.2.1, .int ox.2.2.2.2.2.2.2.1])), ((u4 6), .inr (5, [.ref (u4 7), .ref (u4 9), .ref (u4 11), .ref (u4 13), .ref (u4 15), .int ox.2.2.2.2.2.2.2.2.1, .int ox.2.2.2.2.2.2.2.2.2.1, .int ox.2.2.2.2.2.2.2.2.2.2.1, .int ox.2.2.2.2.2.2.2.2.2.2.2.1, .int ox.2.2.2.2.2.2.2.2.2.2.2.2.1])), ((u4 7), .inr (2, [.int 5, .int 5, .ref (u4 8), .int ox.2.2.2.2.2.2.2.2.2.2.2.2.2.1])), ((u4 8), .inl (c9 0, 25, .inl ox.2.2.2.2.2.2.2.2.2.2.2.2.2.2.1)), ((u4 9), .inr (7, [.int 6, .int 5, .ref (u4 10), .int ox.2.2.2.2.2.2.2.2.2.2.2.2.2.2.2.1])), ((u4 10), .inl (c9 0, 30, .inl ox.2.2.2.2.2.2.2.2.2.2.2.2.2.2.2.2.1)), ((u4 11), .inr (3, [.int 6, .int 3, .ref (u4 12), .int ox.2.2.2.2.2.2.2.2.2.2.2.2.2.2.2.2.2.1])), ((u4 12), .inl (c9 0, 18, .inl ox.2.2.2.2.2.2.2.2.2.2.2.2.2.2.2.2.2.2.1)), ((u4 13), .inr (6, [.int 24, .int 10, .ref (u4 14), .int ox.2.2.2.2.2.2.2.2.2.2.2.2.2.2.2.2.2.2.2.1])), ((u4 14), .inl (c9 0, 240, .inl ox.2.2.2.2.2.2.2.2.2.2.2.2.2.2.2.2.2.2.2.2.1)), ((u4 15), .inr (8, [.int 30, .int 4, .ref (u4 16), .int ox.2.2.2.2.2.2.2.2.2.2.2.2.2.2.2.2.2.2.2.2.2.1])), ((u4 16), .inl (c9 0, 120, .inl ox.2.2.2.2.2.2.2.2.2.2.2.2.2.2.2.2.2.2.2.2.2.2.1)), ((u4 17), .inr (5, [.ref (u4 18), .ref (u4 20), .ref (u4 22), .ref (u4 24), .ref (u4 26), .int ox.2.2.2.2.2.2.2.2.2.2.2.2.2.2.2.2.2.2.2.2.2.2.2.1, .int ox.2.2.2.2.2.2.2.2.2.2.2.2.2.2.2.2.2.2.2.2.2.2.2.2.1, .int ox.2.2.2.2.2.2.2.2.2.2.2.2.2.2.2.2.2.2.2.2.2.2.2.2.2.1, .int ox.2.2.2.2.2.2.2.2.2.2.2.2.2.2.2.2.2.2.2.2.2.2.2.2.2.2.1, .int ox.2.2.2.2.2.2.2.2.2.2.2.2.2.2.2.2.2.2.2.2.2.2.2.2.2.2.2.1])), ((u4 18), .inr (2, [.int 5, .int 5, .ref (u4 19), .int ox.2.2.2.2.2.2.2.2.2.2.2.2.2.2.2.2.2.2.2.2.2.2.2.2.2.2.2.2.1])), ((u4 19), .inl (c9 0, 25, .inl ox.2.2.2.2.2.2.2.2.2.2.2.2.2.2.2.2.2.2.2.2.2.2.2.2.2.2.2.2.2.1)), ((u4 20), .inr (7, [.int 6, .int 5, .ref (u4 21), .int ox.2.2.2.2.2.2.2.2.2.2.2.2.2.2.2.2.2.2.2.2.2.2.2.2.2.2.2.2.2.2.1])), ((u4 21), .inl (c9 0, 30, .inl ox.2.2.2.2.2.2.2.2.2.2.2.2.2.2.2.2.2.2.2.2.2.2.2.2.2.2.2.2.2.2.2.1)), ((u4 22), .inr (3, [.int 6, .int 3, .ref (u4 23), .int ox.2.2.2.2.2.2.2.2.2.2.2.2.2.2.2.2.2.2.2.2.2.2.2.2.2.2.2.2.2.2.2.2.1])), ((u4 23), .inl (c9 0, 18, .inl ox.2.2.2.2.2.2.2.2.2.2.2.2.2.2.2.2.2.2.2.2.2.2.2.2.2.2.2.2.2.2.2.2.2.1)), ((u4 24), .inr (6, [.int 24, .int 10, .ref (u4 25), .int ox.2.2.2.2.2.2.2.2.2.2.2.2.2.2.2.2.2.2.2.2.2.2.2.2.2.2.2.2.2.2.2.2.2.2.1])), ((u4 25), .inl (c9 0, 240, .inl ox.2.2.2.2.2.2.2.2.2.2.2.2.2.2.2.2.2.2.2.2.2.2.2.2.2.2.2.2.2.2.2.2.2.2.2.1)), ((u4 26), .inr (8, [.int 30, .int 4, .ref (u4 27), .int ox.2.2.2.2.2.2.2.2.2.2.2.2.2.2.2.2.2.2.2.2.2.2.2.2.2.2.2.2.2.2.2.2.2.2.2.2.1])), ((u4 27), .inl (c9 0, 120, .inl ox.2.2.2.2.2.2.2.2.2.2.2.2.2.2.2.2.2.2.2.2.2.2.2.2.2.2.2.2.2.2.2.2.2.2.2.2.2)), ((u4 28), .inr (4, [.ref (u4 29)])), ((u4 29), .inl (c9 3, 2, .inr (.inr (.inr (.inr (rowsO (fun _ => none) (fun _ _ => 0))))))), ((u4 30), .inr (4, [.ref (u4 31)])), ((u4 31), .inl (c9 3, 8, .inr (.inr (.inr (.inr (rowsO (fun _ => none) (fun _ _ => 0)))))))]) (c_X11_init l hG D c9 sk sv hGU hGA q1 hx1) 0 (wg_sub _ wen_12 _) rfl rfl rfl (mw wen_10) (mw wen_11) (mw wen_13) rfl pd_X11_init ⟨Nat.le_of_ble_eq_true rfl, Nat.le_of_ble_eq_true rfl⟩ rfl rfl (Nat.le_of_ble_eq_true rfl) ⟨(by first | exact Nat.le_of_ble_eq_true rfl | exact Nat.le_of_eq (Nat.zero_add _) | omega), (by first | exact Nat.le_of_ble_eq_true rfl | exact Nat.le_of_eq (Nat.zero_add _) | omega)⟩ [0] [] [0, 1, 2, 3, 4, 5, 6, 7, 8, 9, 10, 11, 12, 13, 14, 15, 16, 17, 18, 19, 20, 21, 22, 23, 24, 25, 26, 27, 28, 29, 30, 31] rfl rfl (fun _ => rfl) rfl dL_law_4 7 rfl (fun u4 hpu4 => ?_)
  subst hpu4
  refine v_eq (ws2 := [((u4 0), .inr (10, [.ref (u4 1), .ref (u4 3), .ref (u4 5), .ref (u4 17), .ref (u4 28), .ref (u4 30), .int 0, .int 0])), ((u4 1), .inr (0, [.ref (u4 2), .int ox.1])), ((u4 2), .inl (c9 0, 600, .inl ox.2.1)), ((u4 3), .inr (0, [.ref (u4 4), .int 0])), ((u4 4), .inl (c9 0, 64, .inl (fun _ => 0))), ((u4 5), .inr (1, [.ref (u4 1), .ref (u4 6), .int ox.2.2.1, .int ox.2.2.2.1, .int ox.2.2.2.2.1, .int ox.2.2.2.2.2.1, .int ox.2.2.2.2.2.2.1, .int ox.2.2.2.2.2.2.2.1])), ((u4 6), .inr (5, [.ref (u4 7), .ref (u4 9), .ref (u4 11), .ref (u4 13), .ref (u4 15), .int ox.2.2.2.2.2.2.2.2.1, .int ox.2.2.2.2.2.2.2.2.2.1, .int ox.2.2.2.2.2.2.2.2.2.2.1, .int ox.2.2.2.2.2.2.2.2.2.2.2.1, .int ox.2.2.2.2.2.2.2.2.2.2.2.2.1])), ((u4 7), .inr (2, [.int 5, .int 5, .ref (u4 8), .int ox.2.2.2.2.2.2.2.2.2.2.2.2.2.1])), ((u4 8), .inl (c9 0, 25, .inl ox.2.2.2.2.2.2.2.2.2.2.2.2.2.2.1)), ((u4 9), .inr (7, [.int 6, .int 5, .ref (u4 10), .int ox.2.2.2.2.2.2.2.2.2.2.2.2.2.2.2.1])), ((u4 10), .inl (c9 0, 30, .inl ox.2.2.2.2.2.2.2.2.2.2.2.2.2.2.2.2.1)), ((u4 11), .inr (3, [.int 6, .int 3, .ref (u4 12), .int ox.2.2.2.2.2.2.2.2.2.2.2.2.2.2.2.2.2.1])), ((u4 12), .inl (c9 0, 18, .inl ox.2.2.2.2.2.2.2.2.2.2.2.2.2.2.2.2.2.2.1)), ((u4 13), .inr (6, [.int 24, .int 10, .ref (u4 14), .int ox.2.2.2.2.2.2.2.2.2.2.2.2.2.2.2.2.2.2.2.1])), ((u4 14), .inl (c9 0, 240, .inl ox.2.2.2.2.2.2.2.2.2.2.2.2.2.2.2.2.2.2.2.2.1)), ((u4 15), .inr (8, [.int 30, .int 4, .ref (u4 16), .int ox.2.2.2.2.2.2.2.2.2.2.2.2.2.2.2.2.2.2.2.2.2.1])), ((u4 16), .inl (c9 0, 120, .inl ox.2.2.2.2.2.2.2.2.2.2.2.2.2.2.2.2.2.2.2.2.2.2.1)), ((u4 17), .inr (5, [.ref (u4 18), .ref (u4 20), .ref (u4 22), .ref (u4 24), .ref (u4 26), .int ox.2.2.2.2.2.2.2.2.2.2.2.2.2.2.2.2.2.2.2.2.2.2.2.1, .int ox.2.2.2.2.2.2.2.2.2.2.2.2.2.2.2.2.2.2.2.2.2.2.2.2.1, .int ox.2.2.2.2.2.2.2.2.2.2.2.2.2.2.2.2.2.2.2.2.2.2.2.2.2.1, .int ox.2.2.2.2.2.2.2.2.2.2.2.2.2.2.2.2.2.2.2.2.2.2.2.2.2.2.1, .int ox.2.2.2.2.2.2.2.2.2.2.2.2.2.2.2.2.2.2.2.2.2.2.2.2.2.2.2.1])), ((u4 18), .inr (2, [.int 5, .int 5, .ref (u4 19), .int ox.2.2.2.2.2.2.2.2.2.2.2.2.2.2.2.2.2.2.2.2.2.2.2.2.2.2.2.2.1])), ((u4 19), .inl (c9 0, 25, .inl ox.2.2.2.2.2.2.2.2.2.2.2.2.2.2.2.2.2.2.2.2.2.2.2.2.2.2.2.2.2.1)), ((u4 20), .inr (7, [.int 6, .int 5, .ref (u4 21), .int ox.2.2.2.2.2.2.2.2.2.2.2.2.2.2.2.2.2.2.2.2.2.2.2.2.2.2.2.2.2.2.1])), ((u4 21), .inl (c9 0, 30, .inl ox.2.2.2.2.2.2.2.2.2.2.2.2.2.2.2.2.2.2.2.2.2.2.2.2.2.2.2.2.2.2.2.1)), ((u4 22), .inr (3, [.int 6, .int 3, .ref (u4 23), .int ox.2.2.2.2.2.2.2.2.2.2.2.2.2.2.2.2.2.2.2.2.2.2.2.2.2.2.2.2.2.2.2.2.1])), ((u4 23), .inl (c9 0, 18, .inl ox.2.2.2.2.2.2.2.2.2.2.2.2.2.2.2.2.2.2.2.2.2.2.2.2.2.2.2.2.2.2.2.2.2.1)), ((u4 24), .inr (6, [.int 24, .int 10, .ref (u4 25), .int ox.2.2.2.2.2.2.2.2.2.2.2.2.2.2.2.2.2.2.2.2.2.2.2.2.2.2.2.2.2.2.2.2.2.2.1])), ((u4 25), .inl (c9 0, 240, .inl ox.2.2.2.2.2.2.2.2.2.2.2.2.2.2.2.2.2.2.2.2.2.2.2.2.2.2.2.2.2.2.2.2.2.2.2.1)), ((u4 26), .inr (8, [.int 30, .int 4, .ref (u4 27), .int ox.2.2.2.2.2.2.2.2.2.2.2.2.2.2.2.2.2.2.2.2.2.2.2.2.2.2.2.2.2.2.2.2.2.2.2.2.1])), ((u4 27), .inl (c9 0, 120, .inl ox.2.2.2.2.2.2.2.2.2.2.2.2.2.2.2.2.2.2.2.2.2.2.2.2.2.2.2.2.2.2.2.2.2.2.2.2.2)), ((u4 28), .inr (4, [.ref (u4 29)])), ((u4 29), .inl (c9 3, 2, .inr (.inr (.inr (.inr (rowsO (fun _ => none) (fun _ _ => 0))))))), ((u4 30), .inr (4, [.ref (u4 31)])), ((u4 31), .inl (c9 3, 8, .inr (.inr (.inr (.inr (rowsO (fun _ => none) (fun _ _ => 0)))))))]) rfl rfl rfl rfl ?_
  refine v_astore_n X (lv' := [(1, .ref (u4 0)), (0, .ref b)]) dL_law_7 rfl (by decide) rfl 8 rfl ?_
  refine v_new X (C := RX12) (T := TX12) (N := 22) (ci := 11) (fs := [.null, .null, .null, .null, .null, .null, .int 0, .int 0, .int 0, .null, .null, .int 0, .int 0, .int 0, .int 0, .int 0, .int 0, .int 0, .int 0, .null, .null, .int 0]) dL_law_8 (lay_of layen_X12) tyX12 tyX12_ok (mw wen_36) (mw wen_37) (mw wen_38) rfl (fun j hj => match j, hj with | 0, _ => rfl | 1, _ => rfl | 2, _ => rfl | 3, _ => rfl | 4, _ => rfl | 5, _ => rfl | 6, _ => rfl | 7, _ => rfl | 8, _ => rfl | 9, _ => rfl | 10, _ => rfl | 11, _ => rfl | 12, _ => rfl | 13, _ => rfl | 14, _ => rfl | 15, _ => rfl | 16, _ => rfl | 17, _ => rfl | 18, _ => rfl | 19, _ => rfl | 20, _ => rfl | 21, _ => rfl | z + 22, h => absurd h (by omega)) (by first | exact Nat.le_of_ble_eq_true rfl | exact Nat.le_of_eq (Nat.zero_add _) | omega) (by first | exact Nat.le_of_ble_eq_true rfl | exact Nat.le_of_eq (Nat.zero_add _) | omega) 11 rfl (fun q67 => ?_)
  refine v_eq (ws2 := [((u4 0), .inr (10, [.ref (u4 1), .ref (u4 3), .ref (u4 5), .ref (u4 17), .ref (u4 28), .ref (u4 30), .int 0, .int 0])), ((u4 1), .inr (0, [.ref (u4 2), .int ox.1])), ((u4 2), .inl (c9 0, 600, .inl ox.2.1)), ((u4 3), .inr (0, [.ref (u4 4), .int 0])), ((u4 4), .inl (c9 0, 64, .inl (fun _ => 0))), ((u4 5), .inr (1, [.ref (u4 1), .ref (u4 6), .int ox.2.2.1, .int ox.2.2.2.1, .int ox.2.2.2.2.1, .int ox.2.2.2.2.2.1, .int ox.2.2.2.2.2.2.1, .int ox.2.2.2.2.2.2.2.1])), ((u4 6), .inr (5, [.ref (u4 7), .ref (u4 9), .ref (u4 11), .ref (u4 13), .ref (u4 15), .int ox.2.2.2.2.2.2.2.2.1, .int ox.2.2.2.2.2.2.2.2.2.1, .int ox.2.2.2.2.2.2.2.2.2.2.1, .int ox.2.2.2.2.2.2.2.2.2.2.2.1, .int ox.2.2.2.2.2.2.2.2.2.2.2.2.1])), ((u4 7), .inr (2, [.int 5, .int 5, .ref (u4 8), .int ox.2.2.2.2.2.2.2.2.2.2.2.2.2.1])), ((u4 8), .inl (c9 0, 25, .inl ox.2.2.2.2.2.2.2.2.2.2.2.2.2.2.1)), ((u4 9), .inr (7, [.int 6, .int 5, .ref (u4 10), .int ox.2.2.2.2.2.2.2.2.2.2.2.2.2.2.2.1])), ((u4 10), .inl (c9 0, 30, .inl ox.2.2.2.2.2.2.2.2.2.2.2.2.2.2.2.2.1)), ((u4 11), .inr (3, [.int 6, .int 3, .ref (u4 12), .int ox.2.2.2.2.2.2.2.2.2.2.2.2.2.2.2.2.2.1])), ((u4 12), .inl (c9 0, 18, .inl ox.2.2.2.2.2.2.2.2.2.2.2.2.2.2.2.2.2.2.1)), ((u4 13), .inr (6, [.int 24, .int 10, .ref (u4 14), .int ox.2.2.2.2.2.2.2.2.2.2.2.2.2.2.2.2.2.2.2.1])), ((u4 14), .inl (c9 0, 240, .inl ox.2.2.2.2.2.2.2.2.2.2.2.2.2.2.2.2.2.2.2.2.1)), ((u4 15), .inr (8, [.int 30, .int 4, .ref (u4 16), .int ox.2.2.2.2.2.2.2.2.2.2.2.2.2.2.2.2.2.2.2.2.2.1])), ((u4 16), .inl (c9 0, 120, .inl ox.2.2.2.2.2.2.2.2.2.2.2.2.2.2.2.2.2.2.2.2.2.2.1)), ((u4 17), .inr (5, [.ref (u4 18), .ref (u4 20), .ref (u4 22), .ref (u4 24), .ref (u4 26), .int ox.2.2.2.2.2.2.2.2.2.2.2.2.2.2.2.2.2.2.2.2.2.2.2.1, .int ox.2.2.2.2.2.2.2.2.2.2.2.2.2.2.2.2.2.2.2.2.2.2.2.2.1, .int ox.2.2.2.2.2.2.2.2.2.2.2.2.2.2.2.2.2.2.2.2.2.2.2.2.2.1, .int ox.2.2.2.2.2.2.2.2.2.2.2.2.2.2.2.2.2.2.2.2.2.2.2.2.2.2.1, .int ox.2.2.2.2.2.2.2.2.2.2.2.2.2.2.2.2.2.2.2.2.2.2.2.2.2.2.2.1])), ((u4 18), .inr (2, [.int 5, .int 5, .ref (u4 19), .int ox.2.2.2.2.2.2.2.2.2.2.2.2.2.2.2.2.2.2.2.2.2.2.2.2.2.2.2.2.1])), ((u4 19), .inl (c9 0, 25, .inl ox.2.2.2.2.2.2.2.2.2.2.2.2.2.2.2.2.2.2.2.2.2.2.2.2.2.2.2.2.2.1)), ((u4 20), .inr (7, [.int 6, .int 5, .ref (u4 21), .int ox.2.2.2.2.2.2.2.2.2.2.2.2.2.2.2.2.2.2.2.2.2.2.2.2.2.2.2.2.2.2.1])), ((u4 21), .inl (c9 0, 30, .inl ox.2.2.2.2.2.2.2.2.2.2.2.2.2.2.2.2.2.2.2.2.2.2.2.2.2.2.2.2.2.2.2.1)), ((u4 22), .inr (3, [.int 6, .int 3, .ref (u4 23), .int ox.2.2.2.2.2.2.2.2.2.2.2.2.2.2.2.2.2.2.2.2.2.2.2.2.2.2.2.2.2.2.2.2.1])), ((u4 23), .inl (c9 0, 18, .inl ox.2.2.2.2.2.2.2.2.2.2.2.2.2.2.2.2.2.2.2.2.2.2.2.2.2.2.2.2.2.2.2.2.2.1)), ((u4 24), .inr (6, [.int 24, .int 10, .ref (u4 25), .int ox.2.2.2.2.2.2.2.2.2.2.2.2.2.2.2.2.2.2.2.2.2.2.2.2.2.2.2.2.2.2.2.2.2.2.1])), ((u4 25), .inl (c9 0, 240, .inl ox.2.2.2.2.2.2.2.2.2.2.2.2.2.2.2.2.2.2.2.2.2.2.2.2.2.2.2.2.2.2.2.2.2.2.2.1)), ((u4 26), .inr (8, [.int 30, .int 4, .ref (u4 27), .int ox.2.2.2.2.2.2.2.2.2.2.2.2.2.2.2.2.2.2.2.2.2.2.2.2.2.2.2.2.2.2.2.2.2.2.2.2.1])), ((u4 27), .inl (c9 0, 120, .inl ox.2.2.2.2.2.2.2.2.2.2.2.2.2.2.2.2.2.2.2.2.2.2.2.2.2.2.2.2.2.2.2.2.2.2.2.2.2)), ((u4 28), .inr (4, [.ref (u4 29)])), ((u4 29), .inl (c9 3, 2, .inr (.inr (.inr (.inr (rowsO (fun _ => none) (fun _ _ => 0))))))), ((u4 30), .inr (4, [.ref (u4 31)])), ((u4 31), .inl (c9 3, 8, .inr (.inr (.inr (.inr (rowsO (fun _ => none) (fun _ _ => 0))))))), (q67, .inr (11, [.null, .null, .null, .null, .null, .null, .int 0, .int 0, .int 0, .null, .null, .int 0, .int 0, .int 0, .int 0, .int 0, .int 0, .int 0, .int 0, .null, .null, .int 0]))]) rfl rfl rfl rfl ?_
  refine v_dup X dL_law_11 rfl 12 rfl ?_
  refine v_callIn X (S := Nat → Nat) (As := []) (rest := [.ref q67]) (ws' := fun u80 => [((u4 0), .inr (10, [.ref (u4 1), .ref (u4 3), .ref (u4 5), .ref (u4 17), .ref (u4 28), .ref (u4 30), .int 0, .int 0])), ((u4 1), .inr (0, [.ref (u4 2), .int ox.1])), ((u4 2), .inl (c9 0, 600, .inl ox.2.1)), ((u4 3), .inr (0, [.ref (u4 4), .int 0])), ((u4 4), .inl (c9 0, 64, .inl (fun _ => 0))), ((u4 5), .inr (1, [.ref (u4 1), .ref (u4 6), .int ox.2.2.1, .int ox.2.2.2.1, .int ox.2.2.2.2.1, .int ox.2.2.2.2.2.1, .int ox.2.2.2.2.2.2.1, .int ox.2.2.2.2.2.2.2.1])), ((u4 6), .inr (5, [.ref (u4 7), .ref (u4 9), .ref (u4 11), .ref (u4 13), .ref (u4 15), .int ox.2.2.2.2.2.2.2.2.1, .int ox.2.2.2.2.2.2.2.2.2.1, .int ox.2.2.2.2.2.2.2.2.2.2.1, .int ox.2.2.2.2.2.2.2.2.2.2.2.1, .int ox.2.2.2.2.2.2.2.2.2.2.2.2.1])), ((u4 7), .inr (2, [.int 5, .int 5, .ref (u4 8), .int ox.2.2.2.2.2.2.2.2.2.2.2.2.2.1])), ((u4 8), .inl (c9 0, 25, .inl ox.2.2.2.2.2.2.2.2.2.2.2.2.2.2.1)), ((u4 9), .inr (7, [.int 6, .int 5, .ref (u4 10), .int ox.2.2.2.2.2.2.2.2.2.2.2.2.2.2.2.1])), ((u4 10), .inl (c9 0, 30, .inl ox.2.2.2.2.2.2.2.2.2.2.2.2.2.2.2.2.1)), ((u4 11), .inr (3, [.int 6, .int 3, .ref (u4 12), .int ox.2.2.2.2.2.2.2.2.2.2.2.2.2.2.2.2.2.1])), ((u4 12), .inl (c9 0, 18, .inl ox.2.2.2.2.2.2.2.2.2.2.2.2.2.2.2.2.2.2.1)), ((u4 13), .inr (6, [.int 24, .int 10, .ref (u4 14), .int ox.2.2.2.2.2.2.2.2.2.2.2.2.2.2.2.2.2.2.2.1])), ((u4 14), .inl (c9 0, 240, .inl ox.2.2.2.2.2.2.2.2.2.2.2.2.2.2.2.2.2.2.2.2.1)), ((u4 15), .inr (8, [.int 30, .int 4, .ref (u4 16), .int ox.2.2.2.2.2.2.2.2.2.2.2.2.2.2.2.2.2.2.2.2.2.1])), ((u4 16), .inl (c9 0, 120, .inl ox.2.2.2.2.2.2.2.2.2.2.2.2.2.2.2.2.2.2.2.2.2.2.1)), ((u4 17), .inr (5, [.ref (u4 18), .ref (u4 20), .ref (u4 22), .ref (u4 24), .ref (u4 26), .int ox.2.2.2.2.2.2.2.2.2.2.2.2.2.2.2.2.2.2.2.2.2.2.2.1, .int ox.2.2.2.2.2.2.2.2.2.2.2.2.2.2.2.2.2.2.2.2.2.2.2.2.1, .int ox.2.2.2.2.2.2.2.2.2.2.2.2.2.2.2.2.2.2.2.2.2.2.2.2.2.1, .int ox.2.2.2.2.2.2.2.2.2.2.2.2.2.2.2.2.2.2.2.2.2.2.2.2.2.2.1, .int ox.2.2.2.2.2.2.2.2.2.2.2.2.2.2.2.2.2.2.2.2.2.2.2.2.2.2.2.1])), ((u4 18), .inr (2, [.int 5, .int 5, .ref (u4 19), .int ox.2.2.2.2.2.2.2.2.2.2.2.2.2.2.2.2.2.2.2.2.2.2.2.2.2.2.2.2.1])), ((u4 19), .inl (c9 0, 25, .inl ox.2.2.2.2.2.2.2.2.2.2.2.2.2.2.2.2.2.2.2.2.2.2.2.2.2.2.2.2.2.1)), ((u4 20), .inr (7, [.int 6, .int 5, .ref (u4 21), .int ox.2.2.2.2.2.2.2.2.2.2.2.2.2.2.2.2.2.2.2.2.2.2.2.2.2.2.2.2.2.2.1])), ((u4 21), .inl (c9 0, 30, .inl ox.2.2.2.2.2.2.2.2.2.2.2.2.2.2.2.2.2.2.2.2.2.2.2.2.2.2.2.2.2.2.2.1)), ((u4 22), .inr (3, [.int 6, .int 3, .ref (u4 23), .int ox.2.2.2.2.2.2.2.2.2.2.2.2.2.2.2.2.2.2.2.2.2.2.2.2.2.2.2.2.2.2.2.2.1])), ((u4 23), .inl (c9 0, 18, .inl ox.2.2.2.2.2.2.2.2.2.2.2.2.2.2.2.2.2.2.2.2.2.2.2.2.2.2.2.2.2.2.2.2.2.1)), ((u4 24), .inr (6, [.int 24, .int 10, .ref (u4 25), .int ox.2.2.2.2.2.2.2.2.2.2.2.2.2.2.2.2.2.2.2.2.2.2.2.2.2.2.2.2.2.2.2.2.2.2.1])), ((u4 25), .inl (c9 0, 240, .inl ox.2.2.2.2.2.2.2.2.2.2.2.2.2.2.2.2.2.2.2.2.2.2.2.2.2.2.2.2.2.2.2.2.2.2.2.1)), ((u4 26), .inr (8, [.int 30, .int 4, .ref (u4 27), .int ox.2.2.2.2.2.2.2.2.2.2.2.2.2.2.2.2.2.2.2.2.2.2.2.2.2.2.2.2.2.2.2.2.2.2.2.2.1])), ((u4 27), .inl (c9 0, 120, .inl ox.2.2.2.2.2.2.2.2.2.2.2.2.2.2.2.2.2.2.2.2.2.2.2.2.2.2.2.2.2.2.2.2.2.2.2.2.2)), ((u4 28), .inr (4, [.ref (u4 29)])), ((u4 29), .inl (c9 3, 2, .inr (.inr (.inr (.inr (rowsO (fun _ => none) (fun _ _ => 0))))))), ((u4 30), .inr (4, [.ref (u4 31)])), ((u4 31), .inl (c9 3, 8, .inr (.inr (.inr (.inr (rowsO (fun _ => none) (fun _ _ => 0))))))), ((u80 0), .inr (11, [.ref (u80 1), .ref (u80 2), .ref (u80 3), .ref (u80 4), .ref (u80 5), .ref (u80 6), .int 0, .int 0, .int 0, .ref (u80 7), .ref (u80 8), .int 0, .int om.1, .int om.2.1, .int om.2.2.1, .int om.2.2.2.1, .int om.2.2.2.2.1, .int om.2.2.2.2.2.1, .int om.2.2.2.2.2.2.1, .ref (u80 9), .ref (u80 10), .int 0])), ((u80 1), .inl (c9 0, 463, .inl om.2.2.2.2.2.2.2.1)), ((u80 2), .inl (c9 0, 463, .inl om.2.2.2.2.2.2.2.2.1)), ((u80 3), .inl (c9 0, 463, .inl (fun _ => 0))), ((u80 4), .inl (c9 0, 3704, .inl (fun _ => 0))), ((u80 5), .inl (c9 0, 926, .inl (fun _ => 0))), ((u80 6), .inl (c9 1, 2, .inl (fun _ => 0))), ((u80 7), .inl (c9 0, 5, .inl (fun _ => 0))), ((u80 8), .inl (c9 0, 600, .inl om.2.2.2.2.2.2.2.2.2)), ((u80 9), .inl (c9 0, 25, .inl (fun _ => 0))), ((u80 10), .inl (c9 2, 60, .inl (fun _ => 0)))]) (c_X12_init l hG D c9 sk sv hGU q67 hm1) 0 (wg_sub _ wen_40 _) rfl rfl rfl (mw wen_38) (mw wen_39) (mw wen_41) rfl pd_X12_init ⟨Nat.le_of_ble_eq_true rfl, Nat.le_of_ble_eq_true rfl⟩ rfl rfl (Nat.le_of_ble_eq_true rfl) ⟨(by first | exact Nat.le_of_ble_eq_true rfl | exact Nat.le_of_eq (Nat.zero_add _) | omega), (by first | exact Nat.le_of_ble_eq_true rfl | exact Nat.le_of_eq (Nat.zero_add _) | omega)⟩ [32] [0, 1, 2, 3, 4, 5, 6, 7, 8, 9, 10, 11, 12, 13, 14, 15, 16, 17, 18, 19, 20, 21, 22, 23, 24, 25, 26, 27, 28, 29, 30, 31] [0, 1, 2, 3, 4, 5, 6, 7, 8, 9, 10, 11, 12, 13, 14, 15, 16, 17, 18, 19, 20, 21, 22, 23, 24, 25, 26, 27, 28, 29, 30, 31, 32, 33, 34, 35, 36, 37, 38, 39, 40, 41, 42] rfl rfl (fun _ => rfl) rfl dL_law_12 15 rfl (fun u80 hpu80 => ?_)
  subst hpu80
  refine v_eq (ws2 := [((u4 0), .inr (10, [.ref (u4 1), .ref (u4 3), .ref (u4 5), .ref (u4 17), .ref (u4 28), .ref (u4 30), .int 0, .int 0])), ((u4 1), .inr (0, [.ref (u4 2), .int ox.1])), ((u4 2), .inl (c9 0, 600, .inl ox.2.1)), ((u4 3), .inr (0, [.ref (u4 4), .int 0])), ((u4 4), .inl (c9 0, 64, .inl (fun _ => 0))), ((u4 5), .inr (1, [.ref (u4 1), .ref (u4 6), .int ox.2.2.1, .int ox.2.2.2.1, .int ox.2.2.2.2.1, .int ox.2.2.2.2.2.1, .int ox.2.2.2.2.2.2.1, .int ox.2.2.2.2.2.2.2.1])), ((u4 6), .inr (5, [.ref (u4 7), .ref (u4 9), .ref (u4 11), .ref (u4 13), .ref (u4 15), .int ox.2.2.2.2.2.2.2.2.1, .int ox.2.2.2.2.2.2.2.2.2.1, .int ox.2.2.2.2.2.2.2.2.2.2.1, .int ox.2.2.2.2.2.2.2.2.2.2.2.1, .int ox.2.2.2.2.2.2.2.2.2.2.2.2.1])), ((u4 7), .inr (2, [.int 5, .int 5, .ref (u4 8), .int ox.2.2.2.2.2.2.2.2.2.2.2.2.2.1])), ((u4 8), .inl (c9 0, 25, .inl ox.2.2.2.2.2.2.2.2.2.2.2.2.2.2.1)), ((u4 9), .inr (7, [.int 6, .int 5, .ref (u4 10), .int ox.2.2.2.2.2.2.2.2.2.2.2.2.2.2.2.1])), ((u4 10), .inl (c9 0, 30, .inl ox.2.2.2.2.2.2.2.2.2.2.2.2.2.2.2.2.1)), ((u4 11), .inr (3, [.int 6, .int 3, .ref (u4 12), .int ox.2.2.2.2.2.2.2.2.2.2.2.2.2.2.2.2.2.1])), ((u4 12), .inl (c9 0, 18, .inl ox.2.2.2.2.2.2.2.2.2.2.2.2.2.2.2.2.2.2.1)), ((u4 13), .inr (6, [.int 24, .int 10, .ref (u4 14), .int ox.2.2.2.2.2.2.2.2.2.2.2.2.2.2.2.2.2.2.2.1])), ((u4 14), .inl (c9 0, 240, .inl ox.2.2.2.2.2.2.2.2.2.2.2.2.2.2.2.2.2.2.2.2.1)), ((u4 15), .inr (8, [.int 30, .int 4, .ref (u4 16), .int ox.2.2.2.2.2.2.2.2.2.2.2.2.2.2.2.2.2.2.2.2.2.1])), ((u4 16), .inl (c9 0, 120, .inl ox.2.2.2.2.2.2.2.2.2.2.2.2.2.2.2.2.2.2.2.2.2.2.1)), ((u4 17), .inr (5, [.ref (u4 18), .ref (u4 20), .ref (u4 22), .ref (u4 24), .ref (u4 26), .int ox.2.2.2.2.2.2.2.2.2.2.2.2.2.2.2.2.2.2.2.2.2.2.2.1, .int ox.2.2.2.2.2.2.2.2.2.2.2.2.2.2.2.2.2.2.2.2.2.2.2.2.1, .int ox.2.2.2.2.2.2.2.2.2.2.2.2.2.2.2.2.2.2.2.2.2.2.2.2.2.1, .int ox.2.2.2.2.2.2.2.2.2.2.2.2.2.2.2.2.2.2.2.2.2.2.2.2.2.2.1, .int ox.2.2.2.2.2.2.2.2.2.2.2.2.2.2.2.2.2.2.2.2.2.2.2.2.2.2.2.1])), ((u4 18), .inr (2, [.int 5, .int 5, .ref (u4 19), .int ox.2.2.2.2.2.2.2.2.2.2.2.2.2.2.2.2.2.2.2.2.2.2.2.2.2.2.2.2.1])), ((u4 19), .inl (c9 0, 25, .inl ox.2.2.2.2.2.2.2.2.2.2.2.2.2.2.2.2.2.2.2.2.2.2.2.2.2.2.2.2.2.1)), ((u4 20), .inr (7, [.int 6, .int 5, .ref (u4 21), .int ox.2.2.2.2.2.2.2.2.2.2.2.2.2.2.2.2.2.2.2.2.2.2.2.2.2.2.2.2.2.2.1])), ((u4 21), .inl (c9 0, 30, .inl ox.2.2.2.2.2.2.2.2.2.2.2.2.2.2.2.2.2.2.2.2.2.2.2.2.2.2.2.2.2.2.2.1)), ((u4 22), .inr (3, [.int 6, .int 3, .ref (u4 23), .int ox.2.2.2.2.2.2.2.2.2.2.2.2.2.2.2.2.2.2.2.2.2.2.2.2.2.2.2.2.2.2.2.2.1])), ((u4 23), .inl (c9 0, 18, .inl ox.2.2.2.2.2.2.2.2.2.2.2.2.2.2.2.2.2.2.2.2.2.2.2.2.2.2.2.2.2.2.2.2.2.1)), ((u4 24), .inr (6, [.int 24, .int 10, .ref (u4 25), .int ox.2.2.2.2.2.2.2.2.2.2.2.2.2.2.2.2.2.2.2.2.2.2.2.2.2.2.2.2.2.2.2.2.2.2.1])), ((u4 25), .inl (c9 0, 240, .inl ox.2.2.2.2.2.2.2.2.2.2.2.2.2.2.2.2.2.2.2.2.2.2.2.2.2.2.2.2.2.2.2.2.2.2.2.1)), ((u4 26), .inr (8, [.int 30, .int 4, .ref (u4 27), .int ox.2.2.2.2.2.2.2.2.2.2.2.2.2.2.2.2.2.2.2.2.2.2.2.2.2.2.2.2.2.2.2.2.2.2.2.2.1])), ((u4 27), .inl (c9 0, 120, .inl ox.2.2.2.2.2.2.2.2.2.2.2.2.2.2.2.2.2.2.2.2.2.2.2.2.2.2.2.2.2.2.2.2.2.2.2.2.2)), ((u4 28), .inr (4, [.ref (u4 29)])), ((u4 29), .inl (c9 3, 2, .inr (.inr (.inr (.inr (rowsO (fun _ => none) (fun _ _ => 0))))))), ((u4 30), .inr (4, [.ref (u4 31)])), ((u4 31), .inl (c9 3, 8, .inr (.inr (.inr (.inr (rowsO (fun _ => none) (fun _ _ => 0))))))), ((u80 0), .inr (11, [.ref (u80 1), .ref (u80 2), .ref (u80 3), .ref (u80 4), .ref (u80 5), .ref (u80 6), .int 0, .int 0, .int 0, .ref (u80 7), .ref (u80 8), .int 0, .int om.1, .int om.2.1, .int om.2.2.1, .int om.2.2.2.1, .int om.2.2.2.2.1, .int om.2.2.2.2.2.1, .int om.2.2.2.2.2.2.1, .ref (u80 9), .ref (u80 10), .int 0])), ((u80 1), .inl (c9 0, 463, .inl om.2.2.2.2.2.2.2.1)), ((u80 2), .inl (c9 0, 463, .inl om.2.2.2.2.2.2.2.2.1)), ((u80 3), .inl (c9 0, 463, .inl (fun _ => 0))), ((u80 4), .inl (c9 0, 3704, .inl (fun _ => 0))), ((u80 5), .inl (c9 0, 926, .inl (fun _ => 0))), ((u80 6), .inl (c9 1, 2, .inl (fun _ => 0))), ((u80 7), .inl (c9 0, 5, .inl (fun _ => 0))), ((u80 8), .inl (c9 0, 600, .inl om.2.2.2.2.2.2.2.2.2)), ((u80 9), .inl (c9 0, 25, .inl (fun _ => 0))), ((u80 10), .inl (c9 2, 60, .inl (fun _ => 0)))]) rfl rfl rfl rfl ?_
  refine v_astore_n X (lv' := [(2, .ref (u80 0)), (1, .ref (u4 0)), (0, .ref b)]) dL_law_15 rfl (by decide) rfl 16 rfl ?_
  refine v_eq (ws2 := wX11 u4 c9 0 0 ox.1 ox.2.1 0 (fun _ => 0) ox.2.2.1 ox.2.2.2.1 ox.2.2.2.2.1 ox.2.2.2.2.2.1 ox.2.2.2.2.2.2.1 ox.2.2.2.2.2.2.2.1 ox.2.2.2.2.2.2.2.2.1 ox.2.2.2.2.2.2.2.2.2.1 ox.2.2.2.2.2.2.2.2.2.2.1 ox.2.2.2.2.2.2.2.2.2.2.2.1 ox.2.2.2.2.2.2.2.2.2.2.2.2.1 ox.2.2.2.2.2.2.2.2.2.2.2.2.2.1 ox.2.2.2.2.2.2.2.2.2.2.2.2.2.2.1 ox.2.2.2.2.2.2.2.2.2.2.2.2.2.2.2.1 ox.2.2.2.2.2.2.2.2.2.2.2.2.2.2.2.2.1 ox.2.2.2.2.2.2.2.2.2.2.2.2.2.2.2.2.2.1 ox.2.2.2.2.2.2.2.2.2.2.2.2.2.2.2.2.2.2.1 ox.2.2.2.2.2.2.2.2.2.2.2.2.2.2.2.2.2.2.2.1 ox.2.2.2.2.2.2.2.2.2.2.2.2.2.2.2.2.2.2.2.2.1 ox.2.2.2.2.2.2.2.2.2.2.2.2.2.2.2.2.2.2.2.2.2.1 ox.2.2.2.2.2.2.2.2.2.2.2.2.2.2.2.2.2.2.2.2.2.2.1 ox.2.2.2.2.2.2.2.2.2.2.2.2.2.2.2.2.2.2.2.2.2.2.2.1 ox.2.2.2.2.2.2.2.2.2.2.2.2.2.2.2.2.2.2.2.2.2.2.2.2.1 ox.2.2.2.2.2.2.2.2.2.2.2.2.2.2.2.2.2.2.2.2.2.2.2.2.2.1 ox.2.2.2.2.2.2.2.2.2.2.2.2.2.2.2.2.2.2.2.2.2.2.2.2.2.2.1 ox.2.2.2.2.2.2.2.2.2.2.2.2.2.2.2.2.2.2.2.2.2.2.2.2.2.2.2.1 ox.2.2.2.2.2.2.2.2.2.2.2.2.2.2.2.2.2.2.2.2.2.2.2.2.2.2.2.2.1 ox.2.2.2.2.2.2.2.2.2.2.2.2.2.2.2.2.2.2.2.2.2.2.2.2.2.2.2.2.2.1 ox.2.2.2.2.2.2.2.2.2.2.2.2.2.2.2.2.2.2.2.2.2.2.2.2.2.2.2.2.2.2.1 ox.2.2.2.2.2.2.2.2.2.2.2.2.2.2.2.2.2.2.2.2.2.2.2.2.2.2.2.2.2.2.2.1 ox.2.2.2.2.2.2.2.2.2.2.2.2.2.2.2.2.2.2.2.2.2.2.2.2.2.2.2.2.2.2.2.2.1 ox.2.2.2.2.2.2.2.2.2.2.2.2.2.2.2.2.2.2.2.2.2.2.2.2.2.2.2.2.2.2.2.2.2.1 ox.2.2.2.2.2.2.2.2.2.2.2.2.2.2.2.2.2.2.2.2.2.2.2.2.2.2.2.2.2.2.2.2.2.2.1 ox.2.2.2.2.2.2.2.2.2.2.2.2.2.2.2.2.2.2.2.2.2.2.2.2.2.2.2.2.2.2.2.2.2.2.2.1 ox.2.2.2.2.2.2.2.2.2.2.2.2.2.2.2.2.2.2.2.2.2.2.2.2.2.2.2.2.2.2.2.2.2.2.2.2.1 ox.2.2.2.2.2.2.2.2.2.2.2.2.2.2.2.2.2.2.2.2.2.2.2.2.2.2.2.2.2.2.2.2.2.2.2.2.2 (fun _ => none) (fun _ _ => 0) (fun _ => none) (fun _ _ => 0) ++ wX12 u80 c9 0 0 0 0 om.1 om.2.1 om.2.2.1 om.2.2.2.1 om.2.2.2.2.1 om.2.2.2.2.2.1 om.2.2.2.2.2.2.1 0 om.2.2.2.2.2.2.2.1 om.2.2.2.2.2.2.2.2.1 (fun _ => 0) (fun _ => 0) (fun _ => 0) (fun _ => 0) (fun _ => 0) om.2.2.2.2.2.2.2.2.2 (fun _ => 0) (fun _ => 0)) rfl rfl rfl rfl ?_
  refine v_iconst X dL_law_16 ic_1 17 rfl ?_
  refine v_newa X (ty := .long) (a0 := (1, .inr (.inl (fun _ => 0)))) dL_law_17 (mw wen_45) rfl 4 rfl (fun _ _ h1 h2 => Option.some.inj (h1.symm.trans h2)) (fun _ => rfl) (by decide) (by decide) (by decide) (by first | exact Nat.le_of_ble_eq_true rfl | omega) (by first | exact Nat.le_of_ble_eq_true rfl | omega) 19 rfl (fun ao => ?_)
  refine v_astore_n X (lv' := [(3, .ref ao), (2, .ref (u80 0)), (1, .ref (u4 0)), (0, .ref b)]) dL_law_19 rfl (by decide) rfl 20 rfl ?_
  refine v_iconst X dL_law_20 ic_0 21 rfl ?_
  refine v_istore X (lv' := [(4, .int 0), (3, .ref ao), (2, .ref (u80 0)), (1, .ref (u4 0)), (0, .ref b)]) dL_law_21 (by decide) rfl 23 rfl ?_
  refine v_sub (lv' := [(0, .ref b), (1, .ref (u4 0)), (2, .ref (u80 0)), (3, .ref ao), (4, .int (nlaw 0))]) [4, 3, 2, 1, 0] rfl ?_
  refine v_perm (ws' := wX11 u4 c9 0 0 ox.1 ox.2.1 0 (fun _ => 0) ox.2.2.1 ox.2.2.2.1 ox.2.2.2.2.1 ox.2.2.2.2.2.1 ox.2.2.2.2.2.2.1 ox.2.2.2.2.2.2.2.1 ox.2.2.2.2.2.2.2.2.1 ox.2.2.2.2.2.2.2.2.2.1 ox.2.2.2.2.2.2.2.2.2.2.1 ox.2.2.2.2.2.2.2.2.2.2.2.1 ox.2.2.2.2.2.2.2.2.2.2.2.2.1 ox.2.2.2.2.2.2.2.2.2.2.2.2.2.1 ox.2.2.2.2.2.2.2.2.2.2.2.2.2.2.1 ox.2.2.2.2.2.2.2.2.2.2.2.2.2.2.2.1 ox.2.2.2.2.2.2.2.2.2.2.2.2.2.2.2.2.1 ox.2.2.2.2.2.2.2.2.2.2.2.2.2.2.2.2.2.1 ox.2.2.2.2.2.2.2.2.2.2.2.2.2.2.2.2.2.2.1 ox.2.2.2.2.2.2.2.2.2.2.2.2.2.2.2.2.2.2.2.1 ox.2.2.2.2.2.2.2.2.2.2.2.2.2.2.2.2.2.2.2.2.1 ox.2.2.2.2.2.2.2.2.2.2.2.2.2.2.2.2.2.2.2.2.2.1 ox.2.2.2.2.2.2.2.2.2.2.2.2.2.2.2.2.2.2.2.2.2.2.1 ox.2.2.2.2.2.2.2.2.2.2.2.2.2.2.2.2.2.2.2.2.2.2.2.1 ox.2.2.2.2.2.2.2.2.2.2.2.2.2.2.2.2.2.2.2.2.2.2.2.2.1 ox.2.2.2.2.2.2.2.2.2.2.2.2.2.2.2.2.2.2.2.2.2.2.2.2.2.1 ox.2.2.2.2.2.2.2.2.2.2.2.2.2.2.2.2.2.2.2.2.2.2.2.2.2.2.1 ox.2.2.2.2.2.2.2.2.2.2.2.2.2.2.2.2.2.2.2.2.2.2.2.2.2.2.2.1 ox.2.2.2.2.2.2.2.2.2.2.2.2.2.2.2.2.2.2.2.2.2.2.2.2.2.2.2.2.1 ox.2.2.2.2.2.2.2.2.2.2.2.2.2.2.2.2.2.2.2.2.2.2.2.2.2.2.2.2.2.1 ox.2.2.2.2.2.2.2.2.2.2.2.2.2.2.2.2.2.2.2.2.2.2.2.2.2.2.2.2.2.2.1 ox.2.2.2.2.2.2.2.2.2.2.2.2.2.2.2.2.2.2.2.2.2.2.2.2.2.2.2.2.2.2.2.1 ox.2.2.2.2.2.2.2.2.2.2.2.2.2.2.2.2.2.2.2.2.2.2.2.2.2.2.2.2.2.2.2.2.1 ox.2.2.2.2.2.2.2.2.2.2.2.2.2.2.2.2.2.2.2.2.2.2.2.2.2.2.2.2.2.2.2.2.2.1 ox.2.2.2.2.2.2.2.2.2.2.2.2.2.2.2.2.2.2.2.2.2.2.2.2.2.2.2.2.2.2.2.2.2.2.1 ox.2.2.2.2.2.2.2.2.2.2.2.2.2.2.2.2.2.2.2.2.2.2.2.2.2.2.2.2.2.2.2.2.2.2.2.1 ox.2.2.2.2.2.2.2.2.2.2.2.2.2.2.2.2.2.2.2.2.2.2.2.2.2.2.2.2.2.2.2.2.2.2.2.2.1 ox.2.2.2.2.2.2.2.2.2.2.2.2.2.2.2.2.2.2.2.2.2.2.2.2.2.2.2.2.2.2.2.2.2.2.2.2.2 (fun _ => none) (fun _ _ => 0) (fun _ => none) (fun _ _ => 0)) (F' := wLF c9 (fun _ => none) (fun _ _ => 0) (fun _ => none) (fun _ _ => 0) ao (fun _ => 0) (wX12 u80 c9 0 0 0 0 om.1 om.2.1 om.2.2.1 om.2.2.2.1 om.2.2.2.2.1 om.2.2.2.2.2.1 om.2.2.2.2.2.2.1 0 om.2.2.2.2.2.2.2.1 om.2.2.2.2.2.2.2.2.1 (fun _ => 0) (fun _ => 0) (fun _ => 0) (fun _ => 0) (fun _ => 0) om.2.2.2.2.2.2.2.2.2 (fun _ => 0) (fun _ => 0))) ?_ ?_
  · show (((wX11 u4 c9 0 0 ox.1 ox.2.1 0 (fun _ => 0) ox.2.2.1 ox.2.2.2.1 ox.2.2.2.2.1 ox.2.2.2.2.2.1 ox.2.2.2.2.2.2.1 ox.2.2.2.2.2.2.2.1 ox.2.2.2.2.2.2.2.2.1 ox.2.2.2.2.2.2.2.2.2.1 ox.2.2.2.2.2.2.2.2.2.2.1 ox.2.2.2.2.2.2.2.2.2.2.2.1 ox.2.2.2.2.2.2.2.2.2.2.2.2.1 ox.2.2.2.2.2.2.2.2.2.2.2.2.2.1 ox.2.2.2.2.2.2.2.2.2.2.2.2.2.2.1 ox.2.2.2.2.2.2.2.2.2.2.2.2.2.2.2.1 ox.2.2.2.2.2.2.2.2.2.2.2.2.2.2.2.2.1 ox.2.2.2.2.2.2.2.2.2.2.2.2.2.2.2.2.2.1 ox.2.2.2.2.2.2.2.2.2.2.2.2.2.2.2.2.2.2.1 ox.2.2.2.2.2.2.2.2.2.2.2.2.2.2.2.2.2.2.2.1 ox.2.2.2.2.2.2.2.2.2.2.2.2.2.2.2.2.2.2.2.2.1 ox.2.2.2.2.2.2.2.2.2.2.2.2.2.2.2.2.2.2.2.2.2.1 ox.2.2.2.2.2.2.2.2.2.2.2.2.2.2.2.2.2.2.2.2.2.2.1 ox.2.2.2.2.2.2.2.2.2.2.2.2.2.2.2.2.2.2.2.2.2.2.2.1 ox.2.2.2.2.2.2.2.2.2.2.2.2.2.2.2.2.2.2.2.2.2.2.2.2.1 ox.2.2.2.2.2.2.2.2.2.2.2.2.2.2.2.2.2.2.2.2.2.2.2.2.2.1 ox.2.2.2.2.2.2.2.2.2.2.2.2.2.2.2.2.2.2.2.2.2.2.2.2.2.2.1 ox.2.2.2.2.2.2.2.2.2.2.2.2.2.2.2.2.2.2.2.2.2.2.2.2.2.2.2.1 ox.2.2.2.2.2.2.2.2.2.2.2.2.2.2.2.2.2.2.2.2.2.2.2.2.2.2.2.2.1 ox.2.2.2.2.2.2.2.2.2.2.2.2.2.2.2.2.2.2.2.2.2.2.2.2.2.2.2.2.2.1 ox.2.2.2.2.2.2.2.2.2.2.2.2.2.2.2.2.2.2.2.2.2.2.2.2.2.2.2.2.2.2.1 ox.2.2.2.2.2.2.2.2.2.2.2.2.2.2.2.2.2.2.2.2.2.2.2.2.2.2.2.2.2.2.2.1 ox.2.2.2.2.2.2.2.2.2.2.2.2.2.2.2.2.2.2.2.2.2.2.2.2.2.2.2.2.2.2.2.2.1 ox.2.2.2.2.2.2.2.2.2.2.2.2.2.2.2.2.2.2.2.2.2.2.2.2.2.2.2.2.2.2.2.2.2.1 ox.2.2.2.2.2.2.2.2.2.2.2.2.2.2.2.2.2.2.2.2.2.2.2.2.2.2.2.2.2.2.2.2.2.2.1 ox.2.2.2.2.2.2.2.2.2.2.2.2.2.2.2.2.2.2.2.2.2.2.2.2.2.2.2.2.2.2.2.2.2.2.2.1 ox.2.2.2.2.2.2.2.2.2.2.2.2.2.2.2.2.2.2.2.2.2.2.2.2.2.2.2.2.2.2.2.2.2.2.2.2.1 ox.2.2.2.2.2.2.2.2.2.2.2.2.2.2.2.2.2.2.2.2.2.2.2.2.2.2.2.2.2.2.2.2.2.2.2.2.2 (fun _ => none) (fun _ _ => 0) (fun _ => none) (fun _ _ => 0)) ++ (wX12 u80 c9 0 0 0 0 om.1 om.2.1 om.2.2.1 om.2.2.2.1 om.2.2.2.2.1 om.2.2.2.2.2.1 om.2.2.2.2.2.2.1 0 om.2.2.2.2.2.2.2.1 om.2.2.2.2.2.2.2.2.1 (fun _ => 0) (fun _ => 0) (fun _ => 0) (fun _ => 0) (fun _ => 0) om.2.2.2.2.2.2.2.2.2 (fun _ => 0) (fun _ => 0))) ++ [wout c9 ao (fun _ => 0)] ++ []).Perm ((wX11 u4 c9 0 0 ox.1 ox.2.1 0 (fun _ => 0) ox.2.2.1 ox.2.2.2.1 ox.2.2.2.2.1 ox.2.2.2.2.2.1 ox.2.2.2.2.2.2.1 ox.2.2.2.2.2.2.2.1 ox.2.2.2.2.2.2.2.2.1 ox.2.2.2.2.2.2.2.2.2.1 ox.2.2.2.2.2.2.2.2.2.2.1 ox.2.2.2.2.2.2.2.2.2.2.2.1 ox.2.2.2.2.2.2.2.2.2.2.2.2.1 ox.2.2.2.2.2.2.2.2.2.2.2.2.2.1 ox.2.2.2.2.2.2.2.2.2.2.2.2.2.2.1 ox.2.2.2.2.2.2.2.2.2.2.2.2.2.2.2.1 ox.2.2.2.2.2.2.2.2.2.2.2.2.2.2.2.2.1 ox.2.2.2.2.2.2.2.2.2.2.2.2.2.2.2.2.2.1 ox.2.2.2.2.2.2.2.2.2.2.2.2.2.2.2.2.2.2.1 ox.2.2.2.2.2.2.2.2.2.2.2.2.2.2.2.2.2.2.2.1 ox.2.2.2.2.2.2.2.2.2.2.2.2.2.2.2.2.2.2.2.2.1 ox.2.2.2.2.2.2.2.2.2.2.2.2.2.2.2.2.2.2.2.2.2.1 ox.2.2.2.2.2.2.2.2.2.2.2.2.2.2.2.2.2.2.2.2.2.2.1 ox.2.2.2.2.2.2.2.2.2.2.2.2.2.2.2.2.2.2.2.2.2.2.2.1 ox.2.2.2.2.2.2.2.2.2.2.2.2.2.2.2.2.2.2.2.2.2.2.2.2.1 ox.2.2.2.2.2.2.2.2.2.2.2.2.2.2.2.2.2.2.2.2.2.2.2.2.2.1 ox.2.2.2.2.2.2.2.2.2.2.2.2.2.2.2.2.2.2.2.2.2.2.2.2.2.2.1 ox.2.2.2.2.2.2.2.2.2.2.2.2.2.2.2.2.2.2.2.2.2.2.2.2.2.2.2.1 ox.2.2.2.2.2.2.2.2.2.2.2.2.2.2.2.2.2.2.2.2.2.2.2.2.2.2.2.2.1 ox.2.2.2.2.2.2.2.2.2.2.2.2.2.2.2.2.2.2.2.2.2.2.2.2.2.2.2.2.2.1 ox.2.2.2.2.2.2.2.2.2.2.2.2.2.2.2.2.2.2.2.2.2.2.2.2.2.2.2.2.2.2.1 ox.2.2.2.2.2.2.2.2.2.2.2.2.2.2.2.2.2.2.2.2.2.2.2.2.2.2.2.2.2.2.2.1 ox.2.2.2.2.2.2.2.2.2.2.2.2.2.2.2.2.2.2.2.2.2.2.2.2.2.2.2.2.2.2.2.2.1 ox.2.2.2.2.2.2.2.2.2.2.2.2.2.2.2.2.2.2.2.2.2.2.2.2.2.2.2.2.2.2.2.2.2.1 ox.2.2.2.2.2.2.2.2.2.2.2.2.2.2.2.2.2.2.2.2.2.2.2.2.2.2.2.2.2.2.2.2.2.2.1 ox.2.2.2.2.2.2.2.2.2.2.2.2.2.2.2.2.2.2.2.2.2.2.2.2.2.2.2.2.2.2.2.2.2.2.2.1 ox.2.2.2.2.2.2.2.2.2.2.2.2.2.2.2.2.2.2.2.2.2.2.2.2.2.2.2.2.2.2.2.2.2.2.2.2.1 ox.2.2.2.2.2.2.2.2.2.2.2.2.2.2.2.2.2.2.2.2.2.2.2.2.2.2.2.2.2.2.2.2.2.2.2.2.2 (fun _ => none) (fun _ _ => 0) (fun _ => none) (fun _ _ => 0)) ++ ([] ++ ([] ++ (wout c9 ao (fun _ => 0) :: (wX12 u80 c9 0 0 0 0 om.1 om.2.1 om.2.2.1 om.2.2.2.1 om.2.2.2.2.1 om.2.2.2.2.2.1 om.2.2.2.2.2.2.1 0 om.2.2.2.2.2.2.2.1 om.2.2.2.2.2.2.2.2.1 (fun _ => 0) (fun _ => 0) (fun _ => 0) (fun _ => 0) (fun _ => 0) om.2.2.2.2.2.2.2.2.2 (fun _ => 0) (fun _ => 0))))))
    rw [List.append_nil, List.append_assoc, List.nil_append, List.nil_append]
    exact List.Perm.append_left _ (List.perm_append_comm (l₂ := [wout c9 ao (fun _ => 0)]))
  exact w_loop l hG hl0 hNC D c9 sk sv hGU u4 u80 ao b L xs X hX hbl hbA REL H hL KX 512 0 (by omega) (by omega) 0 0 ox.1 ox.2.1 0 (fun _ => 0) ox.2.2.1 ox.2.2.2.1 ox.2.2.2.2.1 ox.2.2.2.2.2.1 ox.2.2.2.2.2.2.1 ox.2.2.2.2.2.2.2.1 ox.2.2.2.2.2.2.2.2.1 ox.2.2.2.2.2.2.2.2.2.1 ox.2.2.2.2.2.2.2.2.2.2.1 ox.2.2.2.2.2.2.2.2.2.2.2.1 ox.2.2.2.2.2.2.2.2.2.2.2.2.1 ox.2.2.2.2.2.2.2.2.2.2.2.2.2.1 ox.2.2.2.2.2.2.2.2.2.2.2.2.2.2.1 ox.2.2.2.2.2.2.2.2.2.2.2.2.2.2.2.1 ox.2.2.2.2.2.2.2.2.2.2.2.2.2.2.2.2.1 ox.2.2.2.2.2.2.2.2.2.2.2.2.2.2.2.2.2.1 ox.2.2.2.2.2.2.2.2.2.2.2.2.2.2.2.2.2.2.1 ox.2.2.2.2.2.2.2.2.2.2.2.2.2.2.2.2.2.2.2.1 ox.2.2.2.2.2.2.2.2.2.2.2.2.2.2.2.2.2.2.2.2.1 ox.2.2.2.2.2.2.2.2.2.2.2.2.2.2.2.2.2.2.2.2.2.1 ox.2.2.2.2.2.2.2.2.2.2.2.2.2.2.2.2.2.2.2.2.2.2.1 ox.2.2.2.2.2.2.2.2.2.2.2.2.2.2.2.2.2.2.2.2.2.2.2.1 ox.2.2.2.2.2.2.2.2.2.2.2.2.2.2.2.2.2.2.2.2.2.2.2.2.1 ox.2.2.2.2.2.2.2.2.2.2.2.2.2.2.2.2.2.2.2.2.2.2.2.2.2.1 ox.2.2.2.2.2.2.2.2.2.2.2.2.2.2.2.2.2.2.2.2.2.2.2.2.2.2.1 ox.2.2.2.2.2.2.2.2.2.2.2.2.2.2.2.2.2.2.2.2.2.2.2.2.2.2.2.1 ox.2.2.2.2.2.2.2.2.2.2.2.2.2.2.2.2.2.2.2.2.2.2.2.2.2.2.2.2.1 ox.2.2.2.2.2.2.2.2.2.2.2.2.2.2.2.2.2.2.2.2.2.2.2.2.2.2.2.2.2.1 ox.2.2.2.2.2.2.2.2.2.2.2.2.2.2.2.2.2.2.2.2.2.2.2.2.2.2.2.2.2.2.1 ox.2.2.2.2.2.2.2.2.2.2.2.2.2.2.2.2.2.2.2.2.2.2.2.2.2.2.2.2.2.2.2.1 ox.2.2.2.2.2.2.2.2.2.2.2.2.2.2.2.2.2.2.2.2.2.2.2.2.2.2.2.2.2.2.2.2.1 ox.2.2.2.2.2.2.2.2.2.2.2.2.2.2.2.2.2.2.2.2.2.2.2.2.2.2.2.2.2.2.2.2.2.1 ox.2.2.2.2.2.2.2.2.2.2.2.2.2.2.2.2.2.2.2.2.2.2.2.2.2.2.2.2.2.2.2.2.2.2.1 ox.2.2.2.2.2.2.2.2.2.2.2.2.2.2.2.2.2.2.2.2.2.2.2.2.2.2.2.2.2.2.2.2.2.2.2.1 ox.2.2.2.2.2.2.2.2.2.2.2.2.2.2.2.2.2.2.2.2.2.2.2.2.2.2.2.2.2.2.2.2.2.2.2.2.1 ox.2.2.2.2.2.2.2.2.2.2.2.2.2.2.2.2.2.2.2.2.2.2.2.2.2.2.2.2.2.2.2.2.2.2.2.2.2 (fun _ => none) (fun _ => none) 0 0 0 0 om.1 om.2.1 om.2.2.1 om.2.2.2.1 om.2.2.2.2.1 om.2.2.2.2.2.1 om.2.2.2.2.2.2.1 0 om.2.2.2.2.2.2.2.1 om.2.2.2.2.2.2.2.2.1 (fun _ => 0) (fun _ => 0) (fun _ => 0) (fun _ => 0) (fun _ => 0) om.2.2.2.2.2.2.2.2.2 (fun _ => 0) (fun _ => 0) hR (fun _ _ => 0) (fun _ _ => 0) (fun _ => 0) _ _ (by decide) (by decide)
set_option maxHeartbeats 4000000 in
theorem law_starts {p : Program} {e : Env} {s : State} {m : MethodId} {below : List Frame} {meth : Method} {c : Code} (REL : Nat → FX → FM → Prop) (HA : ∀ t : Nat, HALL (REL (t + 1)) (REL t)) (HI : HINIT (REL 512)) (l : Launch) (hflags : l.flags = flags0) {b L : Nat} {xs : Nat → Int32} (hL : L ≤ 3072) (C0 : lw_At p s m meth c b L xs) : W p l e room_1 s m #[Value.ref b] below meth c s.heap [] 0 0 (lw_Z below #[Value.ref b] s) (entryFrame m ([Value.ref b] : List Value).toArray 9) := by
  obtain ⟨hx, hb, hr, hml, hown, hts, hX, hbl, hlocks, hgv⟩ := C0
  have hs : ∀ c ∈ FLS, c.before #[Value.ref b] s = true := flat_of_before _ hgv
  have hA1 : ∀ a : Nat, a < s.heap.size → ¬ (fun q : Nat => s.heap.size ≤ q) a := fun a h => Nat.not_le.mpr h
  obtain ⟨sk, sv, hG1⟩ := st_GW (A := fun q : Nat => s.heap.size ≤ q) hs hts hA1
  have hW1 : ∀ w ∈ Cond.tt :: Wg, w.before #[Value.ref b] s = true := fun w hw => by
    rcases List.mem_cons.mp hw with rfl | hw
    · rfl
    · exact hts w (wg_in hw)
  obtain ⟨D, hD1⟩ := st_cls hW1
  obtain ⟨c9, hc9⟩ := st_arr hW1 hG1.2.2.1
  have hl0 : l.stackTraces = false := by
    unfold Launch.stackTraces
    rw [hflags]
    decide +kernel
  have X : vX p s m #[Value.ref b] meth c cL_law 9 (some .boolean) RL (Cond.tt :: Wg) D (tyA c9) (GW sk sv) (fun q : Nat => s.heap.size ≤ q) := ⟨hx, hb, hr, hml, hown, hW1, hlocks, ⟨hD1, hc9⟩, fun q h => h, GW_ok sk sv, hG1⟩
  have V := law_walks l (GW_ok sk sv) hl0 (fun _ _ _ h => h.2.2.2) (fun _ _ _ h => h.2.2.1) D c9 sk sv (fun _ _ _ h => h.1) b L xs (e := e) (below := below) (Q := lw_Z below #[Value.ref b] s) X hX hbl (Nat.not_le.mpr hbl) REL HA HI hL
    (fun W9 F9 C9 S9 lv9 hC hS => fun H locs ls hP hD hSv hl => va_forget hSv.2.2 (W.widen hC hS (lw_ret (d0 := s.drawn) (Drawn.sameBut.refl s.drawn lw_cs) hx hb hr hlocks dL_law_3459)))
  rw [lg_entry_eq]
  exact V s.heap [] _ (fun k q h => by simp at h) ⟨fun i j p q h => by simp at h, fun k q h => by simp at h⟩ va_S.rf (lv_entry [Value.ref b] (Nat.le_of_ble_eq_true rfl))
