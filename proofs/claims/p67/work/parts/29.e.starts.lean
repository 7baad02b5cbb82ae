/-! The start of the law. -/
theorem wle_0 : Cond.arrayClass .int ∈ Wg := t1_in (List.mem_of_getElem? (i := 57) rfl) rfl
theorem wle_1 : Cond.arrayClass .byte ∈ Wg := t4_in (List.mem_of_getElem? (i := 32) rfl) rfl
theorem wle_2 : Cond.instantiable RJ0 4 ∈ Wg := t6_in (List.mem_of_getElem? (i := 223) rfl) rfl
theorem wle_3 : Cond.laysFinal RJ0 "java/lang/String" "value" "[B" ∈ Wg := t7_in (List.mem_of_getElem? (i := 34) rfl) rfl
theorem wle_4 : Cond.laysFinal RJ0 "java/lang/String" "coder" "B" ∈ Wg := t7_in (List.mem_of_getElem? (i := 36) rfl) rfl
theorem wle_5 : Cond.lays RJ0 "java/lang/String" "hash" "I" ∈ Wg := t7_in (List.mem_of_getElem? (i := 38) rfl) rfl
theorem wle_6 : Cond.lays RJ0 "java/lang/String" "hashIsZero" "Z" ∈ Wg := t7_in (List.mem_of_getElem? (i := 40) rfl) rfl
theorem wle_7 : Cond.instantiable RJ4 4 ∈ Wg := t6_in (List.mem_of_getElem? (i := 34) rfl) rfl
theorem wle_8 : Cond.lays RJ4 "java/lang/AbstractStringBuilder" "value" "[B" ∈ Wg := t6_in (List.mem_of_getElem? (i := 157) rfl) rfl
theorem wle_9 : Cond.lays RJ4 "java/lang/AbstractStringBuilder" "coder" "B" ∈ Wg := t6_in (List.mem_of_getElem? (i := 159) rfl) rfl
theorem wle_10 : Cond.lays RJ4 "java/lang/AbstractStringBuilder" "maybeLatin1" "Z" ∈ Wg := t6_in (List.mem_of_getElem? (i := 161) rfl) rfl
theorem wle_11 : Cond.lays RJ4 "java/lang/AbstractStringBuilder" "count" "I" ∈ Wg := t6_in (List.mem_of_getElem? (i := 163) rfl) rfl
theorem wle_12 : Cond.instantiable RX0 2 ∈ Wg := t1_in (List.mem_of_getElem? (i := 42) rfl) rfl
theorem wle_13 : Cond.laysFinal RX0 "TicketGate$Bytes" "cells" "[I" ∈ Wg := t1_in (List.mem_of_getElem? (i := 52) rfl) rfl
theorem wle_14 : Cond.lays RX0 "TicketGate$Bytes" "count" "I" ∈ Wg := t1_in (List.mem_of_getElem? (i := 54) rfl) rfl
theorem wle_15 : Cond.instantiable RX1 8 ∈ Wg := t1_in (List.mem_of_getElem? (i := 59) rfl) rfl
theorem wle_16 : Cond.laysFinal RX1 "TicketGate$Parser" "text" "LTicketGate$Bytes;" ∈ Wg := t1_in (List.mem_of_getElem? (i := 192) rfl) rfl
theorem wle_17 : Cond.laysFinal RX1 "TicketGate$Parser" "draft" "LTicketGate$State;" ∈ Wg := t1_in (List.mem_of_getElem? (i := 194) rfl) rfl
theorem wle_18 : Cond.lays RX1 "TicketGate$Parser" "start" "I" ∈ Wg := t1_in (List.mem_of_getElem? (i := 196) rfl) rfl
theorem wle_19 : Cond.lays RX1 "TicketGate$Parser" "end" "I" ∈ Wg := t1_in (List.mem_of_getElem? (i := 198) rfl) rfl
theorem wle_20 : Cond.lays RX1 "TicketGate$Parser" "kind" "I" ∈ Wg := t1_in (List.mem_of_getElem? (i := 200) rfl) rfl
theorem wle_21 : Cond.lays RX1 "TicketGate$Parser" "value" "I" ∈ Wg := t1_in (List.mem_of_getElem? (i := 202) rfl) rfl
theorem wle_22 : Cond.lays RX1 "TicketGate$Parser" "error" "I" ∈ Wg := t1_in (List.mem_of_getElem? (i := 204) rfl) rfl
theorem wle_23 : Cond.lays RX1 "TicketGate$Parser" "errorAt" "I" ∈ Wg := t1_in (List.mem_of_getElem? (i := 206) rfl) rfl
theorem wle_24 : Cond.instantiable RX2 4 ∈ Wg := t1_in (List.mem_of_getElem? (i := 71) rfl) rfl
theorem wle_25 : Cond.laysFinal RX2 "TicketGate$Table" "limit" "I" ∈ Wg := t1_in (List.mem_of_getElem? (i := 84) rfl) rfl
theorem wle_26 : Cond.laysFinal RX2 "TicketGate$Table" "width" "I" ∈ Wg := t1_in (List.mem_of_getElem? (i := 86) rfl) rfl
theorem wle_27 : Cond.laysFinal RX2 "TicketGate$Table" "cells" "[I" ∈ Wg := t1_in (List.mem_of_getElem? (i := 88) rfl) rfl
theorem wle_28 : Cond.lays RX2 "TicketGate$Table" "rows" "I" ∈ Wg := t1_in (List.mem_of_getElem? (i := 90) rfl) rfl
theorem wle_29 : Cond.instantiable RX3 4 ∈ Wg := t1_in (List.mem_of_getElem? (i := 105) rfl) rfl
theorem wle_30 : Cond.laysFinal RX3 "TicketGate$Table" "limit" "I" ∈ Wg := t1_in (List.mem_of_getElem? (i := 110) rfl) rfl
theorem wle_31 : Cond.laysFinal RX3 "TicketGate$Table" "width" "I" ∈ Wg := t1_in (List.mem_of_getElem? (i := 111) rfl) rfl
theorem wle_32 : Cond.laysFinal RX3 "TicketGate$Table" "cells" "[I" ∈ Wg := t1_in (List.mem_of_getElem? (i := 112) rfl) rfl
theorem wle_33 : Cond.lays RX3 "TicketGate$Table" "rows" "I" ∈ Wg := t1_in (List.mem_of_getElem? (i := 113) rfl) rfl
theorem wle_34 : Cond.instantiable RX4 1 ∈ Wg := t1_in (List.mem_of_getElem? (i := 212) rfl) rfl
theorem wle_35 : Cond.laysFinal RX4 "TicketGate$Shelf" "states" "[LTicketGate$State;" ∈ Wg := t1_in (List.mem_of_getElem? (i := 221) rfl) rfl
theorem wle_36 : Cond.instantiable RX5 10 ∈ Wg := t1_in (List.mem_of_getElem? (i := 65) rfl) rfl
theorem wle_37 : Cond.laysFinal RX5 "TicketGate$State" "realms" "LTicketGate$Realms;" ∈ Wg := t1_in (List.mem_of_getElem? (i := 161) rfl) rfl
theorem wle_38 : Cond.laysFinal RX5 "TicketGate$State" "users" "LTicketGate$Users;" ∈ Wg := t1_in (List.mem_of_getElem? (i := 163) rfl) rfl
theorem wle_39 : Cond.laysFinal RX5 "TicketGate$State" "services" "LTicketGate$Services;" ∈ Wg := t1_in (List.mem_of_getElem? (i := 165) rfl) rfl
theorem wle_40 : Cond.laysFinal RX5 "TicketGate$State" "tickets" "LTicketGate$Tickets;" ∈ Wg := t1_in (List.mem_of_getElem? (i := 167) rfl) rfl
theorem wle_41 : Cond.laysFinal RX5 "TicketGate$State" "uses" "LTicketGate$Uses;" ∈ Wg := t1_in (List.mem_of_getElem? (i := 169) rfl) rfl
theorem wle_42 : Cond.lays RX5 "TicketGate$State" "time" "I" ∈ Wg := t1_in (List.mem_of_getElem? (i := 171) rfl) rfl
theorem wle_43 : Cond.lays RX5 "TicketGate$State" "tolerance" "I" ∈ Wg := t1_in (List.mem_of_getElem? (i := 173) rfl) rfl
theorem wle_44 : Cond.lays RX5 "TicketGate$State" "seed" "I" ∈ Wg := t1_in (List.mem_of_getElem? (i := 175) rfl) rfl
theorem wle_45 : Cond.lays RX5 "TicketGate$State" "madeTickets" "I" ∈ Wg := t1_in (List.mem_of_getElem? (i := 177) rfl) rfl
theorem wle_46 : Cond.lays RX5 "TicketGate$State" "cheesesOfText" "I" ∈ Wg := t1_in (List.mem_of_getElem? (i := 179) rfl) rfl
theorem wle_47 : Cond.instantiable RX7 4 ∈ Wg := t1_in (List.mem_of_getElem? (i := 116) rfl) rfl
theorem wle_48 : Cond.laysFinal RX7 "TicketGate$Table" "limit" "I" ∈ Wg := t1_in (List.mem_of_getElem? (i := 121) rfl) rfl
theorem wle_49 : Cond.laysFinal RX7 "TicketGate$Table" "width" "I" ∈ Wg := t1_in (List.mem_of_getElem? (i := 122) rfl) rfl
theorem wle_50 : Cond.laysFinal RX7 "TicketGate$Table" "cells" "[I" ∈ Wg := t1_in (List.mem_of_getElem? (i := 123) rfl) rfl
theorem wle_51 : Cond.lays RX7 "TicketGate$Table" "rows" "I" ∈ Wg := t1_in (List.mem_of_getElem? (i := 124) rfl) rfl
theorem wle_52 : Cond.instantiable RX8 4 ∈ Wg := t1_in (List.mem_of_getElem? (i := 94) rfl) rfl
theorem wle_53 : Cond.laysFinal RX8 "TicketGate$Table" "limit" "I" ∈ Wg := t1_in (List.mem_of_getElem? (i := 99) rfl) rfl
theorem wle_54 : Cond.laysFinal RX8 "TicketGate$Table" "width" "I" ∈ Wg := t1_in (List.mem_of_getElem? (i := 100) rfl) rfl
theorem wle_55 : Cond.laysFinal RX8 "TicketGate$Table" "cells" "[I" ∈ Wg := t1_in (List.mem_of_getElem? (i := 101) rfl) rfl
theorem wle_56 : Cond.lays RX8 "TicketGate$Table" "rows" "I" ∈ Wg := t1_in (List.mem_of_getElem? (i := 102) rfl) rfl
theorem wle_57 : Cond.instantiable RX9 4 ∈ Wg := t1_in (List.mem_of_getElem? (i := 127) rfl) rfl
theorem wle_58 : Cond.laysFinal RX9 "TicketGate$Table" "limit" "I" ∈ Wg := t1_in (List.mem_of_getElem? (i := 132) rfl) rfl
theorem wle_59 : Cond.laysFinal RX9 "TicketGate$Table" "width" "I" ∈ Wg := t1_in (List.mem_of_getElem? (i := 133) rfl) rfl
theorem wle_60 : Cond.laysFinal RX9 "TicketGate$Table" "cells" "[I" ∈ Wg := t1_in (List.mem_of_getElem? (i := 134) rfl) rfl
theorem wle_61 : Cond.lays RX9 "TicketGate$Table" "rows" "I" ∈ Wg := t1_in (List.mem_of_getElem? (i := 135) rfl) rfl
theorem wle_62 : Cond.instantiable RX10 4 ∈ Wg := t4_in (List.mem_of_getElem? (i := 81) rfl) rfl
theorem wle_63 : Cond.laysFinal RX10 "TicketGate$Table" "limit" "I" ∈ Wg := t4_in (List.mem_of_getElem? (i := 86) rfl) rfl
theorem wle_64 : Cond.laysFinal RX10 "TicketGate$Table" "width" "I" ∈ Wg := t4_in (List.mem_of_getElem? (i := 87) rfl) rfl
theorem wle_65 : Cond.laysFinal RX10 "TicketGate$Table" "cells" "[I" ∈ Wg := t4_in (List.mem_of_getElem? (i := 88) rfl) rfl
theorem wle_66 : Cond.lays RX10 "TicketGate$Table" "rows" "I" ∈ Wg := t4_in (List.mem_of_getElem? (i := 89) rfl) rfl
theorem wle_67 : Cond.instantiable RX11 8 ∈ Wg := t1_in (List.mem_of_getElem? (i := 34) rfl) rfl
theorem wle_68 : Cond.laysFinal RX11 "TicketGate" "input" "LTicketGate$Bytes;" ∈ Wg := t4_in (List.mem_of_getElem? (i := 15) rfl) rfl
theorem wle_69 : Cond.laysFinal RX11 "TicketGate" "output" "LTicketGate$Bytes;" ∈ Wg := t4_in (List.mem_of_getElem? (i := 17) rfl) rfl
theorem wle_70 : Cond.laysFinal RX11 "TicketGate" "parser" "LTicketGate$Parser;" ∈ Wg := t4_in (List.mem_of_getElem? (i := 19) rfl) rfl
theorem wle_71 : Cond.laysFinal RX11 "TicketGate" "state" "LTicketGate$State;" ∈ Wg := t4_in (List.mem_of_getElem? (i := 21) rfl) rfl
theorem wle_72 : Cond.laysFinal RX11 "TicketGate" "slots" "LTicketGate$Shelf;" ∈ Wg := t4_in (List.mem_of_getElem? (i := 23) rfl) rfl
theorem wle_73 : Cond.laysFinal RX11 "TicketGate" "past" "LTicketGate$Shelf;" ∈ Wg := t4_in (List.mem_of_getElem? (i := 25) rfl) rfl
theorem wle_74 : Cond.lays RX11 "TicketGate" "nextPast" "I" ∈ Wg := t4_in (List.mem_of_getElem? (i := 27) rfl) rfl
theorem wle_75 : Cond.lays RX11 "TicketGate" "pastCount" "I" ∈ Wg := t4_in (List.mem_of_getElem? (i := 29) rfl) rfl
theorem wle_76 : Cond.instantiable RX12 14 ∈ Wg := t4_in (List.mem_of_getElem? (i := 128) rfl) rfl
theorem wle_77 : Cond.laysFinal RX12 "TicketGateLaw$Hand" "tolerance" "I" ∈ Wg := t4_in (List.mem_of_getElem? (i := 156) rfl) rfl
theorem wle_78 : Cond.laysFinal RX12 "TicketGateLaw$Hand" "life" "[I" ∈ Wg := t4_in (List.mem_of_getElem? (i := 158) rfl) rfl
theorem wle_79 : Cond.laysFinal RX12 "TicketGateLaw$Hand" "again" "[I" ∈ Wg := t4_in (List.mem_of_getElem? (i := 160) rfl) rfl
theorem wle_80 : Cond.laysFinal RX12 "TicketGateLaw$Hand" "fast" "[I" ∈ Wg := t4_in (List.mem_of_getElem? (i := 162) rfl) rfl
theorem wle_81 : Cond.laysFinal RX12 "TicketGateLaw$Hand" "home" "[I" ∈ Wg := t4_in (List.mem_of_getElem? (i := 164) rfl) rfl
theorem wle_82 : Cond.laysFinal RX12 "TicketGateLaw$Hand" "own" "[I" ∈ Wg := t4_in (List.mem_of_getElem? (i := 166) rfl) rfl
theorem wle_83 : Cond.laysFinal RX12 "TicketGateLaw$Hand" "had" "[I" ∈ Wg := t4_in (List.mem_of_getElem? (i := 168) rfl) rfl
theorem wle_84 : Cond.laysFinal RX12 "TicketGateLaw$Hand" "place" "[I" ∈ Wg := t4_in (List.mem_of_getElem? (i := 170) rfl) rfl
theorem wle_85 : Cond.laysFinal RX12 "TicketGateLaw$Hand" "left" "[I" ∈ Wg := t4_in (List.mem_of_getElem? (i := 172) rfl) rfl
theorem wle_86 : Cond.lays RX12 "TicketGateLaw$Hand" "ticket" "[[I" ∈ Wg := t4_in (List.mem_of_getElem? (i := 174) rfl) rfl
theorem wle_87 : Cond.lays RX12 "TicketGateLaw$Hand" "use" "[[I" ∈ Wg := t4_in (List.mem_of_getElem? (i := 176) rfl) rfl
theorem wle_88 : Cond.lays RX12 "TicketGateLaw$Hand" "seed" "I" ∈ Wg := t4_in (List.mem_of_getElem? (i := 178) rfl) rfl
theorem wle_89 : Cond.lays RX12 "TicketGateLaw$Hand" "time" "I" ∈ Wg := t4_in (List.mem_of_getElem? (i := 180) rfl) rfl
theorem wle_90 : Cond.lays RX12 "TicketGateLaw$Hand" "next" "I" ∈ Wg := t4_in (List.mem_of_getElem? (i := 182) rfl) rfl
theorem layle_J0 : ∀ k, k < 4 → u_lay RJ0 TJ0 k ∈ Wg := fun k hk => match k, hk with
  | 0, _ => wle_3
  | 1, _ => wle_4
  | 2, _ => wle_5
  | 3, _ => wle_6
  | k + 4, h => absurd h (by omega)
theorem layle_J4 : ∀ k, k < 4 → u_lay RJ4 TJ4 k ∈ Wg := fun k hk => match k, hk with
  | 0, _ => wle_8
  | 1, _ => wle_9
  | 2, _ => wle_10
  | 3, _ => wle_11
  | k + 4, h => absurd h (by omega)
theorem layle_X0 : ∀ k, k < 2 → u_lay RX0 TX0 k ∈ Wg := fun k hk => match k, hk with
  | 0, _ => wle_13
  | 1, _ => wle_14
  | k + 2, h => absurd h (by omega)
theorem layle_X1 : ∀ k, k < 8 → u_lay RX1 TX1 k ∈ Wg := fun k hk => match k, hk with
  | 0, _ => wle_16
  | 1, _ => wle_17
  | 2, _ => wle_18
  | 3, _ => wle_19
  | 4, _ => wle_20
  | 5, _ => wle_21
  | 6, _ => wle_22
  | 7, _ => wle_23
  | k + 8, h => absurd h (by omega)
theorem layle_X2 : ∀ k, k < 4 → u_lay RX2 TX2 k ∈ Wg := fun k hk => match k, hk with
  | 0, _ => wle_25
  | 1, _ => wle_26
  | 2, _ => wle_27
  | 3, _ => wle_28
  | k + 4, h => absurd h (by omega)
theorem layle_X3 : ∀ k, k < 4 → u_lay RX3 TX3 k ∈ Wg := fun k hk => match k, hk with
  | 0, _ => wle_30
  | 1, _ => wle_31
  | 2, _ => wle_32
  | 3, _ => wle_33
  | k + 4, h => absurd h (by omega)
theorem layle_X4 : ∀ k, k < 1 → u_lay RX4 TX4 k ∈ Wg := fun k hk => match k, hk with
  | 0, _ => wle_35
  | k + 1, h => absurd h (by omega)
theorem layle_X5 : ∀ k, k < 10 → u_lay RX5 TX5 k ∈ Wg := fun k hk => match k, hk with
  | 0, _ => wle_37
  | 1, _ => wle_38
  | 2, _ => wle_39
  | 3, _ => wle_40
  | 4, _ => wle_41
  | 5, _ => wle_42
  | 6, _ => wle_43
  | 7, _ => wle_44
  | 8, _ => wle_45
  | 9, _ => wle_46
  | k + 10, h => absurd h (by omega)
theorem layle_X7 : ∀ k, k < 4 → u_lay RX7 TX7 k ∈ Wg := fun k hk => match k, hk with
  | 0, _ => wle_48
  | 1, _ => wle_49
  | 2, _ => wle_50
  | 3, _ => wle_51
  | k + 4, h => absurd h (by omega)
theorem layle_X8 : ∀ k, k < 4 → u_lay RX8 TX8 k ∈ Wg := fun k hk => match k, hk with
  | 0, _ => wle_53
  | 1, _ => wle_54
  | 2, _ => wle_55
  | 3, _ => wle_56
  | k + 4, h => absurd h (by omega)
theorem layle_X9 : ∀ k, k < 4 → u_lay RX9 TX9 k ∈ Wg := fun k hk => match k, hk with
  | 0, _ => wle_58
  | 1, _ => wle_59
  | 2, _ => wle_60
  | 3, _ => wle_61
  | k + 4, h => absurd h (by omega)
theorem layle_X10 : ∀ k, k < 4 → u_lay RX10 TX10 k ∈ Wg := fun k hk => match k, hk with
  | 0, _ => wle_63
  | 1, _ => wle_64
  | 2, _ => wle_65
  | 3, _ => wle_66
  | k + 4, h => absurd h (by omega)
theorem layle_X11 : ∀ k, k < 8 → u_lay RX11 TX11 k ∈ Wg := fun k hk => match k, hk with
  | 0, _ => wle_68
  | 1, _ => wle_69
  | 2, _ => wle_70
  | 3, _ => wle_71
  | 4, _ => wle_72
  | 5, _ => wle_73
  | 6, _ => wle_74
  | 7, _ => wle_75
  | k + 8, h => absurd h (by omega)
theorem layle_X12 : ∀ k, k < 14 → u_lay RX12 TX12 k ∈ Wg := fun k hk => match k, hk with
  | 0, _ => wle_77
  | 1, _ => wle_78
  | 2, _ => wle_79
  | 3, _ => wle_80
  | 4, _ => wle_81
  | 5, _ => wle_82
  | 6, _ => wle_83
  | 7, _ => wle_84
  | 8, _ => wle_85
  | 9, _ => wle_86
  | 10, _ => wle_87
  | 11, _ => wle_88
  | 12, _ => wle_89
  | 13, _ => wle_90
  | k + 14, h => absurd h (by omega)
def GW (sk sv : Nat → Nat) (b L : Nat) (xs : Nat → Int32) (A : Nat → Prop) (U : State) (H : Heap) : Prop := vU sk sv A U H ∧ (∀ w ∈ nestW, va_Nw w U) ∧ va_AO RX5 U ∧ vV A U H ∧ va_T .int b L (fun j => .int (xs j)) A U H
theorem nest_warm {s U : State} (hW : s.WarmedH U.vm) (h : ∀ w ∈ nestW, va_Nw w s) : ∀ w ∈ nestW, va_Nw w U := by
  intro w hw
  have hz := h w hw
  simp only [nestW, List.mem_cons, List.not_mem_nil, or_false] at hw
  rcases hw with rfl | rfl | rfl | rfl | rfl | rfl | rfl | rfl | rfl | rfl | rfl | rfl | rfl | rfl | rfl | rfl | rfl | rfl | rfl | rfl | rfl | rfl | rfl | rfl | rfl | rfl | rfl | rfl | rfl | rfl
  all_goals first | exact va_Nw.warmF hW hz | exact va_Nw.warmM hW hz | exact va_Nw.warmC hW hz | exact va_Nw.warmD hW hz
theorem vV.narrow {A B : Nat → Prop} {U : State} {H : Heap} (h : vV A U H) (hAB : ∀ q, B q → A q) : vV B U H := by
  obtain ⟨⟨t1, t2, z1, y1, z2, y2⟩, h3⟩ := h
  exact ⟨⟨t1, t2, va_Z.narrow z1 hAB, y1.narrow hAB, va_Z.narrow z2 hAB, y2.narrow hAB⟩, h3⟩
theorem vV.kept {A : Nat → Prop} {U : State} {H H1 : Heap} (h : vV A U H) (hq : ∀ a : Nat, a < H.size → ¬ A a → H1[a]? = H[a]?) : vV A U H1 := by
  obtain ⟨⟨t1, t2, z1, y1, z2, y2⟩, h3⟩ := h
  exact ⟨⟨t1, t2, va_Z.kept z1 hq, y1.kept hq, va_Z.kept z2 hq, y2.kept hq⟩, h3⟩
theorem vV.moved {A : Nat → Prop} {u U : State} {H : Heap} (hvm : u.vm.Alike U.vm) (h : vV A u H) : vV A U H := by
  obtain ⟨⟨t1, t2, z1, y1, z2, y2⟩, h3⟩ := h
  exact ⟨⟨t1, t2, va_Z.moved hvm z1, va_T.moved hvm y1, va_Z.moved hvm z2, va_T.moved hvm y2⟩, va_AI.moved hvm h3⟩
theorem GW_ok (sk sv : Nat → Nat) (b L : Nat) (xs : Nat → Int32) : vG (GW sk sv b L xs) :=
  ⟨fun A B U H h hAB => ⟨⟨vk_S.narrow h.1.1 hAB, h.1.2.1, va_Z.narrow h.1.2.2.1 hAB, va_Zq.narrow h.1.2.2.2.1 hAB, vx_Zq.narrow h.1.2.2.2.2.1 hAB, vx_Zq.narrow h.1.2.2.2.2.2 hAB⟩, h.2.1, h.2.2.1, h.2.2.2.1.narrow hAB, h.2.2.2.2.narrow hAB⟩,
   fun A U H H1 h hq => ⟨⟨vk_S.kept h.1.1 hq, h.1.2.1, va_Z.kept h.1.2.2.1 hq, va_Zq.kept h.1.2.2.2.1 hq, vx_Zq.kept h.1.2.2.2.2.1 hq, vx_Zq.kept h.1.2.2.2.2.2 hq⟩, h.2.1, h.2.2.1, h.2.2.2.1.kept hq, h.2.2.2.2.kept hq⟩,
   fun A s U H hW h => ⟨⟨vk_S.moved hW.alike h.1.1, fun r hr => vk_R.warm hW (h.1.2.1 r hr), va_Z.moved hW.alike h.1.2.2.1, va_Zq.moved hW.alike h.1.2.2.2.1, vx_Zq.moved hW.alike h.1.2.2.2.2.1, vx_Zq.moved hW.alike h.1.2.2.2.2.2⟩, nest_warm hW h.2.1, va_AO.moved hW.alike h.2.2.1, vV.moved hW.alike h.2.2.2.1, va_T.moved hW.alike h.2.2.2.2⟩,
   fun A U H h => h.2.1⟩
theorem nest_tbl : ∀ w ∈ nestW, w ∈ lw_tbl := by decide +kernel
theorem ao_tbl : Cond.arrayOver (.object RX5) ∈ lw_tbl := by decide +kernel
theorem ai_tbl : Cond.arrayOver (.array .int) ∈ lw_tbl := by decide +kernel
theorem ai_of {args : Array Value} {U : State} (h : (Cond.arrayOver (.array .int)).before args U = true) : va_AI U := by
  unfold va_AI
  unfold Cond.before Cond.holds at h ⊢
  simp only [Cond.value] at h ⊢
  exact h
theorem st_GW {s : State} {args : Array Value} {b L : Nat} {xs : Nat → Int32} (hs : ∀ c ∈ FLS, c.before args s = true) (hts : ∀ w ∈ lw_tbl, w.before args s = true) {A : Nat → Prop} (hA : ∀ a : Nat, a < s.heap.size → ¬ A a) (hX : va_X b L xs s s.heap) (hbl : b < s.heap.size) : ∃ sk sv : Nat → Nat, GW sk sv b L xs A s s.heap := by
  obtain ⟨sk, sv, h⟩ := st_vU hs hts hA
  obtain ⟨t1, z1, y1⟩ := dgO_st hs hts hA
  obtain ⟨t2, z2, y2⟩ := dgT_st hs hts hA
  obtain ⟨scr, c1, c2, c3, c4, c5⟩ := hX
  exact ⟨sk, sv, h, fun w hw => va_Nw.of (nest_ok w hw) (hts w (nest_tbl w hw)), va_AO.of (hts _ ao_tbl), ⟨⟨t1, t2, z1, y1, z2, y2⟩, ai_of (hts _ ai_tbl)⟩, scr, c1, c2, c3, by rw [c4]; exact Nat.le_refl _, by rw [c4], c5, hA b hbl⟩
theorem st_arr1 {s : State} {args : Array Value} {ty : FieldType} (h : (Cond.arrayClass ty).before args s = true) : ∃ cA, ArrOfT s cA ty ∧ s.vm.findClass ("[" ++ ty.toString) = some cA := by
  obtain ⟨c, k, comp, h1, h2, h3⟩ := Cond.arrayClass_spec h
  exact ⟨c, fun n z => ⟨fun k h => (by cases h), k, h2, comp, h3⟩, h1⟩
theorem st_arr {s : State} {args : Array Value} (hts : ∀ w ∈ Cond.tt :: Wg, w.before args s = true) (hA : va_AO RX5 s) (hI : va_AI s) : ∃ c9 : Nat → ClassId, ∀ (k : Nat) (q : ClassId × FieldType), (tyA c9)[k]? = some q → ArrOfT s q.1 q.2 ∧ va_RA s q.1 q.2 := by
  obtain ⟨c0, a0, b0⟩ := st_arr1 (hts _ (mw wle_0))
  obtain ⟨c2, a2, b2⟩ := st_arr1 (hts _ (mw wle_1))
  obtain ⟨comp, c3, k3, h1, h2, h3, h4, h5⟩ := Cond.arrayOver_spec (va_AO.use (A := args) hA)
  obtain ⟨cm, c4, k4, g1, g2, g3, g4, g5⟩ := arrayOverA_spec hI
  refine ⟨fun k => if k = 0 then c0 else if k = 1 then c0 else if k = 2 then c2 else if k = 3 then c3 else c4, ?_⟩
  intro k q hq
  match k, hq with
  | 0, hq => cases hq; exact ⟨a0, b0⟩
  | 1, hq => cases hq; exact ⟨a0, b0⟩
  | 2, hq => cases hq; exact ⟨a2, b2⟩
  | 3, hq => cases hq; exact ⟨fun n z => ⟨fun k h => (by cases h), k3, h3, comp, h4⟩, k3, comp, h3, h4, h1, h5⟩
  | 4, hq => cases hq; exact ⟨fun n z => ⟨fun k h => (by cases h), k4, g3, cm, g4⟩, g5⟩
  | k + 5, hq => simp at hq
theorem st_cls {s : State} {args : Array Value} (hts : ∀ w ∈ Cond.tt :: Wg, w.before args s = true) : ∃ D : va_G, ∀ (k : Nat) (q : vw_C), vwCl[k]? = some q → u_Kn s q.1 q.2.1 q.2.2 (D.1 k) (D.2 k) := by
  obtain ⟨c0, i0, h0⟩ := u_known (C := RJ0) (T := TJ0) (N := 4) (n := 4) hts (lay_of layle_J0) (hts _ (mw wle_2))
  obtain ⟨c1, i1, h1⟩ := u_known (C := RJ4) (T := TJ4) (N := 4) (n := 4) hts (lay_of layle_J4) (hts _ (mw wle_7))
  obtain ⟨c2, i2, h2⟩ := u_known (C := RX0) (T := TX0) (N := 2) (n := 2) hts (lay_of layle_X0) (hts _ (mw wle_12))
  obtain ⟨c3, i3, h3⟩ := u_known (C := RX1) (T := TX1) (N := 8) (n := 8) hts (lay_of layle_X1) (hts _ (mw wle_15))
  obtain ⟨c4, i4, h4⟩ := u_known (C := RX2) (T := TX2) (N := 4) (n := 4) hts (lay_of layle_X2) (hts _ (mw wle_24))
  obtain ⟨c5, i5, h5⟩ := u_known (C := RX3) (T := TX3) (N := 4) (n := 4) hts (lay_of layle_X3) (hts _ (mw wle_29))
  obtain ⟨c6, i6, h6⟩ := u_known (C := RX4) (T := TX4) (N := 1) (n := 1) hts (lay_of layle_X4) (hts _ (mw wle_34))
  obtain ⟨c7, i7, h7⟩ := u_known (C := RX5) (T := TX5) (N := 10) (n := 10) hts (lay_of layle_X5) (hts _ (mw wle_36))
  obtain ⟨c8, i8, h8⟩ := u_known (C := RX7) (T := TX7) (N := 4) (n := 4) hts (lay_of layle_X7) (hts _ (mw wle_47))
  obtain ⟨c9, i9, h9⟩ := u_known (C := RX8) (T := TX8) (N := 4) (n := 4) hts (lay_of layle_X8) (hts _ (mw wle_52))
  obtain ⟨c10, i10, h10⟩ := u_known (C := RX9) (T := TX9) (N := 4) (n := 4) hts (lay_of layle_X9) (hts _ (mw wle_57))
  obtain ⟨c11, i11, h11⟩ := u_known (C := RX10) (T := TX10) (N := 4) (n := 4) hts (lay_of layle_X10) (hts _ (mw wle_62))
  obtain ⟨c12, i12, h12⟩ := u_known (C := RX11) (T := TX11) (N := 8) (n := 8) hts (lay_of layle_X11) (hts _ (mw wle_67))
  obtain ⟨c13, i13, h13⟩ := u_known (C := RX12) (T := TX12) (N := 14) (n := 14) hts (lay_of layle_X12) (hts _ (mw wle_76))
  refine ⟨(fun k => [c0, c1, c2, c3, c4, c5, c6, c7, c8, c9, c10, c11, c12, c13].getD k c0, fun k => [i0, i1, i2, i3, i4, i5, i6, i7, i8, i9, i10, i11, i12, i13].getD k i0), ?_⟩
  intro k q hq
  match k, hq with
  | 0, hq => cases hq; exact h0
  | 1, hq => cases hq; exact h1
  | 2, hq => cases hq; exact h2
  | 3, hq => cases hq; exact h3
  | 4, hq => cases hq; exact h4
  | 5, hq => cases hq; exact h5
  | 6, hq => cases hq; exact h6
  | 7, hq => cases hq; exact h7
  | 8, hq => cases hq; exact h8
  | 9, hq => cases hq; exact h9
  | 10, hq => cases hq; exact h10
  | 11, hq => cases hq; exact h11
  | 12, hq => cases hq; exact h12
  | 13, hq => cases hq; exact h13
  | k + 14, hq => simp [vwCl] at hq
set_option maxHeartbeats 4000000 in
theorem law_starts {p : Program} {e : Env} {s : State} {m : MethodId} {below : List Frame} {meth : Method} {c : Code} (HP : ∀ (xs : Nat → Int32) (Ls : Nat), ASKED xs Ls) (l : Launch) (hflags : l.flags = flags0) {b L : Nat} {xs : Nat → Int32} (hL : L ≤ 260) (C0 : lw_At p s m meth c b L xs) : W p l e room_1 s m #[Value.ref b] below meth c s.heap [] 0 0 (lw_Z below #[Value.ref b] s) (entryFrame m ([Value.ref b] : List Value).toArray 6) := by
  obtain ⟨hx, hb, hr, hml, hown, hts, hX, hbl, hlocks, hgv⟩ := C0
  have hs : ∀ c ∈ FLS, c.before #[Value.ref b] s = true := flat_of_before _ hgv
  have hA1 : ∀ a : Nat, a < s.heap.size → ¬ (fun q : Nat => s.heap.size ≤ q) a := fun a h => Nat.not_le.mpr h
  obtain ⟨sk, sv, hG1⟩ := st_GW (A := fun q : Nat => s.heap.size ≤ q) hs hts hA1 hX hbl
  have hW1 : ∀ w ∈ Cond.tt :: Wg, w.before #[Value.ref b] s = true := fun w hw => by
    rcases List.mem_cons.mp hw with rfl | hw
    · rfl
    · exact hts w (wg_in hw)
  obtain ⟨D, hD1⟩ := st_cls hW1
  obtain ⟨c9, hc9⟩ := st_arr hW1 hG1.2.2.1 hG1.2.2.2.1.2
  have hl0 : l.stackTraces = false := by
    unfold Launch.stackTraces
    rw [hflags]
    decide +kernel
  have X : vX p s m #[Value.ref b] meth c cL_law 6 (some .boolean) RL (Cond.tt :: Wg) D (tyA c9) (GW sk sv b L xs) (fun q : Nat => s.heap.size ≤ q) := ⟨hx, hb, hr, hml, hown, hW1, hlocks, ⟨hD1, hc9⟩, fun q h => h, GW_ok sk sv b L xs, hG1⟩
  have V := law_walks (l := l) (GW_ok sk sv b L xs) D c9 (sk := sk) (sv := sv) (fun _ _ _ h => h.1) (fun _ _ _ h => h.2.2.2.1) hl0 (bs := b) (Ls := L) (xs := xs) (fun _ _ _ h => h.2.2.2.2) (by omega) (fun _ _ _ h => h.2.2.1) (e := e) (below := below) (Q := lw_Z below #[Value.ref b] s) X
    (fun W9 F9 C9 S9 lv9 hC hS => fun H locs ls hP hD hSv hl => va_forget hSv.2.2 (W.widen hC hS (lw_ret hx hb hr hlocks dL_law_132))) (HP xs L)
  rw [lg_entry_eq]
  exact V s.heap [] _ (fun k q h => by simp at h) ⟨fun i j p q h => by simp at h, fun k q h => by simp at h⟩ va_S.rf (lv_entry [Value.ref b] (Nat.le_of_ble_eq_true rfl))
