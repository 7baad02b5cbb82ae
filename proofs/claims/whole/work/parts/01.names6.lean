theorem dX12_renewRefusal_5 : decode cX12_renewRefusal 5 = .ok (.ifCond .eq 5, 3) := by decide +kernel
theorem dX12_renewRefusal_8 : decode cX12_renewRefusal 8 = .ok (.iconst 0, 1) := by decide +kernel
theorem dX12_renewRefusal_9 : decode cX12_renewRefusal 9 = .ok (.ireturn, 1) := by decide +kernel
theorem dX12_renewRefusal_10 : decode cX12_renewRefusal 10 = .ok (.aload_n 0, 1) := by decide +kernel
theorem dX12_renewRefusal_11 : decode cX12_renewRefusal 11 = .ok (.getfield 7, 3) := by decide +kernel
theorem dX12_renewRefusal_14 : decode cX12_renewRefusal 14 = .ok (.aload_n 0, 1) := by decide +kernel
theorem dX12_renewRefusal_15 : decode cX12_renewRefusal 15 = .ok (.getfield 7, 3) := by decide +kernel
theorem dX12_renewRefusal_18 : decode cX12_renewRefusal 18 = .ok (.iload_n 1, 1) := by decide +kernel
theorem dX12_renewRefusal_19 : decode cX12_renewRefusal 19 = .ok (.invokestatic 226, 3) := by decide +kernel
theorem dX12_renewRefusal_22 : decode cX12_renewRefusal 22 = .ok (.invokestatic 286, 3) := by decide +kernel
theorem dX12_renewRefusal_25 : decode cX12_renewRefusal 25 = .ok (.ireturn, 1) := by decide +kernel
set_option maxRecDepth 20000 in
theorem ggX12_cheeseRefusal_X12_noTicket : GoodIn wsX12_cheeseRefusal wsX12_noTicket := goodIn_r _ [6, 7, 1, 8, 9, 5, 10, 11, 12, 13, 14, 15, 16, 17, 45, 46, 47, 48, 49, 50, 51, 52, 53, 54, 55, 56, 57, 58, 59, 60, 61, 62, 63, 64, 65, 66] (by decide +kernel) (by decide +kernel)
set_option maxRecDepth 20000 in
theorem gX12_cheeseRefusal_X12_noTicket : GoodIn wsX12_cheeseRefusal (wsV RX12 394 RX12 yX12_noTicket wsX12_noTicket) := goodIn_app (goodIn_of _ (by decide +kernel)) ggX12_cheeseRefusal_X12_noTicket
set_option maxRecDepth 20000 in
theorem ggX12_cheeseRefusal_X12_find : GoodIn wsX12_cheeseRefusal wsX12_find := goodIn_r _ [10, 11, 12, 5, 13] (by decide +kernel) (by decide +kernel)
set_option maxRecDepth 20000 in
theorem gX12_cheeseRefusal_X12_find : GoodIn wsX12_cheeseRefusal (va_wsS RX12 226 yX12_find wsX12_find) := goodIn_app (goodIn_of _ (by decide +kernel)) ggX12_cheeseRefusal_X12_find
set_option maxRecDepth 20000 in
theorem ggX12_cheeseRefusal_X12_whyNotCheese : GoodIn wsX12_cheeseRefusal wsX12_whyNotCheese := goodIn_r _ [20, 11, 12, 5, 13, 21, 22, 23, 24, 25, 26, 27, 28, 29, 30, 31, 32, 33, 34, 35, 36, 37, 38, 39, 40, 41, 42, 43, 44] (by decide +kernel) (by decide +kernel)
set_option maxRecDepth 20000 in
theorem gX12_cheeseRefusal_X12_whyNotCheese : GoodIn wsX12_cheeseRefusal (va_wsS RX12 292 yX12_whyNotCheese wsX12_whyNotCheese) := goodIn_app (goodIn_of _ (by decide +kernel)) ggX12_cheeseRefusal_X12_whyNotCheese
theorem dX12_cheeseRefusal_0 : decode cX12_cheeseRefusal 0 = .ok (.aload_n 0, 1) := by decide +kernel
theorem dX12_cheeseRefusal_1 : decode cX12_cheeseRefusal 1 = .ok (.iload_n 1, 1) := by decide +kernel
theorem dX12_cheeseRefusal_2 : decode cX12_cheeseRefusal 2 = .ok (.invokevirtual 394, 3) := by decide +kernel
theorem dX12_cheeseRefusal_5 : decode cX12_cheeseRefusal 5 = .ok (.ifCond .eq 5, 3) := by decide +kernel
theorem dX12_cheeseRefusal_8 : decode cX12_cheeseRefusal 8 = .ok (.iconst 0, 1) := by decide +kernel
theorem dX12_cheeseRefusal_9 : decode cX12_cheeseRefusal 9 = .ok (.ireturn, 1) := by decide +kernel
theorem dX12_cheeseRefusal_10 : decode cX12_cheeseRefusal 10 = .ok (.aload_n 0, 1) := by decide +kernel
theorem dX12_cheeseRefusal_11 : decode cX12_cheeseRefusal 11 = .ok (.getfield 7, 3) := by decide +kernel
theorem dX12_cheeseRefusal_14 : decode cX12_cheeseRefusal 14 = .ok (.aload_n 0, 1) := by decide +kernel
theorem dX12_cheeseRefusal_15 : decode cX12_cheeseRefusal 15 = .ok (.getfield 7, 3) := by decide +kernel
theorem dX12_cheeseRefusal_18 : decode cX12_cheeseRefusal 18 = .ok (.iload_n 1, 1) := by decide +kernel
theorem dX12_cheeseRefusal_19 : decode cX12_cheeseRefusal 19 = .ok (.invokestatic 226, 3) := by decide +kernel
theorem dX12_cheeseRefusal_22 : decode cX12_cheeseRefusal 22 = .ok (.invokestatic 292, 3) := by decide +kernel
theorem dX12_cheeseRefusal_25 : decode cX12_cheeseRefusal 25 = .ok (.ireturn, 1) := by decide +kernel
set_option maxRecDepth 20000 in
theorem ggX12_validTickets_X12_living : GoodIn wsX12_validTickets wsX12_living := goodIn_r _ [6, 7, 8, 5, 9, 10, 11, 12] (by decide +kernel) (by decide +kernel)
set_option maxRecDepth 20000 in
theorem gX12_validTickets_X12_living : GoodIn wsX12_validTickets (va_wsS RX12 145 yX12_living wsX12_living) := goodIn_app (goodIn_of _ (by decide +kernel)) ggX12_validTickets_X12_living
theorem dX12_validTickets_0 : decode cX12_validTickets 0 = .ok (.aload_n 0, 1) := by decide +kernel
theorem dX12_validTickets_1 : decode cX12_validTickets 1 = .ok (.iconst 0, 1) := by decide +kernel
theorem dX12_validTickets_2 : decode cX12_validTickets 2 = .ok (.putfield 72, 3) := by decide +kernel
theorem dX12_validTickets_5 : decode cX12_validTickets 5 = .ok (.aload_n 0, 1) := by decide +kernel
theorem dX12_validTickets_6 : decode cX12_validTickets 6 = .ok (.getfield 7, 3) := by decide +kernel
theorem dX12_validTickets_9 : decode cX12_validTickets 9 = .ok (.invokestatic 145, 3) := by decide +kernel
theorem dX12_validTickets_12 : decode cX12_validTickets 12 = .ok (.ireturn, 1) := by decide +kernel
set_option maxRecDepth 20000 in
theorem ggX12_validAfter_X12_noNumber : GoodIn wsX12_validAfter wsX12_noNumber := goodIn_r _ [7, 8, 9, 10, 6, 11, 12, 13, 14, 15, 28, 29, 30, 31, 32, 33, 34, 35, 36, 37, 38, 39, 40, 41, 42, 43, 44, 45, 46, 47, 48, 49] (by decide +kernel) (by decide +kernel)
set_option maxRecDepth 20000 in
theorem gX12_validAfter_X12_noNumber : GoodIn wsX12_validAfter (wsV RX12 160 RX12 yX12_noNumber wsX12_noNumber) := goodIn_app (goodIn_of _ (by decide +kernel)) ggX12_validAfter_X12_noNumber
set_option maxRecDepth 20000 in
theorem ggX12_validAfter_X12_copyRow : GoodIn wsX12_validAfter wsX12_copyRow := goodIn_r _ [18] (by decide +kernel) (by decide +kernel)
set_option maxRecDepth 20000 in
theorem gX12_validAfter_X12_copyRow : GoodIn wsX12_validAfter (va_wsS RX12 58 yX12_copyRow wsX12_copyRow) := goodIn_app (goodIn_of _ (by decide +kernel)) ggX12_validAfter_X12_copyRow
set_option maxRecDepth 20000 in
theorem ggX12_validAfter_X12_living : GoodIn wsX12_validAfter wsX12_living := goodIn_r _ [21, 22, 23, 6, 24, 25, 26, 27] (by decide +kernel) (by decide +kernel)
set_option maxRecDepth 20000 in
theorem gX12_validAfter_X12_living : GoodIn wsX12_validAfter (va_wsS RX12 145 yX12_living wsX12_living) := goodIn_app (goodIn_of _ (by decide +kernel)) ggX12_validAfter_X12_living
theorem dX12_validAfter_0 : decode cX12_validAfter 0 = .ok (.aload_n 0, 1) := by decide +kernel
theorem dX12_validAfter_1 : decode cX12_validAfter 1 = .ok (.iload_n 1, 1) := by decide +kernel
theorem dX12_validAfter_2 : decode cX12_validAfter 2 = .ok (.iconst 0, 1) := by decide +kernel
theorem dX12_validAfter_3 : decode cX12_validAfter 3 = .ok (.sipush 999, 3) := by decide +kernel
theorem dX12_validAfter_6 : decode cX12_validAfter 6 = .ok (.invokevirtual 160, 3) := by decide +kernel
theorem dX12_validAfter_9 : decode cX12_validAfter 9 = .ok (.ifCond .eq 5, 3) := by decide +kernel
theorem dX12_validAfter_12 : decode cX12_validAfter 12 = .ok (.iconst 0, 1) := by decide +kernel
theorem dX12_validAfter_13 : decode cX12_validAfter 13 = .ok (.ireturn, 1) := by decide +kernel
theorem dX12_validAfter_14 : decode cX12_validAfter 14 = .ok (.aload_n 0, 1) := by decide +kernel
theorem dX12_validAfter_15 : decode cX12_validAfter 15 = .ok (.getfield 7, 3) := by decide +kernel
theorem dX12_validAfter_18 : decode cX12_validAfter 18 = .ok (.iconst 0, 1) := by decide +kernel
theorem dX12_validAfter_19 : decode cX12_validAfter 19 = .ok (.aload_n 0, 1) := by decide +kernel
theorem dX12_validAfter_20 : decode cX12_validAfter 20 = .ok (.getfield 16, 3) := by decide +kernel
theorem dX12_validAfter_23 : decode cX12_validAfter 23 = .ok (.iconst 0, 1) := by decide +kernel
theorem dX12_validAfter_24 : decode cX12_validAfter 24 = .ok (.invokestatic 58, 3) := by decide +kernel
theorem dX12_validAfter_27 : decode cX12_validAfter 27 = .ok (.aload_n 0, 1) := by decide +kernel
theorem dX12_validAfter_28 : decode cX12_validAfter 28 = .ok (.getfield 16, 3) := by decide +kernel
theorem dX12_validAfter_31 : decode cX12_validAfter 31 = .ok (.iconst 0, 1) := by decide +kernel
theorem dX12_validAfter_32 : decode cX12_validAfter 32 = .ok (.dup2, 1) := by decide +kernel
theorem dX12_validAfter_33 : decode cX12_validAfter 33 = .ok (.iaload, 1) := by decide +kernel
theorem dX12_validAfter_34 : decode cX12_validAfter 34 = .ok (.iload_n 1, 1) := by decide +kernel
theorem dX12_validAfter_35 : decode cX12_validAfter 35 = .ok (.iadd, 1) := by decide +kernel
theorem dX12_validAfter_36 : decode cX12_validAfter 36 = .ok (.iastore, 1) := by decide +kernel
theorem dX12_validAfter_37 : decode cX12_validAfter 37 = .ok (.aload_n 0, 1) := by decide +kernel
theorem dX12_validAfter_38 : decode cX12_validAfter 38 = .ok (.getfield 16, 3) := by decide +kernel
theorem dX12_validAfter_41 : decode cX12_validAfter 41 = .ok (.invokestatic 145, 3) := by decide +kernel
theorem dX12_validAfter_44 : decode cX12_validAfter 44 = .ok (.ireturn, 1) := by decide +kernel
set_option maxRecDepth 20000 in
theorem ggX12_minutesUntilCheese_X12_noTicket : GoodIn wsX12_minutesUntilCheese wsX12_noTicket := goodIn_r _ [7, 8, 1, 9, 10, 6, 11, 12, 13, 14, 15, 16, 17, 18, 52, 53, 54, 55, 56, 57, 58, 59, 60, 61, 62, 63, 64, 65, 66, 67, 68, 69, 70, 71, 72, 73] (by decide +kernel) (by decide +kernel)
set_option maxRecDepth 20000 in
theorem gX12_minutesUntilCheese_X12_noTicket : GoodIn wsX12_minutesUntilCheese (wsV RX12 394 RX12 yX12_noTicket wsX12_noTicket) := goodIn_app (goodIn_of _ (by decide +kernel)) ggX12_minutesUntilCheese_X12_noTicket
set_option maxRecDepth 20000 in
theorem ggX12_minutesUntilCheese_X12_copyRow : GoodIn wsX12_minutesUntilCheese wsX12_copyRow := goodIn_r _ [21] (by decide +kernel) (by decide +kernel)
set_option maxRecDepth 20000 in
theorem gX12_minutesUntilCheese_X12_copyRow : GoodIn wsX12_minutesUntilCheese (va_wsS RX12 58 yX12_copyRow wsX12_copyRow) := goodIn_app (goodIn_of _ (by decide +kernel)) ggX12_minutesUntilCheese_X12_copyRow
set_option maxRecDepth 20000 in
theorem ggX12_minutesUntilCheese_X12_find : GoodIn wsX12_minutesUntilCheese wsX12_find := goodIn_r _ [11, 12, 13, 6, 14] (by decide +kernel) (by decide +kernel)
set_option maxRecDepth 20000 in
theorem gX12_minutesUntilCheese_X12_find : GoodIn wsX12_minutesUntilCheese (va_wsS RX12 226 yX12_find wsX12_find) := goodIn_app (goodIn_of _ (by decide +kernel)) ggX12_minutesUntilCheese_X12_find
set_option maxRecDepth 20000 in
theorem ggX12_minutesUntilCheese_X12_whyNotCheese : GoodIn wsX12_minutesUntilCheese wsX12_whyNotCheese := goodIn_r _ [24, 12, 13, 6, 14, 25, 26, 27, 28, 29, 30, 31, 32, 33, 34, 35, 36, 37, 38, 39, 40, 41, 42, 43, 44, 45, 46, 47, 48] (by decide +kernel) (by decide +kernel)
set_option maxRecDepth 20000 in
theorem gX12_minutesUntilCheese_X12_whyNotCheese : GoodIn wsX12_minutesUntilCheese (va_wsS RX12 292 yX12_whyNotCheese wsX12_whyNotCheese) := goodIn_app (goodIn_of _ (by decide +kernel)) ggX12_minutesUntilCheese_X12_whyNotCheese
set_option maxRecDepth 20000 in
theorem ggX12_minutesUntilCheese_X12_forget : GoodIn wsX12_minutesUntilCheese wsX12_forget := goodIn_r _ [51, 43, 44, 6, 45] (by decide +kernel) (by decide +kernel)
set_option maxRecDepth 20000 in
theorem gX12_minutesUntilCheese_X12_forget : GoodIn wsX12_minutesUntilCheese (va_wsS RX12 148 yX12_forget wsX12_forget) := goodIn_app (goodIn_of _ (by decide +kernel)) ggX12_minutesUntilCheese_X12_forget
theorem dX12_minutesUntilCheese_0 : decode cX12_minutesUntilCheese 0 = .ok (.aload_n 0, 1) := by decide +kernel
theorem dX12_minutesUntilCheese_1 : decode cX12_minutesUntilCheese 1 = .ok (.iload_n 1, 1) := by decide +kernel
theorem dX12_minutesUntilCheese_2 : decode cX12_minutesUntilCheese 2 = .ok (.invokevirtual 394, 3) := by decide +kernel
theorem dX12_minutesUntilCheese_5 : decode cX12_minutesUntilCheese 5 = .ok (.ifCond .eq 5, 3) := by decide +kernel
theorem dX12_minutesUntilCheese_8 : decode cX12_minutesUntilCheese 8 = .ok (.iconst 0, 1) := by decide +kernel
theorem dX12_minutesUntilCheese_9 : decode cX12_minutesUntilCheese 9 = .ok (.ireturn, 1) := by decide +kernel
theorem dX12_minutesUntilCheese_10 : decode cX12_minutesUntilCheese 10 = .ok (.aload_n 0, 1) := by decide +kernel
theorem dX12_minutesUntilCheese_11 : decode cX12_minutesUntilCheese 11 = .ok (.getfield 7, 3) := by decide +kernel
theorem dX12_minutesUntilCheese_14 : decode cX12_minutesUntilCheese 14 = .ok (.iconst 0, 1) := by decide +kernel
theorem dX12_minutesUntilCheese_15 : decode cX12_minutesUntilCheese 15 = .ok (.aload_n 0, 1) := by decide +kernel
theorem dX12_minutesUntilCheese_16 : decode cX12_minutesUntilCheese 16 = .ok (.getfield 16, 3) := by decide +kernel
theorem dX12_minutesUntilCheese_19 : decode cX12_minutesUntilCheese 19 = .ok (.iconst 0, 1) := by decide +kernel
theorem dX12_minutesUntilCheese_20 : decode cX12_minutesUntilCheese 20 = .ok (.invokestatic 58, 3) := by decide +kernel
theorem dX12_minutesUntilCheese_23 : decode cX12_minutesUntilCheese 23 = .ok (.iconst 0, 1) := by decide +kernel
theorem dX12_minutesUntilCheese_24 : decode cX12_minutesUntilCheese 24 = .ok (.istore_n 2, 1) := by decide +kernel
theorem dX12_minutesUntilCheese_25 : decode cX12_minutesUntilCheese 25 = .ok (.iload_n 2, 1) := by decide +kernel
theorem dX12_minutesUntilCheese_26 : decode cX12_minutesUntilCheese 26 = .ok (.bipush 20, 2) := by decide +kernel
theorem dX12_minutesUntilCheese_28 : decode cX12_minutesUntilCheese 28 = .ok (.if_icmp .gt 46, 3) := by decide +kernel
theorem dX12_minutesUntilCheese_31 : decode cX12_minutesUntilCheese 31 = .ok (.aload_n 0, 1) := by decide +kernel
theorem dX12_minutesUntilCheese_32 : decode cX12_minutesUntilCheese 32 = .ok (.getfield 16, 3) := by decide +kernel
theorem dX12_minutesUntilCheese_35 : decode cX12_minutesUntilCheese 35 = .ok (.aload_n 0, 1) := by decide +kernel
theorem dX12_minutesUntilCheese_36 : decode cX12_minutesUntilCheese 36 = .ok (.getfield 16, 3) := by decide +kernel
theorem dX12_minutesUntilCheese_39 : decode cX12_minutesUntilCheese 39 = .ok (.iload_n 1, 1) := by decide +kernel
theorem dX12_minutesUntilCheese_40 : decode cX12_minutesUntilCheese 40 = .ok (.invokestatic 226, 3) := by decide +kernel
theorem dX12_minutesUntilCheese_43 : decode cX12_minutesUntilCheese 43 = .ok (.invokestatic 292, 3) := by decide +kernel
theorem dX12_minutesUntilCheese_46 : decode cX12_minutesUntilCheese 46 = .ok (.ifCond .ne 5, 3) := by decide +kernel
theorem dX12_minutesUntilCheese_49 : decode cX12_minutesUntilCheese 49 = .ok (.iload_n 2, 1) := by decide +kernel
theorem dX12_minutesUntilCheese_50 : decode cX12_minutesUntilCheese 50 = .ok (.ireturn, 1) := by decide +kernel
theorem dX12_minutesUntilCheese_51 : decode cX12_minutesUntilCheese 51 = .ok (.aload_n 0, 1) := by decide +kernel
theorem dX12_minutesUntilCheese_52 : decode cX12_minutesUntilCheese 52 = .ok (.getfield 16, 3) := by decide +kernel
theorem dX12_minutesUntilCheese_55 : decode cX12_minutesUntilCheese 55 = .ok (.iconst 0, 1) := by decide +kernel
theorem dX12_minutesUntilCheese_56 : decode cX12_minutesUntilCheese 56 = .ok (.dup2, 1) := by decide +kernel
theorem dX12_minutesUntilCheese_57 : decode cX12_minutesUntilCheese 57 = .ok (.iaload, 1) := by decide +kernel
theorem dX12_minutesUntilCheese_58 : decode cX12_minutesUntilCheese 58 = .ok (.iconst 1, 1) := by decide +kernel
theorem dX12_minutesUntilCheese_59 : decode cX12_minutesUntilCheese 59 = .ok (.iadd, 1) := by decide +kernel
theorem dX12_minutesUntilCheese_60 : decode cX12_minutesUntilCheese 60 = .ok (.iastore, 1) := by decide +kernel
theorem dX12_minutesUntilCheese_61 : decode cX12_minutesUntilCheese 61 = .ok (.aload_n 0, 1) := by decide +kernel
theorem dX12_minutesUntilCheese_62 : decode cX12_minutesUntilCheese 62 = .ok (.getfield 16, 3) := by decide +kernel
theorem dX12_minutesUntilCheese_65 : decode cX12_minutesUntilCheese 65 = .ok (.invokestatic 148, 3) := by decide +kernel
theorem dX12_minutesUntilCheese_68 : decode cX12_minutesUntilCheese 68 = .ok (.iinc 2 1, 3) := by decide +kernel
theorem dX12_minutesUntilCheese_71 : decode cX12_minutesUntilCheese 71 = .ok (.goto (-46), 3) := by decide +kernel
theorem dX12_minutesUntilCheese_74 : decode cX12_minutesUntilCheese 74 = .ok (.iconst (-1), 1) := by decide +kernel
theorem dX12_minutesUntilCheese_75 : decode cX12_minutesUntilCheese 75 = .ok (.ireturn, 1) := by decide +kernel
set_option maxRecDepth 20000 in
theorem ggX12_bestTicket_X12_noUser : GoodIn wsX12_bestTicket wsX12_noUser := goodIn_r _ [6, 1, 7, 8, 9, 5, 10, 11, 12, 13, 14, 15, 16, 17, 18, 29, 30, 31, 32, 33, 34, 35, 36, 37, 38, 39, 40, 41, 42, 43, 44, 45, 46, 47, 48, 49, 50] (by decide +kernel) (by decide +kernel)
set_option maxRecDepth 20000 in
theorem gX12_bestTicket_X12_noUser : GoodIn wsX12_bestTicket (wsV RX12 388 RX12 yX12_noUser wsX12_noUser) := goodIn_app (goodIn_of _ (by decide +kernel)) ggX12_bestTicket_X12_noUser
set_option maxRecDepth 20000 in
theorem ggX12_bestTicket_X12_noService : GoodIn wsX12_bestTicket wsX12_noService := goodIn_r _ [22, 1, 7, 8, 9, 5, 10, 11, 12, 13, 14, 15, 16, 17, 18, 29, 30, 31, 32, 33, 34, 35, 36, 37, 38, 39, 40, 41, 42, 43, 44, 45, 46, 47, 48, 49, 50] (by decide +kernel) (by decide +kernel)
set_option maxRecDepth 20000 in
theorem gX12_bestTicket_X12_noService : GoodIn wsX12_bestTicket (wsV RX12 391 RX12 yX12_noService wsX12_noService) := goodIn_app (goodIn_of _ (by decide +kernel)) ggX12_bestTicket_X12_noService
set_option maxRecDepth 20000 in
theorem ggX12_bestTicket_X12_ofTicket : GoodIn wsX12_bestTicket wsX12_ofTicket := goodIn_r _ [25] (by decide +kernel) (by decide +kernel)
set_option maxRecDepth 20000 in
theorem gX12_bestTicket_X12_ofTicket : GoodIn wsX12_bestTicket (va_wsS RX12 98 yX12_ofTicket wsX12_ofTicket) := goodIn_app (goodIn_of _ (by decide +kernel)) ggX12_bestTicket_X12_ofTicket
set_option maxRecDepth 20000 in
theorem ggX12_bestTicket_X12_lives : GoodIn wsX12_bestTicket wsX12_lives := goodIn_r _ [28, 23, 24, 5, 25] (by decide +kernel) (by decide +kernel)
set_option maxRecDepth 20000 in
theorem gX12_bestTicket_X12_lives : GoodIn wsX12_bestTicket (va_wsS RX12 101 yX12_lives wsX12_lives) := goodIn_app (goodIn_of _ (by decide +kernel)) ggX12_bestTicket_X12_lives
theorem dX12_bestTicket_0 : decode cX12_bestTicket 0 = .ok (.aload_n 0, 1) := by decide +kernel
theorem dX12_bestTicket_1 : decode cX12_bestTicket 1 = .ok (.iload_n 1, 1) := by decide +kernel
theorem dX12_bestTicket_2 : decode cX12_bestTicket 2 = .ok (.invokevirtual 388, 3) := by decide +kernel
theorem dX12_bestTicket_5 : decode cX12_bestTicket 5 = .ok (.ifCond .ne 11, 3) := by decide +kernel
theorem dX12_bestTicket_8 : decode cX12_bestTicket 8 = .ok (.aload_n 0, 1) := by decide +kernel
theorem dX12_bestTicket_9 : decode cX12_bestTicket 9 = .ok (.iload_n 2, 1) := by decide +kernel
theorem dX12_bestTicket_10 : decode cX12_bestTicket 10 = .ok (.invokevirtual 391, 3) := by decide +kernel
theorem dX12_bestTicket_13 : decode cX12_bestTicket 13 = .ok (.ifCond .eq 5, 3) := by decide +kernel
theorem dX12_bestTicket_16 : decode cX12_bestTicket 16 = .ok (.iconst 0, 1) := by decide +kernel
theorem dX12_bestTicket_17 : decode cX12_bestTicket 17 = .ok (.ireturn, 1) := by decide +kernel
theorem dX12_bestTicket_18 : decode cX12_bestTicket 18 = .ok (.iconst (-1), 1) := by decide +kernel
theorem dX12_bestTicket_19 : decode cX12_bestTicket 19 = .ok (.istore_n 3, 1) := by decide +kernel
theorem dX12_bestTicket_20 : decode cX12_bestTicket 20 = .ok (.iconst 0, 1) := by decide +kernel
theorem dX12_bestTicket_21 : decode cX12_bestTicket 21 = .ok (.istore 4, 2) := by decide +kernel
theorem dX12_bestTicket_23 : decode cX12_bestTicket 23 = .ok (.iload 4, 2) := by decide +kernel
theorem dX12_bestTicket_25 : decode cX12_bestTicket 25 = .ok (.aload_n 0, 1) := by decide +kernel
theorem dX12_bestTicket_26 : decode cX12_bestTicket 26 = .ok (.getfield 7, 3) := by decide +kernel
theorem dX12_bestTicket_29 : decode cX12_bestTicket 29 = .ok (.bipush 6, 2) := by decide +kernel
theorem dX12_bestTicket_31 : decode cX12_bestTicket 31 = .ok (.iaload, 1) := by decide +kernel
theorem dX12_bestTicket_32 : decode cX12_bestTicket 32 = .ok (.if_icmp .ge 116, 3) := by decide +kernel
theorem dX12_bestTicket_35 : decode cX12_bestTicket 35 = .ok (.iload 4, 2) := by decide +kernel
theorem dX12_bestTicket_37 : decode cX12_bestTicket 37 = .ok (.invokestatic 98, 3) := by decide +kernel
theorem dX12_bestTicket_40 : decode cX12_bestTicket 40 = .ok (.istore 5, 2) := by decide +kernel
theorem dX12_bestTicket_42 : decode cX12_bestTicket 42 = .ok (.aload_n 0, 1) := by decide +kernel
theorem dX12_bestTicket_43 : decode cX12_bestTicket 43 = .ok (.getfield 7, 3) := by decide +kernel
theorem dX12_bestTicket_46 : decode cX12_bestTicket 46 = .ok (.iload 5, 2) := by decide +kernel
theorem dX12_bestTicket_48 : decode cX12_bestTicket 48 = .ok (.iconst 1, 1) := by decide +kernel
theorem dX12_bestTicket_49 : decode cX12_bestTicket 49 = .ok (.iadd, 1) := by decide +kernel
theorem dX12_bestTicket_50 : decode cX12_bestTicket 50 = .ok (.iaload, 1) := by decide +kernel
theorem dX12_bestTicket_51 : decode cX12_bestTicket 51 = .ok (.iconst 1, 1) := by decide +kernel
theorem dX12_bestTicket_52 : decode cX12_bestTicket 52 = .ok (.if_icmp .ne 45, 3) := by decide +kernel
theorem dX12_bestTicket_55 : decode cX12_bestTicket 55 = .ok (.aload_n 0, 1) := by decide +kernel
theorem dX12_bestTicket_56 : decode cX12_bestTicket 56 = .ok (.getfield 7, 3) := by decide +kernel
theorem dX12_bestTicket_59 : decode cX12_bestTicket 59 = .ok (.iload 5, 2) := by decide +kernel
theorem dX12_bestTicket_61 : decode cX12_bestTicket 61 = .ok (.iconst 2, 1) := by decide +kernel
theorem dX12_bestTicket_62 : decode cX12_bestTicket 62 = .ok (.iadd, 1) := by decide +kernel
theorem dX12_bestTicket_63 : decode cX12_bestTicket 63 = .ok (.iaload, 1) := by decide +kernel
theorem dX12_bestTicket_64 : decode cX12_bestTicket 64 = .ok (.iload_n 1, 1) := by decide +kernel
theorem dX12_bestTicket_65 : decode cX12_bestTicket 65 = .ok (.if_icmp .ne 32, 3) := by decide +kernel
theorem dX12_bestTicket_68 : decode cX12_bestTicket 68 = .ok (.aload_n 0, 1) := by decide +kernel
theorem dX12_bestTicket_69 : decode cX12_bestTicket 69 = .ok (.getfield 7, 3) := by decide +kernel
theorem dX12_bestTicket_72 : decode cX12_bestTicket 72 = .ok (.iload 5, 2) := by decide +kernel
theorem dX12_bestTicket_74 : decode cX12_bestTicket 74 = .ok (.iconst 4, 1) := by decide +kernel
theorem dX12_bestTicket_75 : decode cX12_bestTicket 75 = .ok (.iadd, 1) := by decide +kernel
theorem dX12_bestTicket_76 : decode cX12_bestTicket 76 = .ok (.iaload, 1) := by decide +kernel
theorem dX12_bestTicket_77 : decode cX12_bestTicket 77 = .ok (.iload_n 2, 1) := by decide +kernel
theorem dX12_bestTicket_78 : decode cX12_bestTicket 78 = .ok (.if_icmp .ne 19, 3) := by decide +kernel
theorem dX12_bestTicket_81 : decode cX12_bestTicket 81 = .ok (.aload_n 0, 1) := by decide +kernel
theorem dX12_bestTicket_82 : decode cX12_bestTicket 82 = .ok (.getfield 7, 3) := by decide +kernel
theorem dX12_bestTicket_85 : decode cX12_bestTicket 85 = .ok (.iload 4, 2) := by decide +kernel
theorem dX12_bestTicket_87 : decode cX12_bestTicket 87 = .ok (.invokestatic 101, 3) := by decide +kernel
theorem dX12_bestTicket_90 : decode cX12_bestTicket 90 = .ok (.ifCond .eq 7, 3) := by decide +kernel
theorem dX12_bestTicket_93 : decode cX12_bestTicket 93 = .ok (.iconst 1, 1) := by decide +kernel
theorem dX12_bestTicket_94 : decode cX12_bestTicket 94 = .ok (.goto 4, 3) := by decide +kernel
theorem dX12_bestTicket_97 : decode cX12_bestTicket 97 = .ok (.iconst 0, 1) := by decide +kernel
theorem dX12_bestTicket_98 : decode cX12_bestTicket 98 = .ok (.istore 6, 2) := by decide +kernel
theorem dX12_bestTicket_100 : decode cX12_bestTicket 100 = .ok (.iload 6, 2) := by decide +kernel
theorem dX12_bestTicket_102 : decode cX12_bestTicket 102 = .ok (.ifCond .eq 38, 3) := by decide +kernel
theorem dX12_bestTicket_105 : decode cX12_bestTicket 105 = .ok (.iload_n 3, 1) := by decide +kernel
theorem dX12_bestTicket_106 : decode cX12_bestTicket 106 = .ok (.iconst (-1), 1) := by decide +kernel
theorem dX12_bestTicket_107 : decode cX12_bestTicket 107 = .ok (.if_icmp .eq 28, 3) := by decide +kernel
theorem dX12_bestTicket_110 : decode cX12_bestTicket 110 = .ok (.aload_n 0, 1) := by decide +kernel
theorem dX12_bestTicket_111 : decode cX12_bestTicket 111 = .ok (.getfield 7, 3) := by decide +kernel
theorem dX12_bestTicket_114 : decode cX12_bestTicket 114 = .ok (.iload 5, 2) := by decide +kernel
theorem dX12_bestTicket_116 : decode cX12_bestTicket 116 = .ok (.bipush 6, 2) := by decide +kernel
theorem dX12_bestTicket_118 : decode cX12_bestTicket 118 = .ok (.iadd, 1) := by decide +kernel
theorem dX12_bestTicket_119 : decode cX12_bestTicket 119 = .ok (.iaload, 1) := by decide +kernel
theorem dX12_bestTicket_120 : decode cX12_bestTicket 120 = .ok (.aload_n 0, 1) := by decide +kernel
theorem dX12_bestTicket_121 : decode cX12_bestTicket 121 = .ok (.getfield 7, 3) := by decide +kernel
theorem dX12_bestTicket_124 : decode cX12_bestTicket 124 = .ok (.iload_n 3, 1) := by decide +kernel
theorem dX12_bestTicket_125 : decode cX12_bestTicket 125 = .ok (.invokestatic 98, 3) := by decide +kernel
theorem dX12_bestTicket_128 : decode cX12_bestTicket 128 = .ok (.bipush 6, 2) := by decide +kernel
theorem dX12_bestTicket_130 : decode cX12_bestTicket 130 = .ok (.iadd, 1) := by decide +kernel
theorem dX12_bestTicket_131 : decode cX12_bestTicket 131 = .ok (.iaload, 1) := by decide +kernel
theorem dX12_bestTicket_132 : decode cX12_bestTicket 132 = .ok (.if_icmp .le 8, 3) := by decide +kernel
theorem dX12_bestTicket_135 : decode cX12_bestTicket 135 = .ok (.iload 4, 2) := by decide +kernel
theorem dX12_bestTicket_137 : decode cX12_bestTicket 137 = .ok (.goto 4, 3) := by decide +kernel
theorem dX12_bestTicket_140 : decode cX12_bestTicket 140 = .ok (.iload_n 3, 1) := by decide +kernel
theorem dX12_bestTicket_141 : decode cX12_bestTicket 141 = .ok (.istore_n 3, 1) := by decide +kernel
theorem dX12_bestTicket_142 : decode cX12_bestTicket 142 = .ok (.iinc 4 1, 3) := by decide +kernel
theorem dX12_bestTicket_145 : decode cX12_bestTicket 145 = .ok (.goto (-122), 3) := by decide +kernel
theorem dX12_bestTicket_148 : decode cX12_bestTicket 148 = .ok (.iload_n 3, 1) := by decide +kernel
theorem dX12_bestTicket_149 : decode cX12_bestTicket 149 = .ok (.iconst (-1), 1) := by decide +kernel
theorem dX12_bestTicket_150 : decode cX12_bestTicket 150 = .ok (.if_icmp .ne 7, 3) := by decide +kernel
theorem dX12_bestTicket_153 : decode cX12_bestTicket 153 = .ok (.iconst (-1), 1) := by decide +kernel
theorem dX12_bestTicket_154 : decode cX12_bestTicket 154 = .ok (.goto 14, 3) := by decide +kernel
theorem dX12_bestTicket_157 : decode cX12_bestTicket 157 = .ok (.aload_n 0, 1) := by decide +kernel
theorem dX12_bestTicket_158 : decode cX12_bestTicket 158 = .ok (.getfield 7, 3) := by decide +kernel
theorem dX12_bestTicket_161 : decode cX12_bestTicket 161 = .ok (.iload_n 3, 1) := by decide +kernel
theorem dX12_bestTicket_162 : decode cX12_bestTicket 162 = .ok (.invokestatic 98, 3) := by decide +kernel
theorem dX12_bestTicket_165 : decode cX12_bestTicket 165 = .ok (.iconst 0, 1) := by decide +kernel
theorem dX12_bestTicket_166 : decode cX12_bestTicket 166 = .ok (.iadd, 1) := by decide +kernel
theorem dX12_bestTicket_167 : decode cX12_bestTicket 167 = .ok (.iaload, 1) := by decide +kernel
theorem dX12_bestTicket_168 : decode cX12_bestTicket 168 = .ok (.ireturn, 1) := by decide +kernel
theorem dX12_useCount_0 : decode cX12_useCount 0 = .ok (.aload_n 0, 1) := by decide +kernel
theorem dX12_useCount_1 : decode cX12_useCount 1 = .ok (.iconst 0, 1) := by decide +kernel
theorem dX12_useCount_2 : decode cX12_useCount 2 = .ok (.putfield 72, 3) := by decide +kernel
theorem dX12_useCount_5 : decode cX12_useCount 5 = .ok (.aload_n 0, 1) := by decide +kernel
theorem dX12_useCount_6 : decode cX12_useCount 6 = .ok (.getfield 7, 3) := by decide +kernel
theorem dX12_useCount_9 : decode cX12_useCount 9 = .ok (.bipush 8, 2) := by decide +kernel
theorem dX12_useCount_11 : decode cX12_useCount 11 = .ok (.iaload, 1) := by decide +kernel
theorem dX12_useCount_12 : decode cX12_useCount 12 = .ok (.ireturn, 1) := by decide +kernel
set_option maxRecDepth 20000 in
theorem ggX12_cheeseDifference_X12_ofService : GoodIn wsX12_cheeseDifference wsX12_ofService := goodIn_r _ [6] (by decide +kernel) (by decide +kernel)
set_option maxRecDepth 20000 in
theorem gX12_cheeseDifference_X12_ofService : GoodIn wsX12_cheeseDifference (va_wsS RX12 122 yX12_ofService wsX12_ofService) := goodIn_app (goodIn_of _ (by decide +kernel)) ggX12_cheeseDifference_X12_ofService
set_option maxRecDepth 20000 in
theorem ggX12_cheeseDifference_X12_ofUser : GoodIn wsX12_cheeseDifference wsX12_ofUser := goodIn_r _ [9] (by decide +kernel) (by decide +kernel)
set_option maxRecDepth 20000 in
theorem gX12_cheeseDifference_X12_ofUser : GoodIn wsX12_cheeseDifference (va_wsS RX12 87 yX12_ofUser wsX12_ofUser) := goodIn_app (goodIn_of _ (by decide +kernel)) ggX12_cheeseDifference_X12_ofUser
theorem dX12_cheeseDifference_0 : decode cX12_cheeseDifference 0 = .ok (.aload_n 0, 1) := by decide +kernel
theorem dX12_cheeseDifference_1 : decode cX12_cheeseDifference 1 = .ok (.iconst 0, 1) := by decide +kernel
theorem dX12_cheeseDifference_2 : decode cX12_cheeseDifference 2 = .ok (.putfield 72, 3) := by decide +kernel
theorem dX12_cheeseDifference_5 : decode cX12_cheeseDifference 5 = .ok (.aload_n 0, 1) := by decide +kernel
theorem dX12_cheeseDifference_6 : decode cX12_cheeseDifference 6 = .ok (.getfield 7, 3) := by decide +kernel
theorem dX12_cheeseDifference_9 : decode cX12_cheeseDifference 9 = .ok (.bipush 9, 2) := by decide +kernel
theorem dX12_cheeseDifference_11 : decode cX12_cheeseDifference 11 = .ok (.iaload, 1) := by decide +kernel
theorem dX12_cheeseDifference_12 : decode cX12_cheeseDifference 12 = .ok (.istore_n 1, 1) := by decide +kernel
theorem dX12_cheeseDifference_13 : decode cX12_cheeseDifference 13 = .ok (.iconst 0, 1) := by decide +kernel
theorem dX12_cheeseDifference_14 : decode cX12_cheeseDifference 14 = .ok (.istore_n 2, 1) := by decide +kernel
theorem dX12_cheeseDifference_15 : decode cX12_cheeseDifference 15 = .ok (.iload_n 2, 1) := by decide +kernel
theorem dX12_cheeseDifference_16 : decode cX12_cheeseDifference 16 = .ok (.aload_n 0, 1) := by decide +kernel
theorem dX12_cheeseDifference_17 : decode cX12_cheeseDifference 17 = .ok (.getfield 7, 3) := by decide +kernel
theorem dX12_cheeseDifference_20 : decode cX12_cheeseDifference 20 = .ok (.iconst 5, 1) := by decide +kernel
theorem dX12_cheeseDifference_21 : decode cX12_cheeseDifference 21 = .ok (.iaload, 1) := by decide +kernel
theorem dX12_cheeseDifference_22 : decode cX12_cheeseDifference 22 = .ok (.if_icmp .ge 23, 3) := by decide +kernel
theorem dX12_cheeseDifference_25 : decode cX12_cheeseDifference 25 = .ok (.iload_n 1, 1) := by decide +kernel
theorem dX12_cheeseDifference_26 : decode cX12_cheeseDifference 26 = .ok (.aload_n 0, 1) := by decide +kernel
theorem dX12_cheeseDifference_27 : decode cX12_cheeseDifference 27 = .ok (.getfield 7, 3) := by decide +kernel
theorem dX12_cheeseDifference_30 : decode cX12_cheeseDifference 30 = .ok (.iload_n 2, 1) := by decide +kernel
theorem dX12_cheeseDifference_31 : decode cX12_cheeseDifference 31 = .ok (.invokestatic 122, 3) := by decide +kernel
theorem dX12_cheeseDifference_34 : decode cX12_cheeseDifference 34 = .ok (.iconst 2, 1) := by decide +kernel
theorem dX12_cheeseDifference_35 : decode cX12_cheeseDifference 35 = .ok (.iadd, 1) := by decide +kernel
theorem dX12_cheeseDifference_36 : decode cX12_cheeseDifference 36 = .ok (.iaload, 1) := by decide +kernel
theorem dX12_cheeseDifference_37 : decode cX12_cheeseDifference 37 = .ok (.isub, 1) := by decide +kernel
theorem dX12_cheeseDifference_38 : decode cX12_cheeseDifference 38 = .ok (.istore_n 1, 1) := by decide +kernel
theorem dX12_cheeseDifference_39 : decode cX12_cheeseDifference 39 = .ok (.iinc 2 1, 3) := by decide +kernel
theorem dX12_cheeseDifference_42 : decode cX12_cheeseDifference 42 = .ok (.goto (-27), 3) := by decide +kernel
theorem dX12_cheeseDifference_45 : decode cX12_cheeseDifference 45 = .ok (.iconst 0, 1) := by decide +kernel
theorem dX12_cheeseDifference_46 : decode cX12_cheeseDifference 46 = .ok (.istore_n 2, 1) := by decide +kernel
theorem dX12_cheeseDifference_47 : decode cX12_cheeseDifference 47 = .ok (.iload_n 2, 1) := by decide +kernel
theorem dX12_cheeseDifference_48 : decode cX12_cheeseDifference 48 = .ok (.aload_n 0, 1) := by decide +kernel
theorem dX12_cheeseDifference_49 : decode cX12_cheeseDifference 49 = .ok (.getfield 7, 3) := by decide +kernel
theorem dX12_cheeseDifference_52 : decode cX12_cheeseDifference 52 = .ok (.iconst 4, 1) := by decide +kernel
theorem dX12_cheeseDifference_53 : decode cX12_cheeseDifference 53 = .ok (.iaload, 1) := by decide +kernel
theorem dX12_cheeseDifference_54 : decode cX12_cheeseDifference 54 = .ok (.if_icmp .ge 23, 3) := by decide +kernel
theorem dX12_cheeseDifference_57 : decode cX12_cheeseDifference 57 = .ok (.iload_n 1, 1) := by decide +kernel
theorem dX12_cheeseDifference_58 : decode cX12_cheeseDifference 58 = .ok (.aload_n 0, 1) := by decide +kernel
theorem dX12_cheeseDifference_59 : decode cX12_cheeseDifference 59 = .ok (.getfield 7, 3) := by decide +kernel
theorem dX12_cheeseDifference_62 : decode cX12_cheeseDifference 62 = .ok (.iload_n 2, 1) := by decide +kernel
theorem dX12_cheeseDifference_63 : decode cX12_cheeseDifference 63 = .ok (.invokestatic 87, 3) := by decide +kernel
theorem dX12_cheeseDifference_66 : decode cX12_cheeseDifference 66 = .ok (.iconst 4, 1) := by decide +kernel
theorem dX12_cheeseDifference_67 : decode cX12_cheeseDifference 67 = .ok (.iadd, 1) := by decide +kernel
theorem dX12_cheeseDifference_68 : decode cX12_cheeseDifference 68 = .ok (.iaload, 1) := by decide +kernel
theorem dX12_cheeseDifference_69 : decode cX12_cheeseDifference 69 = .ok (.isub, 1) := by decide +kernel
theorem dX12_cheeseDifference_70 : decode cX12_cheeseDifference 70 = .ok (.istore_n 1, 1) := by decide +kernel
theorem dX12_cheeseDifference_71 : decode cX12_cheeseDifference 71 = .ok (.iinc 2 1, 3) := by decide +kernel
theorem dX12_cheeseDifference_74 : decode cX12_cheeseDifference 74 = .ok (.goto (-27), 3) := by decide +kernel
theorem dX12_cheeseDifference_77 : decode cX12_cheeseDifference 77 = .ok (.iload_n 1, 1) := by decide +kernel
theorem dX12_cheeseDifference_78 : decode cX12_cheeseDifference 78 = .ok (.ireturn, 1) := by decide +kernel
set_option maxRecDepth 20000 in
theorem ggX12_lifeErrors_X12_ofTicket : GoodIn wsX12_lifeErrors wsX12_ofTicket := goodIn_r _ [6] (by decide +kernel) (by decide +kernel)
set_option maxRecDepth 20000 in
theorem gX12_lifeErrors_X12_ofTicket : GoodIn wsX12_lifeErrors (va_wsS RX12 98 yX12_ofTicket wsX12_ofTicket) := goodIn_app (goodIn_of _ (by decide +kernel)) ggX12_lifeErrors_X12_ofTicket
theorem dX12_lifeErrors_0 : decode cX12_lifeErrors 0 = .ok (.aload_n 0, 1) := by decide +kernel
theorem dX12_lifeErrors_1 : decode cX12_lifeErrors 1 = .ok (.iconst 0, 1) := by decide +kernel
theorem dX12_lifeErrors_2 : decode cX12_lifeErrors 2 = .ok (.putfield 72, 3) := by decide +kernel
theorem dX12_lifeErrors_5 : decode cX12_lifeErrors 5 = .ok (.iconst 0, 1) := by decide +kernel
theorem dX12_lifeErrors_6 : decode cX12_lifeErrors 6 = .ok (.istore_n 1, 1) := by decide +kernel
theorem dX12_lifeErrors_7 : decode cX12_lifeErrors 7 = .ok (.iconst 0, 1) := by decide +kernel
theorem dX12_lifeErrors_8 : decode cX12_lifeErrors 8 = .ok (.istore_n 2, 1) := by decide +kernel
theorem dX12_lifeErrors_9 : decode cX12_lifeErrors 9 = .ok (.iload_n 2, 1) := by decide +kernel
theorem dX12_lifeErrors_10 : decode cX12_lifeErrors 10 = .ok (.aload_n 0, 1) := by decide +kernel
theorem dX12_lifeErrors_11 : decode cX12_lifeErrors 11 = .ok (.getfield 7, 3) := by decide +kernel
theorem dX12_lifeErrors_14 : decode cX12_lifeErrors 14 = .ok (.bipush 6, 2) := by decide +kernel
theorem dX12_lifeErrors_16 : decode cX12_lifeErrors 16 = .ok (.iaload, 1) := by decide +kernel
theorem dX12_lifeErrors_17 : decode cX12_lifeErrors 17 = .ok (.if_icmp .ge 63, 3) := by decide +kernel
theorem dX12_lifeErrors_20 : decode cX12_lifeErrors 20 = .ok (.iload_n 2, 1) := by decide +kernel
theorem dX12_lifeErrors_21 : decode cX12_lifeErrors 21 = .ok (.invokestatic 98, 3) := by decide +kernel
theorem dX12_lifeErrors_24 : decode cX12_lifeErrors 24 = .ok (.istore_n 3, 1) := by decide +kernel
theorem dX12_lifeErrors_25 : decode cX12_lifeErrors 25 = .ok (.iload_n 1, 1) := by decide +kernel
theorem dX12_lifeErrors_26 : decode cX12_lifeErrors 26 = .ok (.aload_n 0, 1) := by decide +kernel
theorem dX12_lifeErrors_27 : decode cX12_lifeErrors 27 = .ok (.getfield 7, 3) := by decide +kernel
theorem dX12_lifeErrors_30 : decode cX12_lifeErrors 30 = .ok (.iload_n 3, 1) := by decide +kernel
theorem dX12_lifeErrors_31 : decode cX12_lifeErrors 31 = .ok (.iconst 5, 1) := by decide +kernel
theorem dX12_lifeErrors_32 : decode cX12_lifeErrors 32 = .ok (.iadd, 1) := by decide +kernel
theorem dX12_lifeErrors_33 : decode cX12_lifeErrors 33 = .ok (.iaload, 1) := by decide +kernel
theorem dX12_lifeErrors_34 : decode cX12_lifeErrors 34 = .ok (.aload_n 0, 1) := by decide +kernel
theorem dX12_lifeErrors_35 : decode cX12_lifeErrors 35 = .ok (.getfield 7, 3) := by decide +kernel
theorem dX12_lifeErrors_38 : decode cX12_lifeErrors 38 = .ok (.iload_n 3, 1) := by decide +kernel
theorem dX12_lifeErrors_39 : decode cX12_lifeErrors 39 = .ok (.bipush 6, 2) := by decide +kernel
theorem dX12_lifeErrors_41 : decode cX12_lifeErrors 41 = .ok (.iadd, 1) := by decide +kernel
theorem dX12_lifeErrors_42 : decode cX12_lifeErrors 42 = .ok (.iaload, 1) := by decide +kernel
theorem dX12_lifeErrors_43 : decode cX12_lifeErrors 43 = .ok (.if_icmp .ge 24, 3) := by decide +kernel
theorem dX12_lifeErrors_46 : decode cX12_lifeErrors 46 = .ok (.aload_n 0, 1) := by decide +kernel
theorem dX12_lifeErrors_47 : decode cX12_lifeErrors 47 = .ok (.getfield 7, 3) := by decide +kernel
theorem dX12_lifeErrors_50 : decode cX12_lifeErrors 50 = .ok (.iload_n 3, 1) := by decide +kernel
theorem dX12_lifeErrors_51 : decode cX12_lifeErrors 51 = .ok (.bipush 6, 2) := by decide +kernel
theorem dX12_lifeErrors_53 : decode cX12_lifeErrors 53 = .ok (.iadd, 1) := by decide +kernel
theorem dX12_lifeErrors_54 : decode cX12_lifeErrors 54 = .ok (.iaload, 1) := by decide +kernel
theorem dX12_lifeErrors_55 : decode cX12_lifeErrors 55 = .ok (.aload_n 0, 1) := by decide +kernel
theorem dX12_lifeErrors_56 : decode cX12_lifeErrors 56 = .ok (.getfield 7, 3) := by decide +kernel
theorem dX12_lifeErrors_59 : decode cX12_lifeErrors 59 = .ok (.iload_n 3, 1) := by decide +kernel
theorem dX12_lifeErrors_60 : decode cX12_lifeErrors 60 = .ok (.bipush 7, 2) := by decide +kernel
theorem dX12_lifeErrors_62 : decode cX12_lifeErrors 62 = .ok (.iadd, 1) := by decide +kernel
theorem dX12_lifeErrors_63 : decode cX12_lifeErrors 63 = .ok (.iaload, 1) := by decide +kernel
theorem dX12_lifeErrors_64 : decode cX12_lifeErrors 64 = .ok (.if_icmp .le 7, 3) := by decide +kernel
theorem dX12_lifeErrors_67 : decode cX12_lifeErrors 67 = .ok (.iconst 1, 1) := by decide +kernel
theorem dX12_lifeErrors_68 : decode cX12_lifeErrors 68 = .ok (.goto 4, 3) := by decide +kernel
theorem dX12_lifeErrors_71 : decode cX12_lifeErrors 71 = .ok (.iconst 0, 1) := by decide +kernel
theorem dX12_lifeErrors_72 : decode cX12_lifeErrors 72 = .ok (.iadd, 1) := by decide +kernel
theorem dX12_lifeErrors_73 : decode cX12_lifeErrors 73 = .ok (.istore_n 1, 1) := by decide +kernel
theorem dX12_lifeErrors_74 : decode cX12_lifeErrors 74 = .ok (.iinc 2 1, 3) := by decide +kernel
theorem dX12_lifeErrors_77 : decode cX12_lifeErrors 77 = .ok (.goto (-68), 3) := by decide +kernel
theorem dX12_lifeErrors_80 : decode cX12_lifeErrors 80 = .ok (.iload_n 1, 1) := by decide +kernel
theorem dX12_lifeErrors_81 : decode cX12_lifeErrors 81 = .ok (.ireturn, 1) := by decide +kernel
set_option maxRecDepth 20000 in
theorem ggX12_goHalfway_X12_trusted : GoodIn wsX12_goHalfway wsX12_trusted := goodIn_r _ [6] (by decide +kernel) (by decide +kernel)
set_option maxRecDepth 20000 in
theorem gX12_goHalfway_X12_trusted : GoodIn wsX12_goHalfway (va_wsS RX12 75 yX12_trusted wsX12_trusted) := goodIn_app (goodIn_of _ (by decide +kernel)) ggX12_goHalfway_X12_trusted
set_option maxRecDepth 20000 in
theorem ggX12_goHalfway_X12_lesser : GoodIn wsX12_goHalfway wsX12_lesser := goodIn_r _ [9] (by decide +kernel) (by decide +kernel)
set_option maxRecDepth 20000 in
theorem gX12_goHalfway_X12_lesser : GoodIn wsX12_goHalfway (va_wsS RX12 79 yX12_lesser wsX12_lesser) := goodIn_app (goodIn_of _ (by decide +kernel)) ggX12_goHalfway_X12_lesser
theorem dX12_goHalfway_0 : decode cX12_goHalfway 0 = .ok (.iconst 0, 1) := by decide +kernel
theorem dX12_goHalfway_1 : decode cX12_goHalfway 1 = .ok (.istore_n 1, 1) := by decide +kernel
theorem dX12_goHalfway_2 : decode cX12_goHalfway 2 = .ok (.iload_n 1, 1) := by decide +kernel
theorem dX12_goHalfway_3 : decode cX12_goHalfway 3 = .ok (.aload_n 0, 1) := by decide +kernel
theorem dX12_goHalfway_4 : decode cX12_goHalfway 4 = .ok (.getfield 7, 3) := by decide +kernel
theorem dX12_goHalfway_7 : decode cX12_goHalfway 7 = .ok (.iconst 3, 1) := by decide +kernel
theorem dX12_goHalfway_8 : decode cX12_goHalfway 8 = .ok (.iaload, 1) := by decide +kernel
theorem dX12_goHalfway_9 : decode cX12_goHalfway 9 = .ok (.if_icmp .ge 64, 3) := by decide +kernel
theorem dX12_goHalfway_12 : decode cX12_goHalfway 12 = .ok (.iconst 0, 1) := by decide +kernel
theorem dX12_goHalfway_13 : decode cX12_goHalfway 13 = .ok (.istore_n 2, 1) := by decide +kernel
theorem dX12_goHalfway_14 : decode cX12_goHalfway 14 = .ok (.iload_n 2, 1) := by decide +kernel
theorem dX12_goHalfway_15 : decode cX12_goHalfway 15 = .ok (.aload_n 0, 1) := by decide +kernel
theorem dX12_goHalfway_16 : decode cX12_goHalfway 16 = .ok (.getfield 7, 3) := by decide +kernel
theorem dX12_goHalfway_19 : decode cX12_goHalfway 19 = .ok (.iconst 3, 1) := by decide +kernel
theorem dX12_goHalfway_20 : decode cX12_goHalfway 20 = .ok (.iaload, 1) := by decide +kernel
theorem dX12_goHalfway_21 : decode cX12_goHalfway 21 = .ok (.if_icmp .ge 46, 3) := by decide +kernel
theorem dX12_goHalfway_24 : decode cX12_goHalfway 24 = .ok (.aload_n 0, 1) := by decide +kernel
theorem dX12_goHalfway_25 : decode cX12_goHalfway 25 = .ok (.getfield 39, 3) := by decide +kernel
theorem dX12_goHalfway_28 : decode cX12_goHalfway 28 = .ok (.iconst 5, 1) := by decide +kernel
theorem dX12_goHalfway_29 : decode cX12_goHalfway 29 = .ok (.iload_n 1, 1) := by decide +kernel
theorem dX12_goHalfway_30 : decode cX12_goHalfway 30 = .ok (.imul, 1) := by decide +kernel
theorem dX12_goHalfway_31 : decode cX12_goHalfway 31 = .ok (.iload_n 2, 1) := by decide +kernel
theorem dX12_goHalfway_32 : decode cX12_goHalfway 32 = .ok (.iadd, 1) := by decide +kernel
theorem dX12_goHalfway_33 : decode cX12_goHalfway 33 = .ok (.iload_n 1, 1) := by decide +kernel
theorem dX12_goHalfway_34 : decode cX12_goHalfway 34 = .ok (.iload_n 2, 1) := by decide +kernel
theorem dX12_goHalfway_35 : decode cX12_goHalfway 35 = .ok (.if_icmp .ne 7, 3) := by decide +kernel
theorem dX12_goHalfway_38 : decode cX12_goHalfway 38 = .ok (.iconst 0, 1) := by decide +kernel
theorem dX12_goHalfway_39 : decode cX12_goHalfway 39 = .ok (.goto 21, 3) := by decide +kernel
theorem dX12_goHalfway_42 : decode cX12_goHalfway 42 = .ok (.aload_n 0, 1) := by decide +kernel
theorem dX12_goHalfway_43 : decode cX12_goHalfway 43 = .ok (.getfield 7, 3) := by decide +kernel
theorem dX12_goHalfway_46 : decode cX12_goHalfway 46 = .ok (.iload_n 1, 1) := by decide +kernel
theorem dX12_goHalfway_47 : decode cX12_goHalfway 47 = .ok (.iload_n 2, 1) := by decide +kernel
theorem dX12_goHalfway_48 : decode cX12_goHalfway 48 = .ok (.invokestatic 75, 3) := by decide +kernel
theorem dX12_goHalfway_51 : decode cX12_goHalfway 51 = .ok (.ifCond .eq 7, 3) := by decide +kernel
theorem dX12_goHalfway_54 : decode cX12_goHalfway 54 = .ok (.iconst 1, 1) := by decide +kernel
theorem dX12_goHalfway_55 : decode cX12_goHalfway 55 = .ok (.goto 5, 3) := by decide +kernel
theorem dX12_goHalfway_58 : decode cX12_goHalfway 58 = .ok (.bipush 99, 2) := by decide +kernel
theorem dX12_goHalfway_60 : decode cX12_goHalfway 60 = .ok (.iastore, 1) := by decide +kernel
theorem dX12_goHalfway_61 : decode cX12_goHalfway 61 = .ok (.iinc 2 1, 3) := by decide +kernel
theorem dX12_goHalfway_64 : decode cX12_goHalfway 64 = .ok (.goto (-50), 3) := by decide +kernel
theorem dX12_goHalfway_67 : decode cX12_goHalfway 67 = .ok (.iinc 1 1, 3) := by decide +kernel
theorem dX12_goHalfway_70 : decode cX12_goHalfway 70 = .ok (.goto (-68), 3) := by decide +kernel
theorem dX12_goHalfway_73 : decode cX12_goHalfway 73 = .ok (.iconst 0, 1) := by decide +kernel
theorem dX12_goHalfway_74 : decode cX12_goHalfway 74 = .ok (.istore_n 1, 1) := by decide +kernel
theorem dX12_goHalfway_75 : decode cX12_goHalfway 75 = .ok (.iload_n 1, 1) := by decide +kernel
theorem dX12_goHalfway_76 : decode cX12_goHalfway 76 = .ok (.aload_n 0, 1) := by decide +kernel
theorem dX12_goHalfway_77 : decode cX12_goHalfway 77 = .ok (.getfield 7, 3) := by decide +kernel
theorem dX12_goHalfway_80 : decode cX12_goHalfway 80 = .ok (.iconst 3, 1) := by decide +kernel
theorem dX12_goHalfway_81 : decode cX12_goHalfway 81 = .ok (.iaload, 1) := by decide +kernel
theorem dX12_goHalfway_82 : decode cX12_goHalfway 82 = .ok (.if_icmp .ge 89, 3) := by decide +kernel
theorem dX12_goHalfway_85 : decode cX12_goHalfway 85 = .ok (.iconst 0, 1) := by decide +kernel
theorem dX12_goHalfway_86 : decode cX12_goHalfway 86 = .ok (.istore_n 2, 1) := by decide +kernel
theorem dX12_goHalfway_87 : decode cX12_goHalfway 87 = .ok (.iload_n 2, 1) := by decide +kernel
theorem dX12_goHalfway_88 : decode cX12_goHalfway 88 = .ok (.aload_n 0, 1) := by decide +kernel
theorem dX12_goHalfway_89 : decode cX12_goHalfway 89 = .ok (.getfield 7, 3) := by decide +kernel
theorem dX12_goHalfway_92 : decode cX12_goHalfway 92 = .ok (.iconst 3, 1) := by decide +kernel
theorem dX12_goHalfway_93 : decode cX12_goHalfway 93 = .ok (.iaload, 1) := by decide +kernel
theorem dX12_goHalfway_94 : decode cX12_goHalfway 94 = .ok (.if_icmp .ge 71, 3) := by decide +kernel
theorem dX12_goHalfway_97 : decode cX12_goHalfway 97 = .ok (.iconst 0, 1) := by decide +kernel
theorem dX12_goHalfway_98 : decode cX12_goHalfway 98 = .ok (.istore_n 3, 1) := by decide +kernel
theorem dX12_goHalfway_99 : decode cX12_goHalfway 99 = .ok (.iload_n 3, 1) := by decide +kernel
theorem dX12_goHalfway_100 : decode cX12_goHalfway 100 = .ok (.aload_n 0, 1) := by decide +kernel
theorem dX12_goHalfway_101 : decode cX12_goHalfway 101 = .ok (.getfield 7, 3) := by decide +kernel
theorem dX12_goHalfway_104 : decode cX12_goHalfway 104 = .ok (.iconst 3, 1) := by decide +kernel
theorem dX12_goHalfway_105 : decode cX12_goHalfway 105 = .ok (.iaload, 1) := by decide +kernel
theorem dX12_goHalfway_106 : decode cX12_goHalfway 106 = .ok (.if_icmp .ge 53, 3) := by decide +kernel
theorem dX12_goHalfway_109 : decode cX12_goHalfway 109 = .ok (.aload_n 0, 1) := by decide +kernel
theorem dX12_goHalfway_110 : decode cX12_goHalfway 110 = .ok (.getfield 39, 3) := by decide +kernel
theorem dX12_goHalfway_113 : decode cX12_goHalfway 113 = .ok (.iconst 5, 1) := by decide +kernel
theorem dX12_goHalfway_114 : decode cX12_goHalfway 114 = .ok (.iload_n 2, 1) := by decide +kernel
theorem dX12_goHalfway_115 : decode cX12_goHalfway 115 = .ok (.imul, 1) := by decide +kernel
theorem dX12_goHalfway_116 : decode cX12_goHalfway 116 = .ok (.iload_n 3, 1) := by decide +kernel
theorem dX12_goHalfway_117 : decode cX12_goHalfway 117 = .ok (.iadd, 1) := by decide +kernel
theorem dX12_goHalfway_118 : decode cX12_goHalfway 118 = .ok (.aload_n 0, 1) := by decide +kernel
theorem dX12_goHalfway_119 : decode cX12_goHalfway 119 = .ok (.getfield 39, 3) := by decide +kernel
theorem dX12_goHalfway_122 : decode cX12_goHalfway 122 = .ok (.iconst 5, 1) := by decide +kernel
theorem dX12_goHalfway_123 : decode cX12_goHalfway 123 = .ok (.iload_n 2, 1) := by decide +kernel
theorem dX12_goHalfway_124 : decode cX12_goHalfway 124 = .ok (.imul, 1) := by decide +kernel
theorem dX12_goHalfway_125 : decode cX12_goHalfway 125 = .ok (.iload_n 3, 1) := by decide +kernel
theorem dX12_goHalfway_126 : decode cX12_goHalfway 126 = .ok (.iadd, 1) := by decide +kernel
theorem dX12_goHalfway_127 : decode cX12_goHalfway 127 = .ok (.iaload, 1) := by decide +kernel
theorem dX12_goHalfway_128 : decode cX12_goHalfway 128 = .ok (.aload_n 0, 1) := by decide +kernel
theorem dX12_goHalfway_129 : decode cX12_goHalfway 129 = .ok (.getfield 39, 3) := by decide +kernel
theorem dX12_goHalfway_132 : decode cX12_goHalfway 132 = .ok (.iconst 5, 1) := by decide +kernel
theorem dX12_goHalfway_133 : decode cX12_goHalfway 133 = .ok (.iload_n 2, 1) := by decide +kernel
theorem dX12_goHalfway_134 : decode cX12_goHalfway 134 = .ok (.imul, 1) := by decide +kernel
theorem dX12_goHalfway_135 : decode cX12_goHalfway 135 = .ok (.iload_n 1, 1) := by decide +kernel
theorem dX12_goHalfway_136 : decode cX12_goHalfway 136 = .ok (.iadd, 1) := by decide +kernel
theorem dX12_goHalfway_137 : decode cX12_goHalfway 137 = .ok (.iaload, 1) := by decide +kernel
theorem dX12_goHalfway_138 : decode cX12_goHalfway 138 = .ok (.aload_n 0, 1) := by decide +kernel
theorem dX12_goHalfway_139 : decode cX12_goHalfway 139 = .ok (.getfield 39, 3) := by decide +kernel
theorem dX12_goHalfway_142 : decode cX12_goHalfway 142 = .ok (.iconst 5, 1) := by decide +kernel
theorem dX12_goHalfway_143 : decode cX12_goHalfway 143 = .ok (.iload_n 1, 1) := by decide +kernel
theorem dX12_goHalfway_144 : decode cX12_goHalfway 144 = .ok (.imul, 1) := by decide +kernel
theorem dX12_goHalfway_145 : decode cX12_goHalfway 145 = .ok (.iload_n 3, 1) := by decide +kernel
theorem dX12_goHalfway_146 : decode cX12_goHalfway 146 = .ok (.iadd, 1) := by decide +kernel
theorem dX12_goHalfway_147 : decode cX12_goHalfway 147 = .ok (.iaload, 1) := by decide +kernel
theorem dX12_goHalfway_148 : decode cX12_goHalfway 148 = .ok (.iadd, 1) := by decide +kernel
theorem dX12_goHalfway_149 : decode cX12_goHalfway 149 = .ok (.invokestatic 79, 3) := by decide +kernel
theorem dX12_goHalfway_152 : decode cX12_goHalfway 152 = .ok (.iastore, 1) := by decide +kernel
theorem dX12_goHalfway_153 : decode cX12_goHalfway 153 = .ok (.iinc 3 1, 3) := by decide +kernel
theorem dX12_goHalfway_156 : decode cX12_goHalfway 156 = .ok (.goto (-57), 3) := by decide +kernel
theorem dX12_goHalfway_159 : decode cX12_goHalfway 159 = .ok (.iinc 2 1, 3) := by decide +kernel
theorem dX12_goHalfway_162 : decode cX12_goHalfway 162 = .ok (.goto (-75), 3) := by decide +kernel
theorem dX12_goHalfway_165 : decode cX12_goHalfway 165 = .ok (.iinc 1 1, 3) := by decide +kernel
theorem dX12_goHalfway_168 : decode cX12_goHalfway 168 = .ok (.goto (-93), 3) := by decide +kernel
theorem dX12_goHalfway_171 : decode cX12_goHalfway 171 = .ok (.return_, 1) := by decide +kernel
set_option maxRecDepth 20000 in
theorem ggX12_distanceErrors_X12_goHalfway : GoodIn wsX12_distanceErrors wsX12_goHalfway := goodIn_r _ [8, 2, 3, 9, 10, 7, 11, 12, 13, 14, 24, 25, 26, 27, 28, 29, 30, 31, 32, 33, 34, 35, 36, 37, 38, 39, 40, 41, 42, 43, 44, 45] (by decide +kernel) (by decide +kernel)
set_option maxRecDepth 20000 in
theorem gX12_distanceErrors_X12_goHalfway : GoodIn wsX12_distanceErrors (wsV RX12 403 RX12 yX12_goHalfway wsX12_goHalfway) := goodIn_app (goodIn_of _ (by decide +kernel)) ggX12_distanceErrors_X12_goHalfway
set_option maxRecDepth 20000 in
theorem ggX12_distanceErrors_X12_far : GoodIn wsX12_distanceErrors wsX12_far := goodIn_r _ [18, 19, 20, 21, 22, 7, 23, 9, 10, 11, 12, 13, 14, 24, 25, 26, 27, 28, 29, 30, 31, 32, 33, 34, 35, 36, 37, 38, 39, 40, 41, 42, 43, 44, 45] (by decide +kernel) (by decide +kernel)
set_option maxRecDepth 20000 in
theorem gX12_distanceErrors_X12_far : GoodIn wsX12_distanceErrors (wsV RX12 385 RX12 yX12_far wsX12_far) := goodIn_app (goodIn_of _ (by decide +kernel)) ggX12_distanceErrors_X12_far
theorem dX12_distanceErrors_0 : decode cX12_distanceErrors 0 = .ok (.aload_n 0, 1) := by decide +kernel
theorem dX12_distanceErrors_1 : decode cX12_distanceErrors 1 = .ok (.iconst 0, 1) := by decide +kernel
theorem dX12_distanceErrors_2 : decode cX12_distanceErrors 2 = .ok (.putfield 72, 3) := by decide +kernel
theorem dX12_distanceErrors_5 : decode cX12_distanceErrors 5 = .ok (.aload_n 0, 1) := by decide +kernel
theorem dX12_distanceErrors_6 : decode cX12_distanceErrors 6 = .ok (.invokevirtual 403, 3) := by decide +kernel
theorem dX12_distanceErrors_9 : decode cX12_distanceErrors 9 = .ok (.iconst 0, 1) := by decide +kernel
theorem dX12_distanceErrors_10 : decode cX12_distanceErrors 10 = .ok (.istore_n 1, 1) := by decide +kernel
theorem dX12_distanceErrors_11 : decode cX12_distanceErrors 11 = .ok (.iconst 0, 1) := by decide +kernel
theorem dX12_distanceErrors_12 : decode cX12_distanceErrors 12 = .ok (.istore_n 2, 1) := by decide +kernel
theorem dX12_distanceErrors_13 : decode cX12_distanceErrors 13 = .ok (.iload_n 2, 1) := by decide +kernel
theorem dX12_distanceErrors_14 : decode cX12_distanceErrors 14 = .ok (.aload_n 0, 1) := by decide +kernel
theorem dX12_distanceErrors_15 : decode cX12_distanceErrors 15 = .ok (.getfield 7, 3) := by decide +kernel
theorem dX12_distanceErrors_18 : decode cX12_distanceErrors 18 = .ok (.iconst 3, 1) := by decide +kernel
theorem dX12_distanceErrors_19 : decode cX12_distanceErrors 19 = .ok (.iaload, 1) := by decide +kernel
theorem dX12_distanceErrors_20 : decode cX12_distanceErrors 20 = .ok (.if_icmp .ge 73, 3) := by decide +kernel
theorem dX12_distanceErrors_23 : decode cX12_distanceErrors 23 = .ok (.iconst 0, 1) := by decide +kernel
theorem dX12_distanceErrors_24 : decode cX12_distanceErrors 24 = .ok (.istore_n 3, 1) := by decide +kernel
theorem dX12_distanceErrors_25 : decode cX12_distanceErrors 25 = .ok (.iload_n 3, 1) := by decide +kernel
theorem dX12_distanceErrors_26 : decode cX12_distanceErrors 26 = .ok (.aload_n 0, 1) := by decide +kernel
theorem dX12_distanceErrors_27 : decode cX12_distanceErrors 27 = .ok (.getfield 7, 3) := by decide +kernel
theorem dX12_distanceErrors_30 : decode cX12_distanceErrors 30 = .ok (.iconst 3, 1) := by decide +kernel
theorem dX12_distanceErrors_31 : decode cX12_distanceErrors 31 = .ok (.iaload, 1) := by decide +kernel
theorem dX12_distanceErrors_32 : decode cX12_distanceErrors 32 = .ok (.if_icmp .ge 55, 3) := by decide +kernel
theorem dX12_distanceErrors_35 : decode cX12_distanceErrors 35 = .ok (.aload_n 0, 1) := by decide +kernel
theorem dX12_distanceErrors_36 : decode cX12_distanceErrors 36 = .ok (.getfield 39, 3) := by decide +kernel
theorem dX12_distanceErrors_39 : decode cX12_distanceErrors 39 = .ok (.iconst 5, 1) := by decide +kernel
theorem dX12_distanceErrors_40 : decode cX12_distanceErrors 40 = .ok (.iload_n 2, 1) := by decide +kernel
theorem dX12_distanceErrors_41 : decode cX12_distanceErrors 41 = .ok (.imul, 1) := by decide +kernel
theorem dX12_distanceErrors_42 : decode cX12_distanceErrors 42 = .ok (.iload_n 3, 1) := by decide +kernel
theorem dX12_distanceErrors_43 : decode cX12_distanceErrors 43 = .ok (.iadd, 1) := by decide +kernel
theorem dX12_distanceErrors_44 : decode cX12_distanceErrors 44 = .ok (.iaload, 1) := by decide +kernel
theorem dX12_distanceErrors_45 : decode cX12_distanceErrors 45 = .ok (.istore 4, 2) := by decide +kernel
theorem dX12_distanceErrors_47 : decode cX12_distanceErrors 47 = .ok (.iload_n 1, 1) := by decide +kernel
theorem dX12_distanceErrors_48 : decode cX12_distanceErrors 48 = .ok (.aload_n 0, 1) := by decide +kernel
theorem dX12_distanceErrors_49 : decode cX12_distanceErrors 49 = .ok (.aload_n 0, 1) := by decide +kernel
theorem dX12_distanceErrors_50 : decode cX12_distanceErrors 50 = .ok (.getfield 7, 3) := by decide +kernel
theorem dX12_distanceErrors_53 : decode cX12_distanceErrors 53 = .ok (.iload_n 2, 1) := by decide +kernel
theorem dX12_distanceErrors_54 : decode cX12_distanceErrors 54 = .ok (.iload_n 3, 1) := by decide +kernel
theorem dX12_distanceErrors_55 : decode cX12_distanceErrors 55 = .ok (.invokevirtual 385, 3) := by decide +kernel
theorem dX12_distanceErrors_58 : decode cX12_distanceErrors 58 = .ok (.iload 4, 2) := by decide +kernel
theorem dX12_distanceErrors_60 : decode cX12_distanceErrors 60 = .ok (.bipush 99, 2) := by decide +kernel
theorem dX12_distanceErrors_62 : decode cX12_distanceErrors 62 = .ok (.if_icmp .lt 7, 3) := by decide +kernel
theorem dX12_distanceErrors_65 : decode cX12_distanceErrors 65 = .ok (.iconst (-1), 1) := by decide +kernel
theorem dX12_distanceErrors_66 : decode cX12_distanceErrors 66 = .ok (.goto 5, 3) := by decide +kernel
theorem dX12_distanceErrors_69 : decode cX12_distanceErrors 69 = .ok (.iload 4, 2) := by decide +kernel
theorem dX12_distanceErrors_71 : decode cX12_distanceErrors 71 = .ok (.if_icmp .ne 7, 3) := by decide +kernel
theorem dX12_distanceErrors_74 : decode cX12_distanceErrors 74 = .ok (.iconst 0, 1) := by decide +kernel
theorem dX12_distanceErrors_75 : decode cX12_distanceErrors 75 = .ok (.goto 4, 3) := by decide +kernel
theorem dX12_distanceErrors_78 : decode cX12_distanceErrors 78 = .ok (.iconst 1, 1) := by decide +kernel
theorem dX12_distanceErrors_79 : decode cX12_distanceErrors 79 = .ok (.iadd, 1) := by decide +kernel
theorem dX12_distanceErrors_80 : decode cX12_distanceErrors 80 = .ok (.istore_n 1, 1) := by decide +kernel
theorem dX12_distanceErrors_81 : decode cX12_distanceErrors 81 = .ok (.iinc 3 1, 3) := by decide +kernel
theorem dX12_distanceErrors_84 : decode cX12_distanceErrors 84 = .ok (.goto (-59), 3) := by decide +kernel
theorem dX12_distanceErrors_87 : decode cX12_distanceErrors 87 = .ok (.iinc 2 1, 3) := by decide +kernel
theorem dX12_distanceErrors_90 : decode cX12_distanceErrors 90 = .ok (.goto (-77), 3) := by decide +kernel
theorem dX12_distanceErrors_93 : decode cX12_distanceErrors 93 = .ok (.iload_n 1, 1) := by decide +kernel
theorem dX12_distanceErrors_94 : decode cX12_distanceErrors 94 = .ok (.ireturn, 1) := by decide +kernel
set_option maxRecDepth 20000 in
theorem ggX12_validShare_X12_living : GoodIn wsX12_validShare wsX12_living := goodIn_r _ [6, 7, 8, 5, 9, 10, 11, 12] (by decide +kernel) (by decide +kernel)
set_option maxRecDepth 20000 in
theorem gX12_validShare_X12_living : GoodIn wsX12_validShare (va_wsS RX12 145 yX12_living wsX12_living) := goodIn_app (goodIn_of _ (by decide +kernel)) ggX12_validShare_X12_living
theorem dX12_validShare_0 : decode cX12_validShare 0 = .ok (.aload_n 0, 1) := by decide +kernel
theorem dX12_validShare_1 : decode cX12_validShare 1 = .ok (.iconst 0, 1) := by decide +kernel
theorem dX12_validShare_2 : decode cX12_validShare 2 = .ok (.putfield 72, 3) := by decide +kernel
theorem dX12_validShare_5 : decode cX12_validShare 5 = .ok (.aload_n 0, 1) := by decide +kernel
theorem dX12_validShare_6 : decode cX12_validShare 6 = .ok (.getfield 7, 3) := by decide +kernel
theorem dX12_validShare_9 : decode cX12_validShare 9 = .ok (.bipush 6, 2) := by decide +kernel
theorem dX12_validShare_11 : decode cX12_validShare 11 = .ok (.iaload, 1) := by decide +kernel
theorem dX12_validShare_12 : decode cX12_validShare 12 = .ok (.ifCond .ne 7, 3) := by decide +kernel
theorem dX12_validShare_15 : decode cX12_validShare 15 = .ok (.fconst 0, 1) := by decide +kernel
theorem dX12_validShare_16 : decode cX12_validShare 16 = .ok (.goto 20, 3) := by decide +kernel
theorem dX12_validShare_19 : decode cX12_validShare 19 = .ok (.aload_n 0, 1) := by decide +kernel
theorem dX12_validShare_20 : decode cX12_validShare 20 = .ok (.getfield 7, 3) := by decide +kernel
theorem dX12_validShare_23 : decode cX12_validShare 23 = .ok (.invokestatic 145, 3) := by decide +kernel
theorem dX12_validShare_26 : decode cX12_validShare 26 = .ok (.i2f, 1) := by decide +kernel
theorem dX12_validShare_27 : decode cX12_validShare 27 = .ok (.aload_n 0, 1) := by decide +kernel
theorem dX12_validShare_28 : decode cX12_validShare 28 = .ok (.getfield 7, 3) := by decide +kernel
theorem dX12_validShare_31 : decode cX12_validShare 31 = .ok (.bipush 6, 2) := by decide +kernel
theorem dX12_validShare_33 : decode cX12_validShare 33 = .ok (.iaload, 1) := by decide +kernel
theorem dX12_validShare_34 : decode cX12_validShare 34 = .ok (.i2f, 1) := by decide +kernel
theorem dX12_validShare_35 : decode cX12_validShare 35 = .ok (.fdiv, 1) := by decide +kernel
theorem dX12_validShare_36 : decode cX12_validShare 36 = .ok (.freturn, 1) := by decide +kernel
set_option maxRecDepth 20000 in
theorem ggX12_averageLife_X12_ofTicket : GoodIn wsX12_averageLife wsX12_ofTicket := goodIn_r _ [6] (by decide +kernel) (by decide +kernel)
set_option maxRecDepth 20000 in
theorem gX12_averageLife_X12_ofTicket : GoodIn wsX12_averageLife (va_wsS RX12 98 yX12_ofTicket wsX12_ofTicket) := goodIn_app (goodIn_of _ (by decide +kernel)) ggX12_averageLife_X12_ofTicket
theorem dX12_averageLife_0 : decode cX12_averageLife 0 = .ok (.aload_n 0, 1) := by decide +kernel
theorem dX12_averageLife_1 : decode cX12_averageLife 1 = .ok (.iconst 0, 1) := by decide +kernel
theorem dX12_averageLife_2 : decode cX12_averageLife 2 = .ok (.putfield 72, 3) := by decide +kernel
theorem dX12_averageLife_5 : decode cX12_averageLife 5 = .ok (.iconst 0, 1) := by decide +kernel
theorem dX12_averageLife_6 : decode cX12_averageLife 6 = .ok (.istore_n 1, 1) := by decide +kernel
theorem dX12_averageLife_7 : decode cX12_averageLife 7 = .ok (.iconst 0, 1) := by decide +kernel
theorem dX12_averageLife_8 : decode cX12_averageLife 8 = .ok (.istore_n 2, 1) := by decide +kernel
theorem dX12_averageLife_9 : decode cX12_averageLife 9 = .ok (.iload_n 2, 1) := by decide +kernel
theorem dX12_averageLife_10 : decode cX12_averageLife 10 = .ok (.aload_n 0, 1) := by decide +kernel
theorem dX12_averageLife_11 : decode cX12_averageLife 11 = .ok (.getfield 7, 3) := by decide +kernel
theorem dX12_averageLife_14 : decode cX12_averageLife 14 = .ok (.bipush 6, 2) := by decide +kernel
theorem dX12_averageLife_16 : decode cX12_averageLife 16 = .ok (.iaload, 1) := by decide +kernel
theorem dX12_averageLife_17 : decode cX12_averageLife 17 = .ok (.if_icmp .ge 36, 3) := by decide +kernel
theorem dX12_averageLife_20 : decode cX12_averageLife 20 = .ok (.iload_n 1, 1) := by decide +kernel
theorem dX12_averageLife_21 : decode cX12_averageLife 21 = .ok (.aload_n 0, 1) := by decide +kernel
theorem dX12_averageLife_22 : decode cX12_averageLife 22 = .ok (.getfield 7, 3) := by decide +kernel
theorem dX12_averageLife_25 : decode cX12_averageLife 25 = .ok (.iload_n 2, 1) := by decide +kernel
theorem dX12_averageLife_26 : decode cX12_averageLife 26 = .ok (.invokestatic 98, 3) := by decide +kernel
theorem dX12_averageLife_29 : decode cX12_averageLife 29 = .ok (.bipush 6, 2) := by decide +kernel
theorem dX12_averageLife_31 : decode cX12_averageLife 31 = .ok (.iadd, 1) := by decide +kernel
theorem dX12_averageLife_32 : decode cX12_averageLife 32 = .ok (.iaload, 1) := by decide +kernel
theorem dX12_averageLife_33 : decode cX12_averageLife 33 = .ok (.aload_n 0, 1) := by decide +kernel
theorem dX12_averageLife_34 : decode cX12_averageLife 34 = .ok (.getfield 7, 3) := by decide +kernel
theorem dX12_averageLife_37 : decode cX12_averageLife 37 = .ok (.iload_n 2, 1) := by decide +kernel
theorem dX12_averageLife_38 : decode cX12_averageLife 38 = .ok (.invokestatic 98, 3) := by decide +kernel
theorem dX12_averageLife_41 : decode cX12_averageLife 41 = .ok (.iconst 5, 1) := by decide +kernel
theorem dX12_averageLife_42 : decode cX12_averageLife 42 = .ok (.iadd, 1) := by decide +kernel
theorem dX12_averageLife_43 : decode cX12_averageLife 43 = .ok (.iaload, 1) := by decide +kernel
theorem dX12_averageLife_44 : decode cX12_averageLife 44 = .ok (.isub, 1) := by decide +kernel
theorem dX12_averageLife_45 : decode cX12_averageLife 45 = .ok (.iadd, 1) := by decide +kernel
theorem dX12_averageLife_46 : decode cX12_averageLife 46 = .ok (.istore_n 1, 1) := by decide +kernel
theorem dX12_averageLife_47 : decode cX12_averageLife 47 = .ok (.iinc 2 1, 3) := by decide +kernel
theorem dX12_averageLife_50 : decode cX12_averageLife 50 = .ok (.goto (-41), 3) := by decide +kernel
theorem dX12_averageLife_53 : decode cX12_averageLife 53 = .ok (.aload_n 0, 1) := by decide +kernel
theorem dX12_averageLife_54 : decode cX12_averageLife 54 = .ok (.getfield 7, 3) := by decide +kernel
theorem dX12_averageLife_57 : decode cX12_averageLife 57 = .ok (.bipush 6, 2) := by decide +kernel
theorem dX12_averageLife_59 : decode cX12_averageLife 59 = .ok (.iaload, 1) := by decide +kernel
theorem dX12_averageLife_60 : decode cX12_averageLife 60 = .ok (.ifCond .ne 7, 3) := by decide +kernel
theorem dX12_averageLife_63 : decode cX12_averageLife 63 = .ok (.dconst 0, 1) := by decide +kernel
theorem dX12_averageLife_64 : decode cX12_averageLife 64 = .ok (.goto 14, 3) := by decide +kernel
theorem dX12_averageLife_67 : decode cX12_averageLife 67 = .ok (.iload_n 1, 1) := by decide +kernel
theorem dX12_averageLife_68 : decode cX12_averageLife 68 = .ok (.i2d, 1) := by decide +kernel
theorem dX12_averageLife_69 : decode cX12_averageLife 69 = .ok (.aload_n 0, 1) := by decide +kernel
theorem dX12_averageLife_70 : decode cX12_averageLife 70 = .ok (.getfield 7, 3) := by decide +kernel
theorem dX12_averageLife_73 : decode cX12_averageLife 73 = .ok (.bipush 6, 2) := by decide +kernel
theorem dX12_averageLife_75 : decode cX12_averageLife 75 = .ok (.iaload, 1) := by decide +kernel
theorem dX12_averageLife_76 : decode cX12_averageLife 76 = .ok (.i2d, 1) := by decide +kernel
theorem dX12_averageLife_77 : decode cX12_averageLife 77 = .ok (.ddiv, 1) := by decide +kernel
theorem dX12_averageLife_78 : decode cX12_averageLife 78 = .ok (.dreturn, 1) := by decide +kernel
set_option maxRecDepth 20000 in
theorem ggX12_login_X12_noUser : GoodIn wsX12_login wsX12_noUser := goodIn_r _ [6, 1, 7, 8, 9, 5, 10, 11, 12, 13, 14, 15, 16, 17, 18, 63, 64, 65, 66, 67, 68, 69, 70, 71, 72, 73, 74, 75, 76, 77, 78, 79, 80, 81, 82, 83, 84] (by decide +kernel) (by decide +kernel)
set_option maxRecDepth 20000 in
theorem gX12_login_X12_noUser : GoodIn wsX12_login (wsV RX12 388 RX12 yX12_noUser wsX12_noUser) := goodIn_app (goodIn_of _ (by decide +kernel)) ggX12_login_X12_noUser
set_option maxRecDepth 20000 in
theorem ggX12_login_X12_out : GoodIn wsX12_login wsX12_out := goodIn_r _ [22, 12, 13, 5, 14, 15, 16, 17, 18, 11, 63, 64, 65, 66, 67, 68, 69, 70, 71, 72, 73, 74, 75, 76, 77, 78, 79, 80, 81, 82, 83, 84] (by decide +kernel) (by decide +kernel)
set_option maxRecDepth 20000 in
theorem gX12_login_X12_out : GoodIn wsX12_login (wsV RX12 400 RX12 yX12_out wsX12_out) := goodIn_app (goodIn_of _ (by decide +kernel)) ggX12_login_X12_out
set_option maxRecDepth 20000 in
theorem ggX12_login_X12_whyNotLogin : GoodIn wsX12_login wsX12_whyNotLogin := goodIn_r _ [25, 26, 27, 5, 28, 29, 30, 31, 32, 33, 34, 35, 36, 37] (by decide +kernel) (by decide +kernel)
set_option maxRecDepth 20000 in
theorem gX12_login_X12_whyNotLogin : GoodIn wsX12_login (va_wsS RX12 263 yX12_whyNotLogin wsX12_whyNotLogin) := goodIn_app (goodIn_of _ (by decide +kernel)) ggX12_login_X12_whyNotLogin
set_option maxRecDepth 20000 in
theorem ggX12_login_X12_refuses : GoodIn wsX12_login wsX12_refuses := goodIn_r _ [18, 11, 63, 64, 65, 66, 67, 68, 69, 70, 71, 72, 73, 74, 75, 76, 77, 78, 79, 80, 81, 82, 83, 84] (by decide +kernel) (by decide +kernel)
set_option maxRecDepth 20000 in
theorem gX12_login_X12_refuses : GoodIn wsX12_login (wsV RX12 152 RX12 yX12_refuses wsX12_refuses) := goodIn_app (goodIn_of _ (by decide +kernel)) ggX12_login_X12_refuses
set_option maxRecDepth 20000 in
theorem ggX12_login_X12_remember : GoodIn wsX12_login wsX12_remember := goodIn_r _ [41, 42, 43, 1, 44, 45, 46, 5, 47, 63, 64, 65, 66, 67, 68, 69, 70, 71, 72, 73, 74, 75, 76, 77, 78, 79, 80, 81, 82, 83, 84] (by decide +kernel) (by decide +kernel)
set_option maxRecDepth 20000 in
theorem gX12_login_X12_remember : GoodIn wsX12_login (wsV RX12 369 RX12 yX12_remember wsX12_remember) := goodIn_app (goodIn_of _ (by decide +kernel)) ggX12_login_X12_remember
set_option maxRecDepth 20000 in
theorem ggX12_login_X12_enters : GoodIn wsX12_login wsX12_enters := goodIn_r _ [50, 26, 27, 5, 28, 35, 36, 37, 51, 52, 53, 54, 55, 56, 57, 58, 59, 60, 61, 62] (by decide +kernel) (by decide +kernel)
set_option maxRecDepth 20000 in
theorem gX12_login_X12_enters : GoodIn wsX12_login (va_wsS RX12 266 yX12_enters wsX12_enters) := goodIn_app (goodIn_of _ (by decide +kernel)) ggX12_login_X12_enters
theorem dX12_login_0 : decode cX12_login 0 = .ok (.aload_n 0, 1) := by decide +kernel
theorem dX12_login_1 : decode cX12_login 1 = .ok (.iload_n 1, 1) := by decide +kernel
theorem dX12_login_2 : decode cX12_login 2 = .ok (.invokevirtual 388, 3) := by decide +kernel
theorem dX12_login_5 : decode cX12_login 5 = .ok (.ifCond .ne 40, 3) := by decide +kernel
theorem dX12_login_8 : decode cX12_login 8 = .ok (.aload_n 0, 1) := by decide +kernel
theorem dX12_login_9 : decode cX12_login 9 = .ok (.iload_n 2, 1) := by decide +kernel
theorem dX12_login_10 : decode cX12_login 10 = .ok (.iconst 0, 1) := by decide +kernel
theorem dX12_login_11 : decode cX12_login 11 = .ok (.sipush 9999, 3) := by decide +kernel
theorem dX12_login_14 : decode cX12_login 14 = .ok (.invokevirtual 400, 3) := by decide +kernel
theorem dX12_login_17 : decode cX12_login 17 = .ok (.ifCond .ne 28, 3) := by decide +kernel
theorem dX12_login_20 : decode cX12_login 20 = .ok (.aload_n 0, 1) := by decide +kernel
theorem dX12_login_21 : decode cX12_login 21 = .ok (.aload_n 0, 1) := by decide +kernel
theorem dX12_login_22 : decode cX12_login 22 = .ok (.getfield 7, 3) := by decide +kernel
theorem dX12_login_25 : decode cX12_login 25 = .ok (.iload_n 1, 1) := by decide +kernel
theorem dX12_login_26 : decode cX12_login 26 = .ok (.iload_n 2, 1) := by decide +kernel
theorem dX12_login_27 : decode cX12_login 27 = .ok (.invokestatic 263, 3) := by decide +kernel
theorem dX12_login_30 : decode cX12_login 30 = .ok (.ifCond .eq 7, 3) := by decide +kernel
theorem dX12_login_33 : decode cX12_login 33 = .ok (.iconst 1, 1) := by decide +kernel
theorem dX12_login_34 : decode cX12_login 34 = .ok (.goto 4, 3) := by decide +kernel
theorem dX12_login_37 : decode cX12_login 37 = .ok (.iconst 0, 1) := by decide +kernel
theorem dX12_login_38 : decode cX12_login 38 = .ok (.iconst 3, 1) := by decide +kernel
theorem dX12_login_39 : decode cX12_login 39 = .ok (.invokevirtual 152, 3) := by decide +kernel
theorem dX12_login_42 : decode cX12_login 42 = .ok (.ifCond .eq 5, 3) := by decide +kernel
theorem dX12_login_45 : decode cX12_login 45 = .ok (.iconst 0, 1) := by decide +kernel
theorem dX12_login_46 : decode cX12_login 46 = .ok (.ireturn, 1) := by decide +kernel
theorem dX12_login_47 : decode cX12_login 47 = .ok (.aload_n 0, 1) := by decide +kernel
theorem dX12_login_48 : decode cX12_login 48 = .ok (.invokevirtual 369, 3) := by decide +kernel
theorem dX12_login_51 : decode cX12_login 51 = .ok (.aload_n 0, 1) := by decide +kernel
theorem dX12_login_52 : decode cX12_login 52 = .ok (.getfield 7, 3) := by decide +kernel
theorem dX12_login_55 : decode cX12_login 55 = .ok (.iload_n 1, 1) := by decide +kernel
theorem dX12_login_56 : decode cX12_login 56 = .ok (.iload_n 3, 1) := by decide +kernel
theorem dX12_login_57 : decode cX12_login 57 = .ok (.invokestatic 266, 3) := by decide +kernel
theorem dX12_login_60 : decode cX12_login 60 = .ok (.ireturn, 1) := by decide +kernel
set_option maxRecDepth 20000 in
theorem ggX12_refer_X12_noTicket : GoodIn wsX12_refer wsX12_noTicket := goodIn_r _ [6, 7, 1, 8, 9, 5, 10, 11, 12, 13, 14, 15, 16, 17, 77, 78, 79, 80, 81, 82, 83, 84, 85, 86, 87, 88, 89, 90, 91, 92, 93, 94, 95, 96, 97, 98] (by decide +kernel) (by decide +kernel)
set_option maxRecDepth 20000 in
theorem gX12_refer_X12_noTicket : GoodIn wsX12_refer (wsV RX12 394 RX12 yX12_noTicket wsX12_noTicket) := goodIn_app (goodIn_of _ (by decide +kernel)) ggX12_refer_X12_noTicket
set_option maxRecDepth 20000 in
theorem ggX12_refer_X12_out : GoodIn wsX12_refer wsX12_out := goodIn_r _ [21, 22, 23, 5, 24, 14, 15, 16, 17, 7, 77, 78, 79, 80, 81, 82, 83, 84, 85, 86, 87, 88, 89, 90, 91, 92, 93, 94, 95, 96, 97, 98] (by decide +kernel) (by decide +kernel)
set_option maxRecDepth 20000 in
theorem gX12_refer_X12_out : GoodIn wsX12_refer (wsV RX12 400 RX12 yX12_out wsX12_out) := goodIn_app (goodIn_of _ (by decide +kernel)) ggX12_refer_X12_out
set_option maxRecDepth 20000 in
theorem ggX12_refer_X12_find : GoodIn wsX12_refer wsX12_find := goodIn_r _ [10, 11, 12, 5, 13] (by decide +kernel) (by decide +kernel)
set_option maxRecDepth 20000 in
theorem gX12_refer_X12_find : GoodIn wsX12_refer (va_wsS RX12 226 yX12_find wsX12_find) := goodIn_app (goodIn_of _ (by decide +kernel)) ggX12_refer_X12_find
set_option maxRecDepth 20000 in
theorem ggX12_refer_X12_whyNotRefer : GoodIn wsX12_refer wsX12_whyNotRefer := goodIn_r _ [27, 28, 29, 5, 30, 11, 12, 13, 31, 32, 33, 34, 35, 36, 37, 38, 39, 40, 41, 42, 43, 44, 45, 46, 47, 48, 49, 50, 51] (by decide +kernel) (by decide +kernel)
set_option maxRecDepth 20000 in
theorem gX12_refer_X12_whyNotRefer : GoodIn wsX12_refer (va_wsS RX12 273 yX12_whyNotRefer wsX12_whyNotRefer) := goodIn_app (goodIn_of _ (by decide +kernel)) ggX12_refer_X12_whyNotRefer
set_option maxRecDepth 20000 in
theorem ggX12_refer_X12_refuses : GoodIn wsX12_refer wsX12_refuses := goodIn_r _ [17, 7, 77, 78, 79, 80, 81, 82, 83, 84, 85, 86, 87, 88, 89, 90, 91, 92, 93, 94, 95, 96, 97, 98] (by decide +kernel) (by decide +kernel)
set_option maxRecDepth 20000 in
theorem gX12_refer_X12_refuses : GoodIn wsX12_refer (wsV RX12 152 RX12 yX12_refuses wsX12_refuses) := goodIn_app (goodIn_of _ (by decide +kernel)) ggX12_refer_X12_refuses
set_option maxRecDepth 20000 in
theorem ggX12_refer_X12_remember : GoodIn wsX12_refer wsX12_remember := goodIn_r _ [55, 56, 57, 1, 58, 59, 60, 5, 61, 77, 78, 79, 80, 81, 82, 83, 84, 85, 86, 87, 88, 89, 90, 91, 92, 93, 94, 95, 96, 97, 98] (by decide +kernel) (by decide +kernel)
set_option maxRecDepth 20000 in
theorem gX12_refer_X12_remember : GoodIn wsX12_refer (wsV RX12 369 RX12 yX12_remember wsX12_remember) := goodIn_app (goodIn_of _ (by decide +kernel)) ggX12_refer_X12_remember
set_option maxRecDepth 20000 in
theorem ggX12_refer_X12_derive : GoodIn wsX12_refer wsX12_derive := goodIn_r _ [64, 11, 12, 5, 13, 49, 50, 51, 65, 66, 67, 68, 69, 70, 71, 72, 73, 74, 75, 76] (by decide +kernel) (by decide +kernel)
set_option maxRecDepth 20000 in
theorem gX12_refer_X12_derive : GoodIn wsX12_refer (va_wsS RX12 276 yX12_derive wsX12_derive) := goodIn_app (goodIn_of _ (by decide +kernel)) ggX12_refer_X12_derive
theorem dX12_refer_0 : decode cX12_refer 0 = .ok (.aload_n 0, 1) := by decide +kernel
theorem dX12_refer_1 : decode cX12_refer 1 = .ok (.iload_n 1, 1) := by decide +kernel
theorem dX12_refer_2 : decode cX12_refer 2 = .ok (.invokevirtual 394, 3) := by decide +kernel
theorem dX12_refer_5 : decode cX12_refer 5 = .ok (.ifCond .ne 52, 3) := by decide +kernel
theorem dX12_refer_8 : decode cX12_refer 8 = .ok (.aload_n 0, 1) := by decide +kernel
theorem dX12_refer_9 : decode cX12_refer 9 = .ok (.iload_n 2, 1) := by decide +kernel
theorem dX12_refer_10 : decode cX12_refer 10 = .ok (.iconst 0, 1) := by decide +kernel
theorem dX12_refer_11 : decode cX12_refer 11 = .ok (.aload_n 0, 1) := by decide +kernel
theorem dX12_refer_12 : decode cX12_refer 12 = .ok (.getfield 7, 3) := by decide +kernel
theorem dX12_refer_15 : decode cX12_refer 15 = .ok (.iconst 3, 1) := by decide +kernel
theorem dX12_refer_16 : decode cX12_refer 16 = .ok (.iaload, 1) := by decide +kernel
theorem dX12_refer_17 : decode cX12_refer 17 = .ok (.iconst 1, 1) := by decide +kernel
theorem dX12_refer_18 : decode cX12_refer 18 = .ok (.isub, 1) := by decide +kernel
theorem dX12_refer_19 : decode cX12_refer 19 = .ok (.invokevirtual 400, 3) := by decide +kernel
theorem dX12_refer_22 : decode cX12_refer 22 = .ok (.ifCond .ne 35, 3) := by decide +kernel
theorem dX12_refer_25 : decode cX12_refer 25 = .ok (.aload_n 0, 1) := by decide +kernel
theorem dX12_refer_26 : decode cX12_refer 26 = .ok (.aload_n 0, 1) := by decide +kernel
theorem dX12_refer_27 : decode cX12_refer 27 = .ok (.getfield 7, 3) := by decide +kernel
theorem dX12_refer_30 : decode cX12_refer 30 = .ok (.aload_n 0, 1) := by decide +kernel
theorem dX12_refer_31 : decode cX12_refer 31 = .ok (.getfield 7, 3) := by decide +kernel
theorem dX12_refer_34 : decode cX12_refer 34 = .ok (.iload_n 1, 1) := by decide +kernel
theorem dX12_refer_35 : decode cX12_refer 35 = .ok (.invokestatic 226, 3) := by decide +kernel
theorem dX12_refer_38 : decode cX12_refer 38 = .ok (.iload_n 2, 1) := by decide +kernel
theorem dX12_refer_39 : decode cX12_refer 39 = .ok (.invokestatic 273, 3) := by decide +kernel
theorem dX12_refer_42 : decode cX12_refer 42 = .ok (.ifCond .eq 7, 3) := by decide +kernel
theorem dX12_refer_45 : decode cX12_refer 45 = .ok (.iconst 1, 1) := by decide +kernel
theorem dX12_refer_46 : decode cX12_refer 46 = .ok (.goto 4, 3) := by decide +kernel
theorem dX12_refer_49 : decode cX12_refer 49 = .ok (.iconst 0, 1) := by decide +kernel
theorem dX12_refer_50 : decode cX12_refer 50 = .ok (.iconst 3, 1) := by decide +kernel
theorem dX12_refer_51 : decode cX12_refer 51 = .ok (.invokevirtual 152, 3) := by decide +kernel
theorem dX12_refer_54 : decode cX12_refer 54 = .ok (.ifCond .eq 5, 3) := by decide +kernel
theorem dX12_refer_57 : decode cX12_refer 57 = .ok (.iconst 0, 1) := by decide +kernel
theorem dX12_refer_58 : decode cX12_refer 58 = .ok (.ireturn, 1) := by decide +kernel
theorem dX12_refer_59 : decode cX12_refer 59 = .ok (.aload_n 0, 1) := by decide +kernel
theorem dX12_refer_60 : decode cX12_refer 60 = .ok (.invokevirtual 369, 3) := by decide +kernel
theorem dX12_refer_63 : decode cX12_refer 63 = .ok (.aload_n 0, 1) := by decide +kernel
theorem dX12_refer_64 : decode cX12_refer 64 = .ok (.getfield 7, 3) := by decide +kernel
theorem dX12_refer_67 : decode cX12_refer 67 = .ok (.aload_n 0, 1) := by decide +kernel
theorem dX12_refer_68 : decode cX12_refer 68 = .ok (.getfield 7, 3) := by decide +kernel
theorem dX12_refer_71 : decode cX12_refer 71 = .ok (.iload_n 1, 1) := by decide +kernel
theorem dX12_refer_72 : decode cX12_refer 72 = .ok (.invokestatic 226, 3) := by decide +kernel
theorem dX12_refer_75 : decode cX12_refer 75 = .ok (.iload_n 2, 1) := by decide +kernel
theorem dX12_refer_76 : decode cX12_refer 76 = .ok (.iconst (-1), 1) := by decide +kernel
theorem dX12_refer_77 : decode cX12_refer 77 = .ok (.invokestatic 276, 3) := by decide +kernel
theorem dX12_refer_80 : decode cX12_refer 80 = .ok (.ireturn, 1) := by decide +kernel
set_option maxRecDepth 20000 in
theorem ggX12_request_X12_noTicket : GoodIn wsX12_request wsX12_noTicket := goodIn_r _ [6, 7, 1, 8, 9, 5, 10, 11, 12, 13, 14, 15, 16, 17, 77, 78, 79, 80, 81, 82, 83, 84, 85, 86, 87, 88, 89, 90, 91, 92, 93, 94, 95, 96, 97, 98] (by decide +kernel) (by decide +kernel)
set_option maxRecDepth 20000 in
theorem gX12_request_X12_noTicket : GoodIn wsX12_request (wsV RX12 394 RX12 yX12_noTicket wsX12_noTicket) := goodIn_app (goodIn_of _ (by decide +kernel)) ggX12_request_X12_noTicket
set_option maxRecDepth 20000 in
theorem ggX12_request_X12_out : GoodIn wsX12_request wsX12_out := goodIn_r _ [21, 22, 23, 5, 24, 14, 15, 16, 17, 7, 77, 78, 79, 80, 81, 82, 83, 84, 85, 86, 87, 88, 89, 90, 91, 92, 93, 94, 95, 96, 97, 98] (by decide +kernel) (by decide +kernel)
set_option maxRecDepth 20000 in
theorem gX12_request_X12_out : GoodIn wsX12_request (wsV RX12 400 RX12 yX12_out wsX12_out) := goodIn_app (goodIn_of _ (by decide +kernel)) ggX12_request_X12_out
set_option maxRecDepth 20000 in
theorem ggX12_request_X12_find : GoodIn wsX12_request wsX12_find := goodIn_r _ [10, 11, 12, 5, 13] (by decide +kernel) (by decide +kernel)
set_option maxRecDepth 20000 in
theorem gX12_request_X12_find : GoodIn wsX12_request (va_wsS RX12 226 yX12_find wsX12_find) := goodIn_app (goodIn_of _ (by decide +kernel)) ggX12_request_X12_find
set_option maxRecDepth 20000 in
theorem ggX12_request_X12_whyNotRequest : GoodIn wsX12_request wsX12_whyNotRequest := goodIn_r _ [27, 28, 29, 5, 30, 11, 12, 13, 31, 32, 33, 34, 35, 36, 37, 38, 39, 40, 41, 42, 43, 44, 45, 46, 47, 48, 49, 50, 51] (by decide +kernel) (by decide +kernel)
set_option maxRecDepth 20000 in
theorem gX12_request_X12_whyNotRequest : GoodIn wsX12_request (va_wsS RX12 283 yX12_whyNotRequest wsX12_whyNotRequest) := goodIn_app (goodIn_of _ (by decide +kernel)) ggX12_request_X12_whyNotRequest
set_option maxRecDepth 20000 in
theorem ggX12_request_X12_refuses : GoodIn wsX12_request wsX12_refuses := goodIn_r _ [17, 7, 77, 78, 79, 80, 81, 82, 83, 84, 85, 86, 87, 88, 89, 90, 91, 92, 93, 94, 95, 96, 97, 98] (by decide +kernel) (by decide +kernel)
set_option maxRecDepth 20000 in
theorem gX12_request_X12_refuses : GoodIn wsX12_request (wsV RX12 152 RX12 yX12_refuses wsX12_refuses) := goodIn_app (goodIn_of _ (by decide +kernel)) ggX12_request_X12_refuses
set_option maxRecDepth 20000 in
theorem ggX12_request_X12_remember : GoodIn wsX12_request wsX12_remember := goodIn_r _ [55, 56, 57, 1, 58, 59, 60, 5, 61, 77, 78, 79, 80, 81, 82, 83, 84, 85, 86, 87, 88, 89, 90, 91, 92, 93, 94, 95, 96, 97, 98] (by decide +kernel) (by decide +kernel)
set_option maxRecDepth 20000 in
theorem gX12_request_X12_remember : GoodIn wsX12_request (wsV RX12 369 RX12 yX12_remember wsX12_remember) := goodIn_app (goodIn_of _ (by decide +kernel)) ggX12_request_X12_remember
set_option maxRecDepth 20000 in
theorem ggX12_request_X12_ofService : GoodIn wsX12_request wsX12_ofService := goodIn_r _ [36] (by decide +kernel) (by decide +kernel)
set_option maxRecDepth 20000 in
theorem gX12_request_X12_ofService : GoodIn wsX12_request (va_wsS RX12 122 yX12_ofService wsX12_ofService) := goodIn_app (goodIn_of _ (by decide +kernel)) ggX12_request_X12_ofService
set_option maxRecDepth 20000 in
theorem ggX12_request_X12_derive : GoodIn wsX12_request wsX12_derive := goodIn_r _ [64, 11, 12, 5, 13, 49, 50, 51, 65, 66, 67, 68, 69, 70, 71, 72, 73, 74, 75, 76] (by decide +kernel) (by decide +kernel)
set_option maxRecDepth 20000 in
theorem gX12_request_X12_derive : GoodIn wsX12_request (va_wsS RX12 276 yX12_derive wsX12_derive) := goodIn_app (goodIn_of _ (by decide +kernel)) ggX12_request_X12_derive
theorem dX12_request_0 : decode cX12_request 0 = .ok (.aload_n 0, 1) := by decide +kernel
theorem dX12_request_1 : decode cX12_request 1 = .ok (.iload_n 1, 1) := by decide +kernel
theorem dX12_request_2 : decode cX12_request 2 = .ok (.invokevirtual 394, 3) := by decide +kernel
theorem dX12_request_5 : decode cX12_request 5 = .ok (.ifCond .ne 52, 3) := by decide +kernel
theorem dX12_request_8 : decode cX12_request 8 = .ok (.aload_n 0, 1) := by decide +kernel
theorem dX12_request_9 : decode cX12_request 9 = .ok (.iload_n 2, 1) := by decide +kernel
theorem dX12_request_10 : decode cX12_request 10 = .ok (.iconst 0, 1) := by decide +kernel
theorem dX12_request_11 : decode cX12_request 11 = .ok (.aload_n 0, 1) := by decide +kernel
theorem dX12_request_12 : decode cX12_request 12 = .ok (.getfield 7, 3) := by decide +kernel
theorem dX12_request_15 : decode cX12_request 15 = .ok (.iconst 5, 1) := by decide +kernel
theorem dX12_request_16 : decode cX12_request 16 = .ok (.iaload, 1) := by decide +kernel
theorem dX12_request_17 : decode cX12_request 17 = .ok (.iconst 1, 1) := by decide +kernel
theorem dX12_request_18 : decode cX12_request 18 = .ok (.isub, 1) := by decide +kernel
theorem dX12_request_19 : decode cX12_request 19 = .ok (.invokevirtual 400, 3) := by decide +kernel
theorem dX12_request_22 : decode cX12_request 22 = .ok (.ifCond .ne 35, 3) := by decide +kernel
theorem dX12_request_25 : decode cX12_request 25 = .ok (.aload_n 0, 1) := by decide +kernel
theorem dX12_request_26 : decode cX12_request 26 = .ok (.aload_n 0, 1) := by decide +kernel
theorem dX12_request_27 : decode cX12_request 27 = .ok (.getfield 7, 3) := by decide +kernel
theorem dX12_request_30 : decode cX12_request 30 = .ok (.aload_n 0, 1) := by decide +kernel
theorem dX12_request_31 : decode cX12_request 31 = .ok (.getfield 7, 3) := by decide +kernel
theorem dX12_request_34 : decode cX12_request 34 = .ok (.iload_n 1, 1) := by decide +kernel
theorem dX12_request_35 : decode cX12_request 35 = .ok (.invokestatic 226, 3) := by decide +kernel
theorem dX12_request_38 : decode cX12_request 38 = .ok (.iload_n 2, 1) := by decide +kernel
theorem dX12_request_39 : decode cX12_request 39 = .ok (.invokestatic 283, 3) := by decide +kernel
theorem dX12_request_42 : decode cX12_request 42 = .ok (.ifCond .eq 7, 3) := by decide +kernel
theorem dX12_request_45 : decode cX12_request 45 = .ok (.iconst 1, 1) := by decide +kernel
theorem dX12_request_46 : decode cX12_request 46 = .ok (.goto 4, 3) := by decide +kernel
theorem dX12_request_49 : decode cX12_request 49 = .ok (.iconst 0, 1) := by decide +kernel
theorem dX12_request_50 : decode cX12_request 50 = .ok (.iconst 3, 1) := by decide +kernel
theorem dX12_request_51 : decode cX12_request 51 = .ok (.invokevirtual 152, 3) := by decide +kernel
theorem dX12_request_54 : decode cX12_request 54 = .ok (.ifCond .eq 5, 3) := by decide +kernel
theorem dX12_request_57 : decode cX12_request 57 = .ok (.iconst 0, 1) := by decide +kernel
theorem dX12_request_58 : decode cX12_request 58 = .ok (.ireturn, 1) := by decide +kernel
theorem dX12_request_59 : decode cX12_request 59 = .ok (.aload_n 0, 1) := by decide +kernel
theorem dX12_request_60 : decode cX12_request 60 = .ok (.invokevirtual 369, 3) := by decide +kernel
theorem dX12_request_63 : decode cX12_request 63 = .ok (.aload_n 0, 1) := by decide +kernel
theorem dX12_request_64 : decode cX12_request 64 = .ok (.getfield 7, 3) := by decide +kernel
theorem dX12_request_67 : decode cX12_request 67 = .ok (.aload_n 0, 1) := by decide +kernel
theorem dX12_request_68 : decode cX12_request 68 = .ok (.getfield 7, 3) := by decide +kernel
theorem dX12_request_71 : decode cX12_request 71 = .ok (.iload_n 1, 1) := by decide +kernel
theorem dX12_request_72 : decode cX12_request 72 = .ok (.invokestatic 226, 3) := by decide +kernel
theorem dX12_request_75 : decode cX12_request 75 = .ok (.aload_n 0, 1) := by decide +kernel
theorem dX12_request_76 : decode cX12_request 76 = .ok (.getfield 7, 3) := by decide +kernel
theorem dX12_request_79 : decode cX12_request 79 = .ok (.iload_n 2, 1) := by decide +kernel
theorem dX12_request_80 : decode cX12_request 80 = .ok (.invokestatic 122, 3) := by decide +kernel
theorem dX12_request_83 : decode cX12_request 83 = .ok (.iconst 1, 1) := by decide +kernel
theorem dX12_request_84 : decode cX12_request 84 = .ok (.iadd, 1) := by decide +kernel
theorem dX12_request_85 : decode cX12_request 85 = .ok (.iaload, 1) := by decide +kernel
theorem dX12_request_86 : decode cX12_request 86 = .ok (.iload_n 2, 1) := by decide +kernel
theorem dX12_request_87 : decode cX12_request 87 = .ok (.invokestatic 276, 3) := by decide +kernel
theorem dX12_request_90 : decode cX12_request 90 = .ok (.ireturn, 1) := by decide +kernel
set_option maxRecDepth 20000 in
theorem ggX12_renew_X12_noTicket : GoodIn wsX12_renew wsX12_noTicket := goodIn_r _ [6, 7, 1, 8, 9, 5, 10, 11, 12, 13, 14, 15, 16, 17, 49, 50, 51, 52, 53, 54, 55, 56, 57, 58, 59, 60, 61, 62, 63, 64, 65, 66, 67, 68, 69, 70] (by decide +kernel) (by decide +kernel)
set_option maxRecDepth 20000 in
theorem gX12_renew_X12_noTicket : GoodIn wsX12_renew (wsV RX12 394 RX12 yX12_noTicket wsX12_noTicket) := goodIn_app (goodIn_of _ (by decide +kernel)) ggX12_renew_X12_noTicket
set_option maxRecDepth 20000 in
theorem ggX12_renew_X12_find : GoodIn wsX12_renew wsX12_find := goodIn_r _ [10, 11, 12, 5, 13] (by decide +kernel) (by decide +kernel)
set_option maxRecDepth 20000 in
theorem gX12_renew_X12_find : GoodIn wsX12_renew (va_wsS RX12 226 yX12_find wsX12_find) := goodIn_app (goodIn_of _ (by decide +kernel)) ggX12_renew_X12_find
set_option maxRecDepth 20000 in
theorem ggX12_renew_X12_whyNotRenew : GoodIn wsX12_renew wsX12_whyNotRenew := goodIn_r _ [20, 11, 12, 5, 13, 21, 22, 23, 24, 25, 26, 27, 28, 29, 30, 31, 32] (by decide +kernel) (by decide +kernel)
set_option maxRecDepth 20000 in
theorem gX12_renew_X12_whyNotRenew : GoodIn wsX12_renew (va_wsS RX12 286 yX12_whyNotRenew wsX12_whyNotRenew) := goodIn_app (goodIn_of _ (by decide +kernel)) ggX12_renew_X12_whyNotRenew
set_option maxRecDepth 20000 in
theorem ggX12_renew_X12_refuses : GoodIn wsX12_renew wsX12_refuses := goodIn_r _ [17, 7, 49, 50, 51, 52, 53, 54, 55, 56, 57, 58, 59, 60, 61, 62, 63, 64, 65, 66, 67, 68, 69, 70] (by decide +kernel) (by decide +kernel)
set_option maxRecDepth 20000 in
theorem gX12_renew_X12_refuses : GoodIn wsX12_renew (wsV RX12 152 RX12 yX12_refuses wsX12_refuses) := goodIn_app (goodIn_of _ (by decide +kernel)) ggX12_renew_X12_refuses
set_option maxRecDepth 20000 in
theorem ggX12_renew_X12_remember : GoodIn wsX12_renew wsX12_remember := goodIn_r _ [36, 37, 38, 1, 39, 40, 41, 5, 42, 49, 50, 51, 52, 53, 54, 55, 56, 57, 58, 59, 60, 61, 62, 63, 64, 65, 66, 67, 68, 69, 70] (by decide +kernel) (by decide +kernel)
set_option maxRecDepth 20000 in
theorem gX12_renew_X12_remember : GoodIn wsX12_renew (wsV RX12 369 RX12 yX12_remember wsX12_remember) := goodIn_app (goodIn_of _ (by decide +kernel)) ggX12_renew_X12_remember
set_option maxRecDepth 20000 in
theorem ggX12_renew_X12_renews : GoodIn wsX12_renew wsX12_renews := goodIn_r _ [45, 11, 12, 5, 13, 24, 25, 26, 27, 28, 29, 30, 31, 32, 46, 47, 48] (by decide +kernel) (by decide +kernel)
set_option maxRecDepth 20000 in
theorem gX12_renew_X12_renews : GoodIn wsX12_renew (va_wsS RX12 289 yX12_renews wsX12_renews) := goodIn_app (goodIn_of _ (by decide +kernel)) ggX12_renew_X12_renews
theorem dX12_renew_0 : decode cX12_renew 0 = .ok (.aload_n 0, 1) := by decide +kernel
theorem dX12_renew_1 : decode cX12_renew 1 = .ok (.iload_n 1, 1) := by decide +kernel
theorem dX12_renew_2 : decode cX12_renew 2 = .ok (.invokevirtual 394, 3) := by decide +kernel
theorem dX12_renew_5 : decode cX12_renew 5 = .ok (.ifCond .ne 34, 3) := by decide +kernel
theorem dX12_renew_8 : decode cX12_renew 8 = .ok (.aload_n 0, 1) := by decide +kernel
theorem dX12_renew_9 : decode cX12_renew 9 = .ok (.aload_n 0, 1) := by decide +kernel
theorem dX12_renew_10 : decode cX12_renew 10 = .ok (.getfield 7, 3) := by decide +kernel
theorem dX12_renew_13 : decode cX12_renew 13 = .ok (.aload_n 0, 1) := by decide +kernel
theorem dX12_renew_14 : decode cX12_renew 14 = .ok (.getfield 7, 3) := by decide +kernel
theorem dX12_renew_17 : decode cX12_renew 17 = .ok (.iload_n 1, 1) := by decide +kernel
theorem dX12_renew_18 : decode cX12_renew 18 = .ok (.invokestatic 226, 3) := by decide +kernel
theorem dX12_renew_21 : decode cX12_renew 21 = .ok (.invokestatic 286, 3) := by decide +kernel
theorem dX12_renew_24 : decode cX12_renew 24 = .ok (.ifCond .eq 7, 3) := by decide +kernel
theorem dX12_renew_27 : decode cX12_renew 27 = .ok (.iconst 1, 1) := by decide +kernel
theorem dX12_renew_28 : decode cX12_renew 28 = .ok (.goto 4, 3) := by decide +kernel
theorem dX12_renew_31 : decode cX12_renew 31 = .ok (.iconst 0, 1) := by decide +kernel
theorem dX12_renew_32 : decode cX12_renew 32 = .ok (.iconst 2, 1) := by decide +kernel
theorem dX12_renew_33 : decode cX12_renew 33 = .ok (.invokevirtual 152, 3) := by decide +kernel
theorem dX12_renew_36 : decode cX12_renew 36 = .ok (.ifCond .eq 5, 3) := by decide +kernel
theorem dX12_renew_39 : decode cX12_renew 39 = .ok (.iconst 0, 1) := by decide +kernel
theorem dX12_renew_40 : decode cX12_renew 40 = .ok (.ireturn, 1) := by decide +kernel
theorem dX12_renew_41 : decode cX12_renew 41 = .ok (.aload_n 0, 1) := by decide +kernel
theorem dX12_renew_42 : decode cX12_renew 42 = .ok (.invokevirtual 369, 3) := by decide +kernel
theorem dX12_renew_45 : decode cX12_renew 45 = .ok (.aload_n 0, 1) := by decide +kernel
theorem dX12_renew_46 : decode cX12_renew 46 = .ok (.getfield 7, 3) := by decide +kernel
theorem dX12_renew_49 : decode cX12_renew 49 = .ok (.aload_n 0, 1) := by decide +kernel
theorem dX12_renew_50 : decode cX12_renew 50 = .ok (.getfield 7, 3) := by decide +kernel
theorem dX12_renew_53 : decode cX12_renew 53 = .ok (.iload_n 1, 1) := by decide +kernel
theorem dX12_renew_54 : decode cX12_renew 54 = .ok (.invokestatic 226, 3) := by decide +kernel
theorem dX12_renew_57 : decode cX12_renew 57 = .ok (.invokestatic 289, 3) := by decide +kernel
theorem dX12_renew_60 : decode cX12_renew 60 = .ok (.ireturn, 1) := by decide +kernel
set_option maxRecDepth 20000 in
theorem ggX12_cheese_X12_noTicket : GoodIn wsX12_cheese wsX12_noTicket := goodIn_r _ [6, 7, 1, 8, 9, 5, 10, 11, 12, 13, 14, 15, 16, 17, 61, 62, 63, 64, 65, 66, 67, 68, 69, 70, 71, 72, 73, 74, 75, 76, 77, 78, 79, 80, 81, 82] (by decide +kernel) (by decide +kernel)
set_option maxRecDepth 20000 in
theorem gX12_cheese_X12_noTicket : GoodIn wsX12_cheese (wsV RX12 394 RX12 yX12_noTicket wsX12_noTicket) := goodIn_app (goodIn_of _ (by decide +kernel)) ggX12_cheese_X12_noTicket
set_option maxRecDepth 20000 in
theorem ggX12_cheese_X12_find : GoodIn wsX12_cheese wsX12_find := goodIn_r _ [10, 11, 12, 5, 13] (by decide +kernel) (by decide +kernel)
set_option maxRecDepth 20000 in
theorem gX12_cheese_X12_find : GoodIn wsX12_cheese (va_wsS RX12 226 yX12_find wsX12_find) := goodIn_app (goodIn_of _ (by decide +kernel)) ggX12_cheese_X12_find
set_option maxRecDepth 20000 in
theorem ggX12_cheese_X12_whyNotCheese : GoodIn wsX12_cheese wsX12_whyNotCheese := goodIn_r _ [20, 11, 12, 5, 13, 21, 22, 23, 24, 25, 26, 27, 28, 29, 30, 31, 32, 33, 34, 35, 36, 37, 38, 39, 40, 41, 42, 43, 44] (by decide +kernel) (by decide +kernel)
set_option maxRecDepth 20000 in
theorem gX12_cheese_X12_whyNotCheese : GoodIn wsX12_cheese (va_wsS RX12 292 yX12_whyNotCheese wsX12_whyNotCheese) := goodIn_app (goodIn_of _ (by decide +kernel)) ggX12_cheese_X12_whyNotCheese
set_option maxRecDepth 20000 in
theorem ggX12_cheese_X12_refuses : GoodIn wsX12_cheese wsX12_refuses := goodIn_r _ [17, 7, 61, 62, 63, 64, 65, 66, 67, 68, 69, 70, 71, 72, 73, 74, 75, 76, 77, 78, 79, 80, 81, 82] (by decide +kernel) (by decide +kernel)
set_option maxRecDepth 20000 in
theorem gX12_cheese_X12_refuses : GoodIn wsX12_cheese (wsV RX12 152 RX12 yX12_refuses wsX12_refuses) := goodIn_app (goodIn_of _ (by decide +kernel)) ggX12_cheese_X12_refuses
set_option maxRecDepth 20000 in
theorem ggX12_cheese_X12_remember : GoodIn wsX12_cheese wsX12_remember := goodIn_r _ [48, 49, 50, 1, 51, 52, 53, 5, 54, 61, 62, 63, 64, 65, 66, 67, 68, 69, 70, 71, 72, 73, 74, 75, 76, 77, 78, 79, 80, 81, 82] (by decide +kernel) (by decide +kernel)
set_option maxRecDepth 20000 in
theorem gX12_cheese_X12_remember : GoodIn wsX12_cheese (wsV RX12 369 RX12 yX12_remember wsX12_remember) := goodIn_app (goodIn_of _ (by decide +kernel)) ggX12_cheese_X12_remember
set_option maxRecDepth 20000 in
theorem ggX12_cheese_X12_gives : GoodIn wsX12_cheese wsX12_gives := goodIn_r _ [57, 11, 12, 5, 13, 42, 43, 44, 30, 31, 32, 58, 59, 60, 39, 40, 41] (by decide +kernel) (by decide +kernel)
set_option maxRecDepth 20000 in
theorem gX12_cheese_X12_gives : GoodIn wsX12_cheese (va_wsS RX12 295 yX12_gives wsX12_gives) := goodIn_app (goodIn_of _ (by decide +kernel)) ggX12_cheese_X12_gives
theorem dX12_cheese_0 : decode cX12_cheese 0 = .ok (.aload_n 0, 1) := by decide +kernel
theorem dX12_cheese_1 : decode cX12_cheese 1 = .ok (.iload_n 1, 1) := by decide +kernel
theorem dX12_cheese_2 : decode cX12_cheese 2 = .ok (.invokevirtual 394, 3) := by decide +kernel
theorem dX12_cheese_5 : decode cX12_cheese 5 = .ok (.ifCond .ne 34, 3) := by decide +kernel
theorem dX12_cheese_8 : decode cX12_cheese 8 = .ok (.aload_n 0, 1) := by decide +kernel
theorem dX12_cheese_9 : decode cX12_cheese 9 = .ok (.aload_n 0, 1) := by decide +kernel
theorem dX12_cheese_10 : decode cX12_cheese 10 = .ok (.getfield 7, 3) := by decide +kernel
theorem dX12_cheese_13 : decode cX12_cheese 13 = .ok (.aload_n 0, 1) := by decide +kernel
theorem dX12_cheese_14 : decode cX12_cheese 14 = .ok (.getfield 7, 3) := by decide +kernel
theorem dX12_cheese_17 : decode cX12_cheese 17 = .ok (.iload_n 1, 1) := by decide +kernel
theorem dX12_cheese_18 : decode cX12_cheese 18 = .ok (.invokestatic 226, 3) := by decide +kernel
theorem dX12_cheese_21 : decode cX12_cheese 21 = .ok (.invokestatic 292, 3) := by decide +kernel
theorem dX12_cheese_24 : decode cX12_cheese 24 = .ok (.ifCond .eq 7, 3) := by decide +kernel
theorem dX12_cheese_27 : decode cX12_cheese 27 = .ok (.iconst 1, 1) := by decide +kernel
theorem dX12_cheese_28 : decode cX12_cheese 28 = .ok (.goto 4, 3) := by decide +kernel
theorem dX12_cheese_31 : decode cX12_cheese 31 = .ok (.iconst 0, 1) := by decide +kernel
theorem dX12_cheese_32 : decode cX12_cheese 32 = .ok (.iconst 2, 1) := by decide +kernel
theorem dX12_cheese_33 : decode cX12_cheese 33 = .ok (.invokevirtual 152, 3) := by decide +kernel
theorem dX12_cheese_36 : decode cX12_cheese 36 = .ok (.ifCond .eq 5, 3) := by decide +kernel
theorem dX12_cheese_39 : decode cX12_cheese 39 = .ok (.iconst 0, 1) := by decide +kernel
theorem dX12_cheese_40 : decode cX12_cheese 40 = .ok (.ireturn, 1) := by decide +kernel
theorem dX12_cheese_41 : decode cX12_cheese 41 = .ok (.aload_n 0, 1) := by decide +kernel
theorem dX12_cheese_42 : decode cX12_cheese 42 = .ok (.invokevirtual 369, 3) := by decide +kernel
theorem dX12_cheese_45 : decode cX12_cheese 45 = .ok (.aload_n 0, 1) := by decide +kernel
theorem dX12_cheese_46 : decode cX12_cheese 46 = .ok (.getfield 7, 3) := by decide +kernel
theorem dX12_cheese_49 : decode cX12_cheese 49 = .ok (.aload_n 0, 1) := by decide +kernel
theorem dX12_cheese_50 : decode cX12_cheese 50 = .ok (.getfield 7, 3) := by decide +kernel
theorem dX12_cheese_53 : decode cX12_cheese 53 = .ok (.iload_n 1, 1) := by decide +kernel
theorem dX12_cheese_54 : decode cX12_cheese 54 = .ok (.invokestatic 226, 3) := by decide +kernel
theorem dX12_cheese_57 : decode cX12_cheese 57 = .ok (.invokestatic 295, 3) := by decide +kernel
theorem dX12_cheese_60 : decode cX12_cheese 60 = .ok (.ireturn, 1) := by decide +kernel
set_option maxRecDepth 20000 in
theorem ggX12_drop_X12_noTicket : GoodIn wsX12_drop wsX12_noTicket := goodIn_r _ [6, 7, 1, 8, 9, 5, 10, 11, 12, 13, 14, 15, 16, 17, 31, 32, 33, 34, 35, 36, 37, 38, 39, 40, 41, 42, 43, 44, 45, 46, 47, 48, 49, 50, 51, 52] (by decide +kernel) (by decide +kernel)
set_option maxRecDepth 20000 in
theorem gX12_drop_X12_noTicket : GoodIn wsX12_drop (wsV RX12 394 RX12 yX12_noTicket wsX12_noTicket) := goodIn_app (goodIn_of _ (by decide +kernel)) ggX12_drop_X12_noTicket
set_option maxRecDepth 20000 in
theorem ggX12_drop_X12_remember : GoodIn wsX12_drop wsX12_remember := goodIn_r _ [21, 22, 23, 1, 24, 25, 26, 5, 27, 31, 32, 33, 34, 35, 36, 37, 38, 39, 40, 41, 42, 43, 44, 45, 46, 47, 48, 49, 50, 51, 52] (by decide +kernel) (by decide +kernel)
set_option maxRecDepth 20000 in
theorem gX12_drop_X12_remember : GoodIn wsX12_drop (wsV RX12 369 RX12 yX12_remember wsX12_remember) := goodIn_app (goodIn_of _ (by decide +kernel)) ggX12_drop_X12_remember
set_option maxRecDepth 20000 in
theorem ggX12_drop_X12_find : GoodIn wsX12_drop wsX12_find := goodIn_r _ [10, 11, 12, 5, 13] (by decide +kernel) (by decide +kernel)
set_option maxRecDepth 20000 in
theorem gX12_drop_X12_find : GoodIn wsX12_drop (va_wsS RX12 226 yX12_find wsX12_find) := goodIn_app (goodIn_of _ (by decide +kernel)) ggX12_drop_X12_find
set_option maxRecDepth 20000 in
theorem ggX12_drop_X12_drops : GoodIn wsX12_drop wsX12_drops := goodIn_r _ [30, 11, 12, 5, 13] (by decide +kernel) (by decide +kernel)
set_option maxRecDepth 20000 in
theorem gX12_drop_X12_drops : GoodIn wsX12_drop (va_wsS RX12 142 yX12_drops wsX12_drops) := goodIn_app (goodIn_of _ (by decide +kernel)) ggX12_drop_X12_drops
theorem dX12_drop_0 : decode cX12_drop 0 = .ok (.aload_n 0, 1) := by decide +kernel
theorem dX12_drop_1 : decode cX12_drop 1 = .ok (.iload_n 1, 1) := by decide +kernel
theorem dX12_drop_2 : decode cX12_drop 2 = .ok (.invokevirtual 394, 3) := by decide +kernel
theorem dX12_drop_5 : decode cX12_drop 5 = .ok (.ifCond .eq 5, 3) := by decide +kernel
theorem dX12_drop_8 : decode cX12_drop 8 = .ok (.iconst 0, 1) := by decide +kernel
theorem dX12_drop_9 : decode cX12_drop 9 = .ok (.ireturn, 1) := by decide +kernel
theorem dX12_drop_10 : decode cX12_drop 10 = .ok (.aload_n 0, 1) := by decide +kernel
theorem dX12_drop_11 : decode cX12_drop 11 = .ok (.invokevirtual 369, 3) := by decide +kernel
theorem dX12_drop_14 : decode cX12_drop 14 = .ok (.aload_n 0, 1) := by decide +kernel
theorem dX12_drop_15 : decode cX12_drop 15 = .ok (.getfield 7, 3) := by decide +kernel
theorem dX12_drop_18 : decode cX12_drop 18 = .ok (.aload_n 0, 1) := by decide +kernel
theorem dX12_drop_19 : decode cX12_drop 19 = .ok (.getfield 7, 3) := by decide +kernel
theorem dX12_drop_22 : decode cX12_drop 22 = .ok (.iload_n 1, 1) := by decide +kernel
theorem dX12_drop_23 : decode cX12_drop 23 = .ok (.invokestatic 226, 3) := by decide +kernel
theorem dX12_drop_26 : decode cX12_drop 26 = .ok (.invokestatic 142, 3) := by decide +kernel
theorem dX12_drop_29 : decode cX12_drop 29 = .ok (.ireturn, 1) := by decide +kernel
set_option maxRecDepth 20000 in
theorem ggX12_sweep_X12_remember : GoodIn wsX12_sweep wsX12_remember := goodIn_r _ [7, 8, 9, 2, 10, 11, 12, 6, 13, 26, 27, 28, 29, 30, 31, 32, 33, 34, 35, 36, 37, 38, 39, 40, 41, 42, 43, 44, 45, 46, 47] (by decide +kernel) (by decide +kernel)
set_option maxRecDepth 20000 in
theorem gX12_sweep_X12_remember : GoodIn wsX12_sweep (wsV RX12 369 RX12 yX12_remember wsX12_remember) := goodIn_app (goodIn_of _ (by decide +kernel)) ggX12_sweep_X12_remember
set_option maxRecDepth 20000 in
theorem ggX12_sweep_X12_sweeps : GoodIn wsX12_sweep wsX12_sweeps := goodIn_r _ [16, 17, 18, 6, 19, 20, 21, 22, 23, 24, 25] (by decide +kernel) (by decide +kernel)
set_option maxRecDepth 20000 in
theorem gX12_sweep_X12_sweeps : GoodIn wsX12_sweep (va_wsS RX12 298 yX12_sweeps wsX12_sweeps) := goodIn_app (goodIn_of _ (by decide +kernel)) ggX12_sweep_X12_sweeps
theorem dX12_sweep_0 : decode cX12_sweep 0 = .ok (.aload_n 0, 1) := by decide +kernel
theorem dX12_sweep_1 : decode cX12_sweep 1 = .ok (.iconst 0, 1) := by decide +kernel
theorem dX12_sweep_2 : decode cX12_sweep 2 = .ok (.putfield 72, 3) := by decide +kernel
theorem dX12_sweep_5 : decode cX12_sweep 5 = .ok (.aload_n 0, 1) := by decide +kernel
theorem dX12_sweep_6 : decode cX12_sweep 6 = .ok (.invokevirtual 369, 3) := by decide +kernel
theorem dX12_sweep_9 : decode cX12_sweep 9 = .ok (.aload_n 0, 1) := by decide +kernel
theorem dX12_sweep_10 : decode cX12_sweep 10 = .ok (.getfield 7, 3) := by decide +kernel
theorem dX12_sweep_13 : decode cX12_sweep 13 = .ok (.invokestatic 298, 3) := by decide +kernel
theorem dX12_sweep_16 : decode cX12_sweep 16 = .ok (.ireturn, 1) := by decide +kernel
set_option maxRecDepth 20000 in
theorem ggX12_setOf_X12_remember : GoodIn wsX12_setOf wsX12_remember := goodIn_r _ [6, 7, 8, 1, 9, 10, 11, 5, 12, 16, 17, 18, 19, 20, 21, 22, 23, 24, 25, 26, 27, 28, 29, 30, 31, 32, 33, 34, 35, 36, 37] (by decide +kernel) (by decide +kernel)
set_option maxRecDepth 20000 in
theorem gX12_setOf_X12_remember : GoodIn wsX12_setOf (wsV RX12 369 RX12 yX12_remember wsX12_remember) := goodIn_app (goodIn_of _ (by decide +kernel)) ggX12_setOf_X12_remember
set_option maxRecDepth 20000 in
theorem ggX12_setOf_X12_ofUser : GoodIn wsX12_setOf wsX12_ofUser := goodIn_r _ [15] (by decide +kernel) (by decide +kernel)
set_option maxRecDepth 20000 in
theorem gX12_setOf_X12_ofUser : GoodIn wsX12_setOf (va_wsS RX12 87 yX12_ofUser wsX12_ofUser) := goodIn_app (goodIn_of _ (by decide +kernel)) ggX12_setOf_X12_ofUser
theorem dX12_setOf_0 : decode cX12_setOf 0 = .ok (.aload_n 0, 1) := by decide +kernel
theorem dX12_setOf_1 : decode cX12_setOf 1 = .ok (.invokevirtual 369, 3) := by decide +kernel
theorem dX12_setOf_4 : decode cX12_setOf 4 = .ok (.aload_n 0, 1) := by decide +kernel
theorem dX12_setOf_5 : decode cX12_setOf 5 = .ok (.getfield 7, 3) := by decide +kernel
theorem dX12_setOf_8 : decode cX12_setOf 8 = .ok (.iload_n 1, 1) := by decide +kernel
theorem dX12_setOf_9 : decode cX12_setOf 9 = .ok (.invokestatic 87, 3) := by decide +kernel
theorem dX12_setOf_12 : decode cX12_setOf 12 = .ok (.iload_n 2, 1) := by decide +kernel
theorem dX12_setOf_13 : decode cX12_setOf 13 = .ok (.iadd, 1) := by decide +kernel
theorem dX12_setOf_14 : decode cX12_setOf 14 = .ok (.iaload, 1) := by decide +kernel
theorem dX12_setOf_15 : decode cX12_setOf 15 = .ok (.istore 4, 2) := by decide +kernel
theorem dX12_setOf_17 : decode cX12_setOf 17 = .ok (.aload_n 0, 1) := by decide +kernel
theorem dX12_setOf_18 : decode cX12_setOf 18 = .ok (.getfield 7, 3) := by decide +kernel
theorem dX12_setOf_21 : decode cX12_setOf 21 = .ok (.iload_n 1, 1) := by decide +kernel
theorem dX12_setOf_22 : decode cX12_setOf 22 = .ok (.invokestatic 87, 3) := by decide +kernel
theorem dX12_setOf_25 : decode cX12_setOf 25 = .ok (.iload_n 2, 1) := by decide +kernel
theorem dX12_setOf_26 : decode cX12_setOf 26 = .ok (.iadd, 1) := by decide +kernel
theorem dX12_setOf_27 : decode cX12_setOf 27 = .ok (.iload_n 3, 1) := by decide +kernel
theorem dX12_setOf_28 : decode cX12_setOf 28 = .ok (.iastore, 1) := by decide +kernel
theorem dX12_setOf_29 : decode cX12_setOf 29 = .ok (.iload 4, 2) := by decide +kernel
theorem dX12_setOf_31 : decode cX12_setOf 31 = .ok (.ireturn, 1) := by decide +kernel
set_option maxRecDepth 20000 in
theorem ggX12_setPassword_X12_noUser : GoodIn wsX12_setPassword wsX12_noUser := goodIn_r _ [5, 6, 7, 8, 9, 4, 10, 11, 12, 13, 14, 15, 16, 17, 18, 40, 41, 42, 43, 44, 45, 46, 47, 48, 49, 50, 51, 52, 53, 54, 55, 56, 57, 58, 59, 60, 61] (by decide +kernel) (by decide +kernel)
set_option maxRecDepth 20000 in
theorem gX12_setPassword_X12_noUser : GoodIn wsX12_setPassword (wsV RX12 388 RX12 yX12_noUser wsX12_noUser) := goodIn_app (goodIn_of _ (by decide +kernel)) ggX12_setPassword_X12_noUser
set_option maxRecDepth 20000 in
theorem ggX12_setPassword_X12_out : GoodIn wsX12_setPassword wsX12_out := goodIn_r _ [22, 12, 13, 4, 14, 15, 16, 17, 18, 11, 40, 41, 42, 43, 44, 45, 46, 47, 48, 49, 50, 51, 52, 53, 54, 55, 56, 57, 58, 59, 60, 61] (by decide +kernel) (by decide +kernel)
set_option maxRecDepth 20000 in
theorem gX12_setPassword_X12_out : GoodIn wsX12_setPassword (wsV RX12 400 RX12 yX12_out wsX12_out) := goodIn_app (goodIn_of _ (by decide +kernel)) ggX12_setPassword_X12_out
set_option maxRecDepth 20000 in
theorem ggX12_setPassword_X12_setOf : GoodIn wsX12_setPassword wsX12_setOf := goodIn_r _ [26, 6, 27, 28, 29, 4, 30, 31, 32, 33, 34, 35, 36, 37, 38, 39, 40, 41, 42, 43, 44, 45, 46, 47, 48, 49, 50, 51, 52, 53, 54, 55, 56, 57, 58, 59, 60, 61] (by decide +kernel) (by decide +kernel)
set_option maxRecDepth 20000 in
theorem gX12_setPassword_X12_setOf : GoodIn wsX12_setPassword (wsV RX12 406 RX12 yX12_setOf wsX12_setOf) := goodIn_app (goodIn_of _ (by decide +kernel)) ggX12_setPassword_X12_setOf
theorem dX12_setPassword_0 : decode cX12_setPassword 0 = .ok (.aload_n 0, 1) := by decide +kernel
theorem dX12_setPassword_1 : decode cX12_setPassword 1 = .ok (.iload_n 1, 1) := by decide +kernel
theorem dX12_setPassword_2 : decode cX12_setPassword 2 = .ok (.invokevirtual 388, 3) := by decide +kernel
theorem dX12_setPassword_5 : decode cX12_setPassword 5 = .ok (.ifCond .ne 15, 3) := by decide +kernel
theorem dX12_setPassword_8 : decode cX12_setPassword 8 = .ok (.aload_n 0, 1) := by decide +kernel
theorem dX12_setPassword_9 : decode cX12_setPassword 9 = .ok (.iload_n 2, 1) := by decide +kernel
theorem dX12_setPassword_10 : decode cX12_setPassword 10 = .ok (.iconst 0, 1) := by decide +kernel
theorem dX12_setPassword_11 : decode cX12_setPassword 11 = .ok (.sipush 9999, 3) := by decide +kernel
theorem dX12_setPassword_14 : decode cX12_setPassword 14 = .ok (.invokevirtual 400, 3) := by decide +kernel
theorem dX12_setPassword_17 : decode cX12_setPassword 17 = .ok (.ifCond .eq 5, 3) := by decide +kernel
theorem dX12_setPassword_20 : decode cX12_setPassword 20 = .ok (.iconst 0, 1) := by decide +kernel
theorem dX12_setPassword_21 : decode cX12_setPassword 21 = .ok (.ireturn, 1) := by decide +kernel
theorem dX12_setPassword_22 : decode cX12_setPassword 22 = .ok (.aload_n 0, 1) := by decide +kernel
theorem dX12_setPassword_23 : decode cX12_setPassword 23 = .ok (.iload_n 1, 1) := by decide +kernel
theorem dX12_setPassword_24 : decode cX12_setPassword 24 = .ok (.iconst 2, 1) := by decide +kernel
theorem dX12_setPassword_25 : decode cX12_setPassword 25 = .ok (.iload_n 2, 1) := by decide +kernel
theorem dX12_setPassword_26 : decode cX12_setPassword 26 = .ok (.invokevirtual 406, 3) := by decide +kernel
theorem dX12_setPassword_29 : decode cX12_setPassword 29 = .ok (.ireturn, 1) := by decide +kernel
set_option maxRecDepth 20000 in
theorem ggX12_setClock_X12_noUser : GoodIn wsX12_setClock wsX12_noUser := goodIn_r _ [5, 6, 7, 8, 9, 4, 10, 11, 12, 13, 14, 15, 16, 17, 18, 40, 41, 42, 43, 44, 45, 46, 47, 48, 49, 50, 51, 52, 53, 54, 55, 56, 57, 58, 59, 60, 61] (by decide +kernel) (by decide +kernel)
set_option maxRecDepth 20000 in
theorem gX12_setClock_X12_noUser : GoodIn wsX12_setClock (wsV RX12 388 RX12 yX12_noUser wsX12_noUser) := goodIn_app (goodIn_of _ (by decide +kernel)) ggX12_setClock_X12_noUser
set_option maxRecDepth 20000 in
theorem ggX12_setClock_X12_out : GoodIn wsX12_setClock wsX12_out := goodIn_r _ [22, 12, 13, 4, 14, 15, 16, 17, 18, 11, 40, 41, 42, 43, 44, 45, 46, 47, 48, 49, 50, 51, 52, 53, 54, 55, 56, 57, 58, 59, 60, 61] (by decide +kernel) (by decide +kernel)
set_option maxRecDepth 20000 in
theorem gX12_setClock_X12_out : GoodIn wsX12_setClock (wsV RX12 400 RX12 yX12_out wsX12_out) := goodIn_app (goodIn_of _ (by decide +kernel)) ggX12_setClock_X12_out
set_option maxRecDepth 20000 in
theorem ggX12_setClock_X12_setOf : GoodIn wsX12_setClock wsX12_setOf := goodIn_r _ [26, 6, 27, 28, 29, 4, 30, 31, 32, 33, 34, 35, 36, 37, 38, 39, 40, 41, 42, 43, 44, 45, 46, 47, 48, 49, 50, 51, 52, 53, 54, 55, 56, 57, 58, 59, 60, 61] (by decide +kernel) (by decide +kernel)
set_option maxRecDepth 20000 in
theorem gX12_setClock_X12_setOf : GoodIn wsX12_setClock (wsV RX12 406 RX12 yX12_setOf wsX12_setOf) := goodIn_app (goodIn_of _ (by decide +kernel)) ggX12_setClock_X12_setOf
theorem dX12_setClock_0 : decode cX12_setClock 0 = .ok (.aload_n 0, 1) := by decide +kernel
theorem dX12_setClock_1 : decode cX12_setClock 1 = .ok (.iload_n 1, 1) := by decide +kernel
theorem dX12_setClock_2 : decode cX12_setClock 2 = .ok (.invokevirtual 388, 3) := by decide +kernel
theorem dX12_setClock_5 : decode cX12_setClock 5 = .ok (.ifCond .ne 15, 3) := by decide +kernel
theorem dX12_setClock_8 : decode cX12_setClock 8 = .ok (.aload_n 0, 1) := by decide +kernel
theorem dX12_setClock_9 : decode cX12_setClock 9 = .ok (.iload_n 2, 1) := by decide +kernel
theorem dX12_setClock_10 : decode cX12_setClock 10 = .ok (.bipush (-9), 2) := by decide +kernel
theorem dX12_setClock_12 : decode cX12_setClock 12 = .ok (.bipush 9, 2) := by decide +kernel
theorem dX12_setClock_14 : decode cX12_setClock 14 = .ok (.invokevirtual 400, 3) := by decide +kernel
theorem dX12_setClock_17 : decode cX12_setClock 17 = .ok (.ifCond .eq 5, 3) := by decide +kernel
theorem dX12_setClock_20 : decode cX12_setClock 20 = .ok (.iconst 0, 1) := by decide +kernel
theorem dX12_setClock_21 : decode cX12_setClock 21 = .ok (.ireturn, 1) := by decide +kernel
theorem dX12_setClock_22 : decode cX12_setClock 22 = .ok (.aload_n 0, 1) := by decide +kernel
theorem dX12_setClock_23 : decode cX12_setClock 23 = .ok (.iload_n 1, 1) := by decide +kernel
theorem dX12_setClock_24 : decode cX12_setClock 24 = .ok (.iconst 3, 1) := by decide +kernel
theorem dX12_setClock_25 : decode cX12_setClock 25 = .ok (.iload_n 2, 1) := by decide +kernel
theorem dX12_setClock_26 : decode cX12_setClock 26 = .ok (.invokevirtual 406, 3) := by decide +kernel
theorem dX12_setClock_29 : decode cX12_setClock 29 = .ok (.ireturn, 1) := by decide +kernel
set_option maxRecDepth 20000 in
theorem ggX12_pass_X12_noNumber : GoodIn wsX12_pass wsX12_noNumber := goodIn_r _ [6, 7, 8, 9, 5, 10, 11, 12, 13, 14, 43, 44, 45, 46, 47, 48, 49, 50, 51, 52, 53, 54, 55, 56, 57, 58, 59, 60, 61, 62, 63, 64] (by decide +kernel) (by decide +kernel)
set_option maxRecDepth 20000 in
theorem gX12_pass_X12_noNumber : GoodIn wsX12_pass (wsV RX12 160 RX12 yX12_noNumber wsX12_noNumber) := goodIn_app (goodIn_of _ (by decide +kernel)) ggX12_pass_X12_noNumber
set_option maxRecDepth 20000 in
theorem ggX12_pass_X12_remember : GoodIn wsX12_pass wsX12_remember := goodIn_r _ [18, 19, 20, 1, 21, 22, 23, 5, 24, 43, 44, 45, 46, 47, 48, 49, 50, 51, 52, 53, 54, 55, 56, 57, 58, 59, 60, 61, 62, 63, 64] (by decide +kernel) (by decide +kernel)
set_option maxRecDepth 20000 in
theorem gX12_pass_X12_remember : GoodIn wsX12_pass (wsV RX12 369 RX12 yX12_remember wsX12_remember) := goodIn_app (goodIn_of _ (by decide +kernel)) ggX12_pass_X12_remember
set_option maxRecDepth 20000 in
theorem ggX12_pass_X12_passes : GoodIn wsX12_pass wsX12_passes := goodIn_r _ [27, 28, 29, 5, 30, 31, 32, 33, 34, 35, 36, 37, 38, 39, 40, 41, 42] (by decide +kernel) (by decide +kernel)
set_option maxRecDepth 20000 in
theorem gX12_pass_X12_passes : GoodIn wsX12_pass (va_wsS RX12 301 yX12_passes wsX12_passes) := goodIn_app (goodIn_of _ (by decide +kernel)) ggX12_pass_X12_passes
theorem dX12_pass_0 : decode cX12_pass 0 = .ok (.aload_n 0, 1) := by decide +kernel
theorem dX12_pass_1 : decode cX12_pass 1 = .ok (.iload_n 1, 1) := by decide +kernel
theorem dX12_pass_2 : decode cX12_pass 2 = .ok (.iconst 1, 1) := by decide +kernel
theorem dX12_pass_3 : decode cX12_pass 3 = .ok (.sipush 999, 3) := by decide +kernel
theorem dX12_pass_6 : decode cX12_pass 6 = .ok (.invokevirtual 160, 3) := by decide +kernel
theorem dX12_pass_9 : decode cX12_pass 9 = .ok (.ifCond .eq 5, 3) := by decide +kernel
theorem dX12_pass_12 : decode cX12_pass 12 = .ok (.iconst 0, 1) := by decide +kernel
theorem dX12_pass_13 : decode cX12_pass 13 = .ok (.ireturn, 1) := by decide +kernel
theorem dX12_pass_14 : decode cX12_pass 14 = .ok (.aload_n 0, 1) := by decide +kernel
theorem dX12_pass_15 : decode cX12_pass 15 = .ok (.invokevirtual 369, 3) := by decide +kernel
theorem dX12_pass_18 : decode cX12_pass 18 = .ok (.aload_n 0, 1) := by decide +kernel
theorem dX12_pass_19 : decode cX12_pass 19 = .ok (.getfield 7, 3) := by decide +kernel
theorem dX12_pass_22 : decode cX12_pass 22 = .ok (.iload_n 1, 1) := by decide +kernel
theorem dX12_pass_23 : decode cX12_pass 23 = .ok (.invokestatic 301, 3) := by decide +kernel
theorem dX12_pass_26 : decode cX12_pass 26 = .ok (.ireturn, 1) := by decide +kernel
theorem dX12_print_0 : decode cX12_print 0 = .ok (.aload_n 0, 1) := by decide +kernel
theorem dX12_print_1 : decode cX12_print 1 = .ok (.getfield 42, 3) := by decide +kernel
theorem dX12_print_4 : decode cX12_print 4 = .ok (.aload_n 0, 1) := by decide +kernel
theorem dX12_print_5 : decode cX12_print 5 = .ok (.getfield 410, 3) := by decide +kernel
theorem dX12_print_8 : decode cX12_print 8 = .ok (.iload_n 1, 1) := by decide +kernel
theorem dX12_print_9 : decode cX12_print 9 = .ok (.i2b, 1) := by decide +kernel
theorem dX12_print_10 : decode cX12_print 10 = .ok (.bastore, 1) := by decide +kernel
theorem dX12_print_11 : decode cX12_print 11 = .ok (.aload_n 0, 1) := by decide +kernel
theorem dX12_print_12 : decode cX12_print 12 = .ok (.dup, 1) := by decide +kernel
theorem dX12_print_13 : decode cX12_print 13 = .ok (.getfield 410, 3) := by decide +kernel
theorem dX12_print_16 : decode cX12_print 16 = .ok (.iconst 1, 1) := by decide +kernel
theorem dX12_print_17 : decode cX12_print 17 = .ok (.iadd, 1) := by decide +kernel
theorem dX12_print_18 : decode cX12_print 18 = .ok (.putfield 410, 3) := by decide +kernel
theorem dX12_print_21 : decode cX12_print 21 = .ok (.return_, 1) := by decide +kernel
set_option maxRecDepth 20000 in
theorem ggX12_printNumber_X12_print : GoodIn wsX12_printNumber wsX12_print := goodIn_r _ [5, 6, 7, 8, 9, 10, 11, 12, 13, 14, 15, 16, 17, 18, 19, 20, 21, 22, 23, 24, 25, 26, 27, 28, 29] (by decide +kernel) (by decide +kernel)
set_option maxRecDepth 20000 in
theorem gX12_printNumber_X12_print : GoodIn wsX12_printNumber (wsV RX12 413 RX12 yX12_print wsX12_print) := goodIn_app (goodIn_of _ (by decide +kernel)) ggX12_printNumber_X12_print
theorem dX12_printNumber_0 : decode cX12_printNumber 0 = .ok (.iconst 1, 1) := by decide +kernel
theorem dX12_printNumber_1 : decode cX12_printNumber 1 = .ok (.istore_n 2, 1) := by decide +kernel
theorem dX12_printNumber_2 : decode cX12_printNumber 2 = .ok (.iload_n 1, 1) := by decide +kernel
theorem dX12_printNumber_3 : decode cX12_printNumber 3 = .ok (.iload_n 2, 1) := by decide +kernel
theorem dX12_printNumber_4 : decode cX12_printNumber 4 = .ok (.idiv, 1) := by decide +kernel
theorem dX12_printNumber_5 : decode cX12_printNumber 5 = .ok (.bipush 9, 2) := by decide +kernel
theorem dX12_printNumber_7 : decode cX12_printNumber 7 = .ok (.if_icmp .le 11, 3) := by decide +kernel
theorem dX12_printNumber_10 : decode cX12_printNumber 10 = .ok (.iload_n 2, 1) := by decide +kernel
theorem dX12_printNumber_11 : decode cX12_printNumber 11 = .ok (.bipush 10, 2) := by decide +kernel
theorem dX12_printNumber_13 : decode cX12_printNumber 13 = .ok (.imul, 1) := by decide +kernel
theorem dX12_printNumber_14 : decode cX12_printNumber 14 = .ok (.istore_n 2, 1) := by decide +kernel
theorem dX12_printNumber_15 : decode cX12_printNumber 15 = .ok (.goto (-13), 3) := by decide +kernel
theorem dX12_printNumber_18 : decode cX12_printNumber 18 = .ok (.iload_n 2, 1) := by decide +kernel
theorem dX12_printNumber_19 : decode cX12_printNumber 19 = .ok (.istore_n 3, 1) := by decide +kernel
theorem dX12_printNumber_20 : decode cX12_printNumber 20 = .ok (.iload_n 3, 1) := by decide +kernel
theorem dX12_printNumber_21 : decode cX12_printNumber 21 = .ok (.ifCond .le 24, 3) := by decide +kernel
theorem dX12_printNumber_24 : decode cX12_printNumber 24 = .ok (.aload_n 0, 1) := by decide +kernel
theorem dX12_printNumber_25 : decode cX12_printNumber 25 = .ok (.bipush 48, 2) := by decide +kernel
theorem dX12_printNumber_27 : decode cX12_printNumber 27 = .ok (.iload_n 1, 1) := by decide +kernel
theorem dX12_printNumber_28 : decode cX12_printNumber 28 = .ok (.iload_n 3, 1) := by decide +kernel
theorem dX12_printNumber_29 : decode cX12_printNumber 29 = .ok (.idiv, 1) := by decide +kernel
theorem dX12_printNumber_30 : decode cX12_printNumber 30 = .ok (.bipush 10, 2) := by decide +kernel
theorem dX12_printNumber_32 : decode cX12_printNumber 32 = .ok (.irem, 1) := by decide +kernel
theorem dX12_printNumber_33 : decode cX12_printNumber 33 = .ok (.iadd, 1) := by decide +kernel
theorem dX12_printNumber_34 : decode cX12_printNumber 34 = .ok (.invokevirtual 413, 3) := by decide +kernel
theorem dX12_printNumber_37 : decode cX12_printNumber 37 = .ok (.iload_n 3, 1) := by decide +kernel
theorem dX12_printNumber_38 : decode cX12_printNumber 38 = .ok (.bipush 10, 2) := by decide +kernel
theorem dX12_printNumber_40 : decode cX12_printNumber 40 = .ok (.idiv, 1) := by decide +kernel
theorem dX12_printNumber_41 : decode cX12_printNumber 41 = .ok (.istore_n 3, 1) := by decide +kernel
theorem dX12_printNumber_42 : decode cX12_printNumber 42 = .ok (.goto (-22), 3) := by decide +kernel
theorem dX12_printNumber_45 : decode cX12_printNumber 45 = .ok (.return_, 1) := by decide +kernel
set_option maxRecDepth 20000 in
theorem ggX12_printName_X12_print : GoodIn wsX12_printName wsX12_print := goodIn_r _ [5, 6, 7, 8, 9, 10, 11, 12, 13, 14, 15, 16, 17, 18, 19, 20, 21, 22, 23, 24, 25, 26, 27, 28, 29] (by decide +kernel) (by decide +kernel)
set_option maxRecDepth 20000 in
theorem gX12_printName_X12_print : GoodIn wsX12_printName (wsV RX12 413 RX12 yX12_print wsX12_print) := goodIn_app (goodIn_of _ (by decide +kernel)) ggX12_printName_X12_print
theorem dX12_printName_0 : decode cX12_printName 0 = .ok (.sipush 19683, 3) := by decide +kernel
theorem dX12_printName_3 : decode cX12_printName 3 = .ok (.istore_n 2, 1) := by decide +kernel
theorem dX12_printName_4 : decode cX12_printName 4 = .ok (.iload_n 2, 1) := by decide +kernel
theorem dX12_printName_5 : decode cX12_printName 5 = .ok (.ifCond .le 30, 3) := by decide +kernel
theorem dX12_printName_8 : decode cX12_printName 8 = .ok (.iload_n 1, 1) := by decide +kernel
theorem dX12_printName_9 : decode cX12_printName 9 = .ok (.iload_n 2, 1) := by decide +kernel
theorem dX12_printName_10 : decode cX12_printName 10 = .ok (.idiv, 1) := by decide +kernel
theorem dX12_printName_11 : decode cX12_printName 11 = .ok (.bipush 27, 2) := by decide +kernel
theorem dX12_printName_13 : decode cX12_printName 13 = .ok (.irem, 1) := by decide +kernel
theorem dX12_printName_14 : decode cX12_printName 14 = .ok (.istore_n 3, 1) := by decide +kernel
theorem dX12_printName_15 : decode cX12_printName 15 = .ok (.iload_n 3, 1) := by decide +kernel
theorem dX12_printName_16 : decode cX12_printName 16 = .ok (.ifCond .le 11, 3) := by decide +kernel
theorem dX12_printName_19 : decode cX12_printName 19 = .ok (.aload_n 0, 1) := by decide +kernel
theorem dX12_printName_20 : decode cX12_printName 20 = .ok (.bipush 96, 2) := by decide +kernel
theorem dX12_printName_22 : decode cX12_printName 22 = .ok (.iload_n 3, 1) := by decide +kernel
theorem dX12_printName_23 : decode cX12_printName 23 = .ok (.iadd, 1) := by decide +kernel
theorem dX12_printName_24 : decode cX12_printName 24 = .ok (.invokevirtual 413, 3) := by decide +kernel
theorem dX12_printName_27 : decode cX12_printName 27 = .ok (.iload_n 2, 1) := by decide +kernel
theorem dX12_printName_28 : decode cX12_printName 28 = .ok (.bipush 27, 2) := by decide +kernel
theorem dX12_printName_30 : decode cX12_printName 30 = .ok (.idiv, 1) := by decide +kernel
theorem dX12_printName_31 : decode cX12_printName 31 = .ok (.istore_n 2, 1) := by decide +kernel
theorem dX12_printName_32 : decode cX12_printName 32 = .ok (.goto (-28), 3) := by decide +kernel
theorem dX12_printName_35 : decode cX12_printName 35 = .ok (.return_, 1) := by decide +kernel
set_option maxRecDepth 20000 in
theorem ggX12_writeTicket_X12_noTicket : GoodIn wsX12_writeTicket wsX12_noTicket := goodIn_r _ [7, 8, 1, 9, 10, 6, 11, 12, 13, 14, 15, 16, 17, 18, 41, 42, 43, 44, 45, 46, 47, 48, 49, 50, 51, 52, 53, 54, 55, 56, 57, 58, 59, 60, 61, 62] (by decide +kernel) (by decide +kernel)
set_option maxRecDepth 20000 in
theorem gX12_writeTicket_X12_noTicket : GoodIn wsX12_writeTicket (wsV RX12 394 RX12 yX12_noTicket wsX12_noTicket) := goodIn_app (goodIn_of _ (by decide +kernel)) ggX12_writeTicket_X12_noTicket
set_option maxRecDepth 20000 in
theorem ggX12_writeTicket_X12_find : GoodIn wsX12_writeTicket wsX12_find := goodIn_r _ [11, 12, 13, 6, 14] (by decide +kernel) (by decide +kernel)
set_option maxRecDepth 20000 in
theorem gX12_writeTicket_X12_find : GoodIn wsX12_writeTicket (va_wsS RX12 226 yX12_find wsX12_find) := goodIn_app (goodIn_of _ (by decide +kernel)) ggX12_writeTicket_X12_find
set_option maxRecDepth 20000 in
theorem ggX12_writeTicket_X12_ofTicket : GoodIn wsX12_writeTicket wsX12_ofTicket := goodIn_r _ [14] (by decide +kernel) (by decide +kernel)
set_option maxRecDepth 20000 in
theorem gX12_writeTicket_X12_ofTicket : GoodIn wsX12_writeTicket (va_wsS RX12 98 yX12_ofTicket wsX12_ofTicket) := goodIn_app (goodIn_of _ (by decide +kernel)) ggX12_writeTicket_X12_ofTicket
set_option maxRecDepth 20000 in
theorem ggX12_writeTicket_X12_printNumber : GoodIn wsX12_writeTicket wsX12_printNumber := goodIn_r _ [22, 23, 24, 25, 6, 26, 27, 2, 41, 42, 43, 44, 45, 46, 47, 48, 49, 50, 51, 52, 53, 54, 55, 56, 57, 58, 59, 60, 61, 62] (by decide +kernel) (by decide +kernel)
set_option maxRecDepth 20000 in
theorem gX12_writeTicket_X12_printNumber : GoodIn wsX12_writeTicket (wsV RX12 416 RX12 yX12_printNumber wsX12_printNumber) := goodIn_app (goodIn_of _ (by decide +kernel)) ggX12_writeTicket_X12_printNumber
set_option maxRecDepth 20000 in
theorem ggX12_writeTicket_X12_print : GoodIn wsX12_writeTicket wsX12_print := goodIn_r _ [26, 27, 2, 41, 42, 43, 44, 45, 46, 47, 48, 49, 50, 51, 52, 53, 54, 55, 56, 57, 58, 59, 60, 61, 62] (by decide +kernel) (by decide +kernel)
set_option maxRecDepth 20000 in
theorem gX12_writeTicket_X12_print : GoodIn wsX12_writeTicket (wsV RX12 413 RX12 yX12_print wsX12_print) := goodIn_app (goodIn_of _ (by decide +kernel)) ggX12_writeTicket_X12_print
set_option maxRecDepth 20000 in
theorem ggX12_writeTicket_X12_ofUser : GoodIn wsX12_writeTicket wsX12_ofUser := goodIn_r _ [30] (by decide +kernel) (by decide +kernel)
set_option maxRecDepth 20000 in
theorem gX12_writeTicket_X12_ofUser : GoodIn wsX12_writeTicket (va_wsS RX12 87 yX12_ofUser wsX12_ofUser) := goodIn_app (goodIn_of _ (by decide +kernel)) ggX12_writeTicket_X12_ofUser
set_option maxRecDepth 20000 in
theorem ggX12_writeTicket_X12_printName : GoodIn wsX12_writeTicket wsX12_printName := goodIn_r _ [34, 23, 24, 25, 6, 26, 27, 2, 41, 42, 43, 44, 45, 46, 47, 48, 49, 50, 51, 52, 53, 54, 55, 56, 57, 58, 59, 60, 61, 62] (by decide +kernel) (by decide +kernel)
set_option maxRecDepth 20000 in
theorem gX12_writeTicket_X12_printName : GoodIn wsX12_writeTicket (wsV RX12 419 RX12 yX12_printName wsX12_printName) := goodIn_app (goodIn_of _ (by decide +kernel)) ggX12_writeTicket_X12_printName
set_option maxRecDepth 20000 in
theorem ggX12_writeTicket_X12_ofRealm : GoodIn wsX12_writeTicket wsX12_ofRealm := goodIn_r _ [37] (by decide +kernel) (by decide +kernel)
set_option maxRecDepth 20000 in
theorem gX12_writeTicket_X12_ofRealm : GoodIn wsX12_writeTicket (va_wsS RX12 91 yX12_ofRealm wsX12_ofRealm) := goodIn_app (goodIn_of _ (by decide +kernel)) ggX12_writeTicket_X12_ofRealm
set_option maxRecDepth 20000 in
theorem ggX12_writeTicket_X12_ofService : GoodIn wsX12_writeTicket wsX12_ofService := goodIn_r _ [40] (by decide +kernel) (by decide +kernel)
set_option maxRecDepth 20000 in
theorem gX12_writeTicket_X12_ofService : GoodIn wsX12_writeTicket (va_wsS RX12 122 yX12_ofService wsX12_ofService) := goodIn_app (goodIn_of _ (by decide +kernel)) ggX12_writeTicket_X12_ofService
theorem dX12_writeTicket_0 : decode cX12_writeTicket 0 = .ok (.aload_n 0, 1) := by decide +kernel
theorem dX12_writeTicket_1 : decode cX12_writeTicket 1 = .ok (.iload_n 1, 1) := by decide +kernel
theorem dX12_writeTicket_2 : decode cX12_writeTicket 2 = .ok (.invokevirtual 394, 3) := by decide +kernel
theorem dX12_writeTicket_5 : decode cX12_writeTicket 5 = .ok (.ifCond .eq 5, 3) := by decide +kernel
theorem dX12_writeTicket_8 : decode cX12_writeTicket 8 = .ok (.iconst 0, 1) := by decide +kernel
theorem dX12_writeTicket_9 : decode cX12_writeTicket 9 = .ok (.ireturn, 1) := by decide +kernel
theorem dX12_writeTicket_10 : decode cX12_writeTicket 10 = .ok (.aload_n 0, 1) := by decide +kernel
theorem dX12_writeTicket_11 : decode cX12_writeTicket 11 = .ok (.getfield 7, 3) := by decide +kernel
theorem dX12_writeTicket_14 : decode cX12_writeTicket 14 = .ok (.iload_n 1, 1) := by decide +kernel
theorem dX12_writeTicket_15 : decode cX12_writeTicket 15 = .ok (.invokestatic 226, 3) := by decide +kernel
theorem dX12_writeTicket_18 : decode cX12_writeTicket 18 = .ok (.invokestatic 98, 3) := by decide +kernel
theorem dX12_writeTicket_21 : decode cX12_writeTicket 21 = .ok (.istore_n 2, 1) := by decide +kernel
theorem dX12_writeTicket_22 : decode cX12_writeTicket 22 = .ok (.aload_n 0, 1) := by decide +kernel
theorem dX12_writeTicket_23 : decode cX12_writeTicket 23 = .ok (.iconst 0, 1) := by decide +kernel
theorem dX12_writeTicket_24 : decode cX12_writeTicket 24 = .ok (.putfield 410, 3) := by decide +kernel
theorem dX12_writeTicket_27 : decode cX12_writeTicket 27 = .ok (.aload_n 0, 1) := by decide +kernel
theorem dX12_writeTicket_28 : decode cX12_writeTicket 28 = .ok (.iload_n 1, 1) := by decide +kernel
theorem dX12_writeTicket_29 : decode cX12_writeTicket 29 = .ok (.invokevirtual 416, 3) := by decide +kernel
theorem dX12_writeTicket_32 : decode cX12_writeTicket 32 = .ok (.aload_n 0, 1) := by decide +kernel
theorem dX12_writeTicket_33 : decode cX12_writeTicket 33 = .ok (.bipush 58, 2) := by decide +kernel
theorem dX12_writeTicket_35 : decode cX12_writeTicket 35 = .ok (.invokevirtual 413, 3) := by decide +kernel
theorem dX12_writeTicket_38 : decode cX12_writeTicket 38 = .ok (.aload_n 0, 1) := by decide +kernel
theorem dX12_writeTicket_39 : decode cX12_writeTicket 39 = .ok (.aload_n 0, 1) := by decide +kernel
theorem dX12_writeTicket_40 : decode cX12_writeTicket 40 = .ok (.getfield 7, 3) := by decide +kernel
theorem dX12_writeTicket_43 : decode cX12_writeTicket 43 = .ok (.aload_n 0, 1) := by decide +kernel
theorem dX12_writeTicket_44 : decode cX12_writeTicket 44 = .ok (.getfield 7, 3) := by decide +kernel
theorem dX12_writeTicket_47 : decode cX12_writeTicket 47 = .ok (.iload_n 2, 1) := by decide +kernel
theorem dX12_writeTicket_48 : decode cX12_writeTicket 48 = .ok (.iconst 2, 1) := by decide +kernel
theorem dX12_writeTicket_49 : decode cX12_writeTicket 49 = .ok (.iadd, 1) := by decide +kernel
theorem dX12_writeTicket_50 : decode cX12_writeTicket 50 = .ok (.iaload, 1) := by decide +kernel
theorem dX12_writeTicket_51 : decode cX12_writeTicket 51 = .ok (.invokestatic 87, 3) := by decide +kernel
theorem dX12_writeTicket_54 : decode cX12_writeTicket 54 = .ok (.iconst 0, 1) := by decide +kernel
theorem dX12_writeTicket_55 : decode cX12_writeTicket 55 = .ok (.iadd, 1) := by decide +kernel
theorem dX12_writeTicket_56 : decode cX12_writeTicket 56 = .ok (.iaload, 1) := by decide +kernel
theorem dX12_writeTicket_57 : decode cX12_writeTicket 57 = .ok (.invokevirtual 419, 3) := by decide +kernel
theorem dX12_writeTicket_60 : decode cX12_writeTicket 60 = .ok (.aload_n 0, 1) := by decide +kernel
theorem dX12_writeTicket_61 : decode cX12_writeTicket 61 = .ok (.bipush 64, 2) := by decide +kernel
theorem dX12_writeTicket_63 : decode cX12_writeTicket 63 = .ok (.invokevirtual 413, 3) := by decide +kernel
theorem dX12_writeTicket_66 : decode cX12_writeTicket 66 = .ok (.aload_n 0, 1) := by decide +kernel
theorem dX12_writeTicket_67 : decode cX12_writeTicket 67 = .ok (.aload_n 0, 1) := by decide +kernel
theorem dX12_writeTicket_68 : decode cX12_writeTicket 68 = .ok (.getfield 7, 3) := by decide +kernel
theorem dX12_writeTicket_71 : decode cX12_writeTicket 71 = .ok (.aload_n 0, 1) := by decide +kernel
theorem dX12_writeTicket_72 : decode cX12_writeTicket 72 = .ok (.getfield 7, 3) := by decide +kernel
theorem dX12_writeTicket_75 : decode cX12_writeTicket 75 = .ok (.iload_n 2, 1) := by decide +kernel
theorem dX12_writeTicket_76 : decode cX12_writeTicket 76 = .ok (.iconst 3, 1) := by decide +kernel
theorem dX12_writeTicket_77 : decode cX12_writeTicket 77 = .ok (.iadd, 1) := by decide +kernel
theorem dX12_writeTicket_78 : decode cX12_writeTicket 78 = .ok (.iaload, 1) := by decide +kernel
theorem dX12_writeTicket_79 : decode cX12_writeTicket 79 = .ok (.invokestatic 91, 3) := by decide +kernel
theorem dX12_writeTicket_82 : decode cX12_writeTicket 82 = .ok (.iconst 0, 1) := by decide +kernel
theorem dX12_writeTicket_83 : decode cX12_writeTicket 83 = .ok (.iadd, 1) := by decide +kernel
theorem dX12_writeTicket_84 : decode cX12_writeTicket 84 = .ok (.iaload, 1) := by decide +kernel
theorem dX12_writeTicket_85 : decode cX12_writeTicket 85 = .ok (.invokevirtual 419, 3) := by decide +kernel
theorem dX12_writeTicket_88 : decode cX12_writeTicket 88 = .ok (.aload_n 0, 1) := by decide +kernel
theorem dX12_writeTicket_89 : decode cX12_writeTicket 89 = .ok (.getfield 7, 3) := by decide +kernel
theorem dX12_writeTicket_92 : decode cX12_writeTicket 92 = .ok (.iload_n 2, 1) := by decide +kernel
theorem dX12_writeTicket_93 : decode cX12_writeTicket 93 = .ok (.iconst 1, 1) := by decide +kernel
theorem dX12_writeTicket_94 : decode cX12_writeTicket 94 = .ok (.iadd, 1) := by decide +kernel
theorem dX12_writeTicket_95 : decode cX12_writeTicket 95 = .ok (.iaload, 1) := by decide +kernel
theorem dX12_writeTicket_96 : decode cX12_writeTicket 96 = .ok (.iconst 1, 1) := by decide +kernel
theorem dX12_writeTicket_97 : decode cX12_writeTicket 97 = .ok (.if_icmp .ne 31, 3) := by decide +kernel
theorem dX12_writeTicket_100 : decode cX12_writeTicket 100 = .ok (.aload_n 0, 1) := by decide +kernel
theorem dX12_writeTicket_101 : decode cX12_writeTicket 101 = .ok (.bipush 47, 2) := by decide +kernel
theorem dX12_writeTicket_103 : decode cX12_writeTicket 103 = .ok (.invokevirtual 413, 3) := by decide +kernel
theorem dX12_writeTicket_106 : decode cX12_writeTicket 106 = .ok (.aload_n 0, 1) := by decide +kernel
theorem dX12_writeTicket_107 : decode cX12_writeTicket 107 = .ok (.aload_n 0, 1) := by decide +kernel
theorem dX12_writeTicket_108 : decode cX12_writeTicket 108 = .ok (.getfield 7, 3) := by decide +kernel
theorem dX12_writeTicket_111 : decode cX12_writeTicket 111 = .ok (.aload_n 0, 1) := by decide +kernel
theorem dX12_writeTicket_112 : decode cX12_writeTicket 112 = .ok (.getfield 7, 3) := by decide +kernel
theorem dX12_writeTicket_115 : decode cX12_writeTicket 115 = .ok (.iload_n 2, 1) := by decide +kernel
theorem dX12_writeTicket_116 : decode cX12_writeTicket 116 = .ok (.iconst 4, 1) := by decide +kernel
theorem dX12_writeTicket_117 : decode cX12_writeTicket 117 = .ok (.iadd, 1) := by decide +kernel
theorem dX12_writeTicket_118 : decode cX12_writeTicket 118 = .ok (.iaload, 1) := by decide +kernel
theorem dX12_writeTicket_119 : decode cX12_writeTicket 119 = .ok (.invokestatic 122, 3) := by decide +kernel
theorem dX12_writeTicket_122 : decode cX12_writeTicket 122 = .ok (.iconst 0, 1) := by decide +kernel
theorem dX12_writeTicket_123 : decode cX12_writeTicket 123 = .ok (.iadd, 1) := by decide +kernel
theorem dX12_writeTicket_124 : decode cX12_writeTicket 124 = .ok (.iaload, 1) := by decide +kernel
theorem dX12_writeTicket_125 : decode cX12_writeTicket 125 = .ok (.invokevirtual 419, 3) := by decide +kernel
theorem dX12_writeTicket_128 : decode cX12_writeTicket 128 = .ok (.aload_n 0, 1) := by decide +kernel
theorem dX12_writeTicket_129 : decode cX12_writeTicket 129 = .ok (.bipush 32, 2) := by decide +kernel
theorem dX12_writeTicket_131 : decode cX12_writeTicket 131 = .ok (.invokevirtual 413, 3) := by decide +kernel
theorem dX12_writeTicket_134 : decode cX12_writeTicket 134 = .ok (.aload_n 0, 1) := by decide +kernel
theorem dX12_writeTicket_135 : decode cX12_writeTicket 135 = .ok (.aload_n 0, 1) := by decide +kernel
theorem dX12_writeTicket_136 : decode cX12_writeTicket 136 = .ok (.getfield 7, 3) := by decide +kernel
theorem dX12_writeTicket_139 : decode cX12_writeTicket 139 = .ok (.iload_n 2, 1) := by decide +kernel
theorem dX12_writeTicket_140 : decode cX12_writeTicket 140 = .ok (.bipush 6, 2) := by decide +kernel
theorem dX12_writeTicket_142 : decode cX12_writeTicket 142 = .ok (.iadd, 1) := by decide +kernel
theorem dX12_writeTicket_143 : decode cX12_writeTicket 143 = .ok (.iaload, 1) := by decide +kernel
theorem dX12_writeTicket_144 : decode cX12_writeTicket 144 = .ok (.invokevirtual 416, 3) := by decide +kernel
theorem dX12_writeTicket_147 : decode cX12_writeTicket 147 = .ok (.aload_n 0, 1) := by decide +kernel
theorem dX12_writeTicket_148 : decode cX12_writeTicket 148 = .ok (.getfield 7, 3) := by decide +kernel
theorem dX12_writeTicket_151 : decode cX12_writeTicket 151 = .ok (.iload_n 2, 1) := by decide +kernel
theorem dX12_writeTicket_152 : decode cX12_writeTicket 152 = .ok (.bipush 9, 2) := by decide +kernel
theorem dX12_writeTicket_154 : decode cX12_writeTicket 154 = .ok (.iadd, 1) := by decide +kernel
theorem dX12_writeTicket_155 : decode cX12_writeTicket 155 = .ok (.iaload, 1) := by decide +kernel
theorem dX12_writeTicket_156 : decode cX12_writeTicket 156 = .ok (.iconst 1, 1) := by decide +kernel
theorem dX12_writeTicket_157 : decode cX12_writeTicket 157 = .ok (.if_icmp .ne 9, 3) := by decide +kernel
theorem dX12_writeTicket_160 : decode cX12_writeTicket 160 = .ok (.aload_n 0, 1) := by decide +kernel
theorem dX12_writeTicket_161 : decode cX12_writeTicket 161 = .ok (.bipush 43, 2) := by decide +kernel
theorem dX12_writeTicket_163 : decode cX12_writeTicket 163 = .ok (.invokevirtual 413, 3) := by decide +kernel
theorem dX12_writeTicket_166 : decode cX12_writeTicket 166 = .ok (.aload_n 0, 1) := by decide +kernel
theorem dX12_writeTicket_167 : decode cX12_writeTicket 167 = .ok (.getfield 410, 3) := by decide +kernel
theorem dX12_writeTicket_170 : decode cX12_writeTicket 170 = .ok (.ireturn, 1) := by decide +kernel
set_option maxRecDepth 20000 in
theorem ggX12_outputByte_X12_noNumber : GoodIn wsX12_outputByte wsX12_noNumber := goodIn_r _ [7, 8, 9, 10, 6, 11, 12, 13, 14, 15, 16, 17, 18, 19, 20, 21, 22, 23, 24, 25, 26, 27, 28, 29, 30, 31, 32, 33, 34, 35, 36, 37] (by decide +kernel) (by decide +kernel)
set_option maxRecDepth 20000 in
theorem gX12_outputByte_X12_noNumber : GoodIn wsX12_outputByte (wsV RX12 160 RX12 yX12_noNumber wsX12_noNumber) := goodIn_app (goodIn_of _ (by decide +kernel)) ggX12_outputByte_X12_noNumber
theorem dX12_outputByte_0 : decode cX12_outputByte 0 = .ok (.aload_n 0, 1) := by decide +kernel
theorem dX12_outputByte_1 : decode cX12_outputByte 1 = .ok (.iload_n 1, 1) := by decide +kernel
theorem dX12_outputByte_2 : decode cX12_outputByte 2 = .ok (.iconst 0, 1) := by decide +kernel
theorem dX12_outputByte_3 : decode cX12_outputByte 3 = .ok (.aload_n 0, 1) := by decide +kernel
theorem dX12_outputByte_4 : decode cX12_outputByte 4 = .ok (.getfield 410, 3) := by decide +kernel
theorem dX12_outputByte_7 : decode cX12_outputByte 7 = .ok (.iconst 1, 1) := by decide +kernel
theorem dX12_outputByte_8 : decode cX12_outputByte 8 = .ok (.isub, 1) := by decide +kernel
theorem dX12_outputByte_9 : decode cX12_outputByte 9 = .ok (.invokevirtual 160, 3) := by decide +kernel
theorem dX12_outputByte_12 : decode cX12_outputByte 12 = .ok (.ifCond .eq 5, 3) := by decide +kernel
theorem dX12_outputByte_15 : decode cX12_outputByte 15 = .ok (.iconst 0, 1) := by decide +kernel
theorem dX12_outputByte_16 : decode cX12_outputByte 16 = .ok (.ireturn, 1) := by decide +kernel
theorem dX12_outputByte_17 : decode cX12_outputByte 17 = .ok (.aload_n 0, 1) := by decide +kernel
theorem dX12_outputByte_18 : decode cX12_outputByte 18 = .ok (.getfield 42, 3) := by decide +kernel
theorem dX12_outputByte_21 : decode cX12_outputByte 21 = .ok (.iload_n 1, 1) := by decide +kernel
theorem dX12_outputByte_22 : decode cX12_outputByte 22 = .ok (.baload, 1) := by decide +kernel
theorem dX12_outputByte_23 : decode cX12_outputByte 23 = .ok (.ireturn, 1) := by decide +kernel
set_option maxRecDepth 20000 in
theorem ggX12_save_X12_noNumber : GoodIn wsX12_save wsX12_noNumber := goodIn_r _ [8, 9, 10, 11, 7, 12, 13, 14, 15, 16, 20, 21, 22, 23, 24, 25, 26, 27, 28, 29, 30, 31, 32, 33, 34, 35, 36, 37, 38, 39, 40, 41] (by decide +kernel) (by decide +kernel)
set_option maxRecDepth 20000 in
theorem gX12_save_X12_noNumber : GoodIn wsX12_save (wsV RX12 160 RX12 yX12_noNumber wsX12_noNumber) := goodIn_app (goodIn_of _ (by decide +kernel)) ggX12_save_X12_noNumber
set_option maxRecDepth 20000 in
theorem ggX12_save_X12_copyRow : GoodIn wsX12_save wsX12_copyRow := goodIn_r _ [19] (by decide +kernel) (by decide +kernel)
set_option maxRecDepth 20000 in
theorem gX12_save_X12_copyRow : GoodIn wsX12_save (va_wsS RX12 58 yX12_copyRow wsX12_copyRow) := goodIn_app (goodIn_of _ (by decide +kernel)) ggX12_save_X12_copyRow
theorem dX12_save_0 : decode cX12_save 0 = .ok (.aload_n 0, 1) := by decide +kernel
theorem dX12_save_1 : decode cX12_save 1 = .ok (.iload_n 1, 1) := by decide +kernel
theorem dX12_save_2 : decode cX12_save 2 = .ok (.iconst 0, 1) := by decide +kernel
theorem dX12_save_3 : decode cX12_save 3 = .ok (.iconst 1, 1) := by decide +kernel
theorem dX12_save_4 : decode cX12_save 4 = .ok (.invokevirtual 160, 3) := by decide +kernel
theorem dX12_save_7 : decode cX12_save 7 = .ok (.ifCond .eq 5, 3) := by decide +kernel
theorem dX12_save_10 : decode cX12_save 10 = .ok (.iconst 0, 1) := by decide +kernel
theorem dX12_save_11 : decode cX12_save 11 = .ok (.ireturn, 1) := by decide +kernel
theorem dX12_save_12 : decode cX12_save 12 = .ok (.aload_n 0, 1) := by decide +kernel
theorem dX12_save_13 : decode cX12_save 13 = .ok (.getfield 7, 3) := by decide +kernel
theorem dX12_save_16 : decode cX12_save 16 = .ok (.iconst 0, 1) := by decide +kernel
theorem dX12_save_17 : decode cX12_save 17 = .ok (.aload_n 0, 1) := by decide +kernel
theorem dX12_save_18 : decode cX12_save 18 = .ok (.getfield 22, 3) := by decide +kernel
theorem dX12_save_21 : decode cX12_save 21 = .ok (.sipush 463, 3) := by decide +kernel
theorem dX12_save_24 : decode cX12_save 24 = .ok (.iload_n 1, 1) := by decide +kernel
theorem dX12_save_25 : decode cX12_save 25 = .ok (.imul, 1) := by decide +kernel
theorem dX12_save_26 : decode cX12_save 26 = .ok (.invokestatic 58, 3) := by decide +kernel
theorem dX12_save_29 : decode cX12_save 29 = .ok (.aload_n 0, 1) := by decide +kernel
theorem dX12_save_30 : decode cX12_save 30 = .ok (.getfield 25, 3) := by decide +kernel
theorem dX12_save_33 : decode cX12_save 33 = .ok (.iload_n 1, 1) := by decide +kernel
theorem dX12_save_34 : decode cX12_save 34 = .ok (.iconst 1, 1) := by decide +kernel
theorem dX12_save_35 : decode cX12_save 35 = .ok (.bastore, 1) := by decide +kernel
theorem dX12_save_36 : decode cX12_save 36 = .ok (.aload_n 0, 1) := by decide +kernel
theorem dX12_save_37 : decode cX12_save 37 = .ok (.getfield 7, 3) := by decide +kernel
theorem dX12_save_40 : decode cX12_save 40 = .ok (.iconst 0, 1) := by decide +kernel
theorem dX12_save_41 : decode cX12_save 41 = .ok (.iaload, 1) := by decide +kernel
theorem dX12_save_42 : decode cX12_save 42 = .ok (.ireturn, 1) := by decide +kernel
set_option maxRecDepth 20000 in
theorem ggX12_restore_X12_noNumber : GoodIn wsX12_restore wsX12_noNumber := goodIn_r _ [8, 9, 10, 11, 7, 12, 13, 14, 15, 16, 27, 28, 29, 30, 31, 32, 33, 34, 35, 36, 37, 38, 39, 40, 41, 42, 43, 44, 45, 46, 47, 48] (by decide +kernel) (by decide +kernel)
set_option maxRecDepth 20000 in
theorem gX12_restore_X12_noNumber : GoodIn wsX12_restore (wsV RX12 160 RX12 yX12_noNumber wsX12_noNumber) := goodIn_app (goodIn_of _ (by decide +kernel)) ggX12_restore_X12_noNumber
set_option maxRecDepth 20000 in
theorem ggX12_restore_X12_refuses : GoodIn wsX12_restore wsX12_refuses := goodIn_r _ [16, 9, 27, 28, 29, 30, 31, 32, 33, 34, 35, 36, 37, 38, 39, 40, 41, 42, 43, 44, 45, 46, 47, 48] (by decide +kernel) (by decide +kernel)
set_option maxRecDepth 20000 in
theorem gX12_restore_X12_refuses : GoodIn wsX12_restore (wsV RX12 152 RX12 yX12_refuses wsX12_refuses) := goodIn_app (goodIn_of _ (by decide +kernel)) ggX12_restore_X12_refuses
set_option maxRecDepth 20000 in
theorem ggX12_restore_X12_remember : GoodIn wsX12_restore wsX12_remember := goodIn_r _ [20, 21, 22, 3, 23, 24, 25, 7, 26, 27, 28, 29, 30, 31, 32, 33, 34, 35, 36, 37, 38, 39, 40, 41, 42, 43, 44, 45, 46, 47, 48] (by decide +kernel) (by decide +kernel)
set_option maxRecDepth 20000 in
theorem gX12_restore_X12_remember : GoodIn wsX12_restore (wsV RX12 369 RX12 yX12_remember wsX12_remember) := goodIn_app (goodIn_of _ (by decide +kernel)) ggX12_restore_X12_remember
set_option maxRecDepth 20000 in
theorem ggX12_restore_X12_copyRow : GoodIn wsX12_restore wsX12_copyRow := goodIn_r _ [26] (by decide +kernel) (by decide +kernel)
set_option maxRecDepth 20000 in
theorem gX12_restore_X12_copyRow : GoodIn wsX12_restore (va_wsS RX12 58 yX12_copyRow wsX12_copyRow) := goodIn_app (goodIn_of _ (by decide +kernel)) ggX12_restore_X12_copyRow
theorem dX12_restore_0 : decode cX12_restore 0 = .ok (.aload_n 0, 1) := by decide +kernel
theorem dX12_restore_1 : decode cX12_restore 1 = .ok (.iload_n 1, 1) := by decide +kernel
theorem dX12_restore_2 : decode cX12_restore 2 = .ok (.iconst 0, 1) := by decide +kernel
theorem dX12_restore_3 : decode cX12_restore 3 = .ok (.iconst 1, 1) := by decide +kernel
theorem dX12_restore_4 : decode cX12_restore 4 = .ok (.invokevirtual 160, 3) := by decide +kernel
theorem dX12_restore_7 : decode cX12_restore 7 = .ok (.ifCond .ne 25, 3) := by decide +kernel
theorem dX12_restore_10 : decode cX12_restore 10 = .ok (.aload_n 0, 1) := by decide +kernel
theorem dX12_restore_11 : decode cX12_restore 11 = .ok (.aload_n 0, 1) := by decide +kernel
theorem dX12_restore_12 : decode cX12_restore 12 = .ok (.getfield 25, 3) := by decide +kernel
theorem dX12_restore_15 : decode cX12_restore 15 = .ok (.iload_n 1, 1) := by decide +kernel
theorem dX12_restore_16 : decode cX12_restore 16 = .ok (.baload, 1) := by decide +kernel
theorem dX12_restore_17 : decode cX12_restore 17 = .ok (.ifCond .ne 7, 3) := by decide +kernel
theorem dX12_restore_20 : decode cX12_restore 20 = .ok (.iconst 1, 1) := by decide +kernel
theorem dX12_restore_21 : decode cX12_restore 21 = .ok (.goto 4, 3) := by decide +kernel
theorem dX12_restore_24 : decode cX12_restore 24 = .ok (.iconst 0, 1) := by decide +kernel
theorem dX12_restore_25 : decode cX12_restore 25 = .ok (.iconst 2, 1) := by decide +kernel
theorem dX12_restore_26 : decode cX12_restore 26 = .ok (.invokevirtual 152, 3) := by decide +kernel
theorem dX12_restore_29 : decode cX12_restore 29 = .ok (.ifCond .eq 5, 3) := by decide +kernel
theorem dX12_restore_32 : decode cX12_restore 32 = .ok (.iconst 0, 1) := by decide +kernel
theorem dX12_restore_33 : decode cX12_restore 33 = .ok (.ireturn, 1) := by decide +kernel
theorem dX12_restore_34 : decode cX12_restore 34 = .ok (.aload_n 0, 1) := by decide +kernel
theorem dX12_restore_35 : decode cX12_restore 35 = .ok (.invokevirtual 369, 3) := by decide +kernel
theorem dX12_restore_38 : decode cX12_restore 38 = .ok (.aload_n 0, 1) := by decide +kernel
theorem dX12_restore_39 : decode cX12_restore 39 = .ok (.getfield 22, 3) := by decide +kernel
theorem dX12_restore_42 : decode cX12_restore 42 = .ok (.sipush 463, 3) := by decide +kernel
theorem dX12_restore_45 : decode cX12_restore 45 = .ok (.iload_n 1, 1) := by decide +kernel
theorem dX12_restore_46 : decode cX12_restore 46 = .ok (.imul, 1) := by decide +kernel
theorem dX12_restore_47 : decode cX12_restore 47 = .ok (.aload_n 0, 1) := by decide +kernel
theorem dX12_restore_48 : decode cX12_restore 48 = .ok (.getfield 7, 3) := by decide +kernel
theorem dX12_restore_51 : decode cX12_restore 51 = .ok (.iconst 0, 1) := by decide +kernel
theorem dX12_restore_52 : decode cX12_restore 52 = .ok (.invokestatic 58, 3) := by decide +kernel
theorem dX12_restore_55 : decode cX12_restore 55 = .ok (.aload_n 0, 1) := by decide +kernel
theorem dX12_restore_56 : decode cX12_restore 56 = .ok (.getfield 7, 3) := by decide +kernel
theorem dX12_restore_59 : decode cX12_restore 59 = .ok (.iconst 0, 1) := by decide +kernel
theorem dX12_restore_60 : decode cX12_restore 60 = .ok (.iaload, 1) := by decide +kernel
theorem dX12_restore_61 : decode cX12_restore 61 = .ok (.ireturn, 1) := by decide +kernel
theorem dJ9_abs_0f7a4_0 : decode cJ9_abs_0f7a4 0 = .ok (.iload_n 0, 1) := by decide +kernel
theorem dJ9_abs_0f7a4_1 : decode cJ9_abs_0f7a4 1 = .ok (.ifCond .ge 8, 3) := by decide +kernel
theorem dJ9_abs_0f7a4_4 : decode cJ9_abs_0f7a4 4 = .ok (.iload_n 0, 1) := by decide +kernel
theorem dJ9_abs_0f7a4_5 : decode cJ9_abs_0f7a4 5 = .ok (.ineg, 1) := by decide +kernel
theorem dJ9_abs_0f7a4_6 : decode cJ9_abs_0f7a4 6 = .ok (.goto 4, 3) := by decide +kernel
theorem dJ9_abs_0f7a4_9 : decode cJ9_abs_0f7a4 9 = .ok (.iload_n 0, 1) := by decide +kernel
theorem dJ9_abs_0f7a4_10 : decode cJ9_abs_0f7a4 10 = .ok (.ireturn, 1) := by decide +kernel
theorem dJ9_max_7cf53_0 : decode cJ9_max_7cf53 0 = .ok (.iload_n 0, 1) := by decide +kernel
theorem dJ9_max_7cf53_1 : decode cJ9_max_7cf53 1 = .ok (.iload_n 1, 1) := by decide +kernel
theorem dJ9_max_7cf53_2 : decode cJ9_max_7cf53 2 = .ok (.if_icmp .lt 7, 3) := by decide +kernel
theorem dJ9_max_7cf53_5 : decode cJ9_max_7cf53 5 = .ok (.iload_n 0, 1) := by decide +kernel
theorem dJ9_max_7cf53_6 : decode cJ9_max_7cf53 6 = .ok (.goto 4, 3) := by decide +kernel
theorem dJ9_max_7cf53_9 : decode cJ9_max_7cf53 9 = .ok (.iload_n 1, 1) := by decide +kernel
theorem dJ9_max_7cf53_10 : decode cJ9_max_7cf53 10 = .ok (.ireturn, 1) := by decide +kernel
theorem dJ9_min_7cf53_0 : decode cJ9_min_7cf53 0 = .ok (.iload_n 0, 1) := by decide +kernel
theorem dJ9_min_7cf53_1 : decode cJ9_min_7cf53 1 = .ok (.iload_n 1, 1) := by decide +kernel
theorem dJ9_min_7cf53_2 : decode cJ9_min_7cf53 2 = .ok (.if_icmp .gt 7, 3) := by decide +kernel
theorem dJ9_min_7cf53_5 : decode cJ9_min_7cf53 5 = .ok (.iload_n 0, 1) := by decide +kernel
theorem dJ9_min_7cf53_6 : decode cJ9_min_7cf53 6 = .ok (.goto 4, 3) := by decide +kernel
theorem dJ9_min_7cf53_9 : decode cJ9_min_7cf53 9 = .ok (.iload_n 1, 1) := by decide +kernel
theorem dJ9_min_7cf53_10 : decode cJ9_min_7cf53 10 = .ok (.ireturn, 1) := by decide +kernel
set_option maxRecDepth 20000 in
theorem ggJ0_length_8abf5_J0_coder_7d493 : GoodIn wsJ0_length_8abf5 wsJ0_coder_7d493 := goodIn_r _ [6, 7, 8] (by decide +kernel) (by decide +kernel)
set_option maxRecDepth 20000 in
theorem gJ0_length_8abf5_J0_coder_7d493 : GoodIn wsJ0_length_8abf5 (wsV RJ0 335 RJ0 yJ0_coder_7d493 wsJ0_coder_7d493) := goodIn_app (goodIn_of _ (by decide +kernel)) ggJ0_length_8abf5_J0_coder_7d493
theorem dJ0_length_8abf5_0 : decode cJ0_length_8abf5 0 = .ok (.aload_n 0, 1) := by decide +kernel
theorem dJ0_length_8abf5_1 : decode cJ0_length_8abf5 1 = .ok (.getfield 9, 3) := by decide +kernel
theorem dJ0_length_8abf5_4 : decode cJ0_length_8abf5 4 = .ok (.arraylength, 1) := by decide +kernel
theorem dJ0_length_8abf5_5 : decode cJ0_length_8abf5 5 = .ok (.aload_n 0, 1) := by decide +kernel
theorem dJ0_length_8abf5_6 : decode cJ0_length_8abf5 6 = .ok (.invokevirtual 335, 3) := by decide +kernel
theorem dJ0_length_8abf5_9 : decode cJ0_length_8abf5 9 = .ok (.ishr, 1) := by decide +kernel
theorem dJ0_length_8abf5_10 : decode cJ0_length_8abf5 10 = .ok (.ireturn, 1) := by decide +kernel
set_option maxRecDepth 20000 in
theorem ggJ0_charAt_5068e_J0_isLatin1_aae02 : GoodIn wsJ0_charAt_5068e wsJ0_isLatin1_aae02 := goodIn_r _ [6, 7, 8] (by decide +kernel) (by decide +kernel)
set_option maxRecDepth 20000 in
theorem gJ0_charAt_5068e_J0_isLatin1_aae02 : GoodIn wsJ0_charAt_5068e (wsV RJ0 492 RJ0 yJ0_isLatin1_aae02 wsJ0_isLatin1_aae02) := goodIn_app (goodIn_of _ (by decide +kernel)) ggJ0_charAt_5068e_J0_isLatin1_aae02
set_option maxRecDepth 20000 in
theorem ggJ0_charAt_5068e_J1_charAt_3b067 : GoodIn wsJ0_charAt_5068e wsJ1_charAt_3b067 := goodIn_r _ [12, 13, 14, 5, 15, 16, 17, 18, 19, 20] (by decide +kernel) (by decide +kernel)
set_option maxRecDepth 20000 in
theorem gJ0_charAt_5068e_J1_charAt_3b067 : GoodIn wsJ0_charAt_5068e (va_wsS RJ0 495 yJ1_charAt_3b067 wsJ1_charAt_3b067) := goodIn_app (goodIn_of _ (by decide +kernel)) ggJ0_charAt_5068e_J1_charAt_3b067
set_option maxRecDepth 20000 in
theorem ggJ0_charAt_5068e_J2_charAt_3b067 : GoodIn wsJ0_charAt_5068e wsJ2_charAt_3b067 := goodIn_r _ [24, 25, 26, 23, 27, 28, 29, 30, 31, 14, 5, 15, 16, 17, 18, 19, 20, 32, 33, 34, 35, 36, 37] (by decide +kernel) (by decide +kernel)
set_option maxRecDepth 20000 in
theorem gJ0_charAt_5068e_J2_charAt_3b067 : GoodIn wsJ0_charAt_5068e (va_wsS RJ0 498 yJ2_charAt_3b067 wsJ2_charAt_3b067) := goodIn_app (goodIn_of _ (by decide +kernel)) ggJ0_charAt_5068e_J2_charAt_3b067
theorem dJ0_charAt_5068e_0 : decode cJ0_charAt_5068e 0 = .ok (.aload_n 0, 1) := by decide +kernel
theorem dJ0_charAt_5068e_1 : decode cJ0_charAt_5068e 1 = .ok (.invokevirtual 492, 3) := by decide +kernel
theorem dJ0_charAt_5068e_4 : decode cJ0_charAt_5068e 4 = .ok (.ifCond .eq 12, 3) := by decide +kernel
theorem dJ0_charAt_5068e_7 : decode cJ0_charAt_5068e 7 = .ok (.aload_n 0, 1) := by decide +kernel
theorem dJ0_charAt_5068e_8 : decode cJ0_charAt_5068e 8 = .ok (.getfield 9, 3) := by decide +kernel
theorem dJ0_charAt_5068e_11 : decode cJ0_charAt_5068e 11 = .ok (.iload_n 1, 1) := by decide +kernel
theorem dJ0_charAt_5068e_12 : decode cJ0_charAt_5068e 12 = .ok (.invokestatic 495, 3) := by decide +kernel
theorem dJ0_charAt_5068e_15 : decode cJ0_charAt_5068e 15 = .ok (.ireturn, 1) := by decide +kernel
theorem dJ0_charAt_5068e_16 : decode cJ0_charAt_5068e 16 = .ok (.aload_n 0, 1) := by decide +kernel
theorem dJ0_charAt_5068e_17 : decode cJ0_charAt_5068e 17 = .ok (.getfield 9, 3) := by decide +kernel
theorem dJ0_charAt_5068e_20 : decode cJ0_charAt_5068e 20 = .ok (.iload_n 1, 1) := by decide +kernel
theorem dJ0_charAt_5068e_21 : decode cJ0_charAt_5068e 21 = .ok (.invokestatic 498, 3) := by decide +kernel
theorem dJ0_charAt_5068e_24 : decode cJ0_charAt_5068e 24 = .ok (.ireturn, 1) := by decide +kernel
theorem dJ0_coder_7d493_0 : decode cJ0_coder_7d493 0 = .ok (.getstatic 38, 3) := by decide +kernel
theorem dJ0_coder_7d493_3 : decode cJ0_coder_7d493 3 = .ok (.ifCond .eq 10, 3) := by decide +kernel
theorem dJ0_coder_7d493_6 : decode cJ0_coder_7d493 6 = .ok (.aload_n 0, 1) := by decide +kernel
theorem dJ0_coder_7d493_7 : decode cJ0_coder_7d493 7 = .ok (.getfield 15, 3) := by decide +kernel
theorem dJ0_coder_7d493_10 : decode cJ0_coder_7d493 10 = .ok (.goto 4, 3) := by decide +kernel
theorem dJ0_coder_7d493_13 : decode cJ0_coder_7d493 13 = .ok (.iconst 1, 1) := by decide +kernel
theorem dJ0_coder_7d493_14 : decode cJ0_coder_7d493 14 = .ok (.ireturn, 1) := by decide +kernel
theorem dJ0_isLatin1_aae02_0 : decode cJ0_isLatin1_aae02 0 = .ok (.getstatic 38, 3) := by decide +kernel
theorem dJ0_isLatin1_aae02_3 : decode cJ0_isLatin1_aae02 3 = .ok (.ifCond .eq 14, 3) := by decide +kernel
theorem dJ0_isLatin1_aae02_6 : decode cJ0_isLatin1_aae02 6 = .ok (.aload_n 0, 1) := by decide +kernel
theorem dJ0_isLatin1_aae02_7 : decode cJ0_isLatin1_aae02 7 = .ok (.getfield 15, 3) := by decide +kernel
theorem dJ0_isLatin1_aae02_10 : decode cJ0_isLatin1_aae02 10 = .ok (.ifCond .ne 7, 3) := by decide +kernel
theorem dJ0_isLatin1_aae02_13 : decode cJ0_isLatin1_aae02 13 = .ok (.iconst 1, 1) := by decide +kernel
theorem dJ0_isLatin1_aae02_14 : decode cJ0_isLatin1_aae02 14 = .ok (.goto 4, 3) := by decide +kernel
theorem dJ0_isLatin1_aae02_17 : decode cJ0_isLatin1_aae02 17 = .ok (.iconst 0, 1) := by decide +kernel
theorem dJ0_isLatin1_aae02_18 : decode cJ0_isLatin1_aae02 18 = .ok (.ireturn, 1) := by decide +kernel
set_option maxRecDepth 20000 in
theorem ggJ0_checkIndex_df160_J3_checkIndex_8e157 : GoodIn wsJ0_checkIndex_df160 wsJ3_checkIndex_8e157 := goodIn_r _ [5] (by decide +kernel) (by decide +kernel)
set_option maxRecDepth 20000 in
theorem gJ0_checkIndex_df160_J3_checkIndex_8e157 : GoodIn wsJ0_checkIndex_df160 (va_wsS RJ0 1059 yJ3_checkIndex_8e157 wsJ3_checkIndex_8e157) := goodIn_app (goodIn_of _ (by decide +kernel)) ggJ0_checkIndex_df160_J3_checkIndex_8e157
theorem dJ0_checkIndex_df160_0 : decode cJ0_checkIndex_df160 0 = .ok (.iload_n 0, 1) := by decide +kernel
theorem dJ0_checkIndex_df160_1 : decode cJ0_checkIndex_df160 1 = .ok (.iload_n 1, 1) := by decide +kernel
theorem dJ0_checkIndex_df160_2 : decode cJ0_checkIndex_df160 2 = .ok (.getstatic 1053, 3) := by decide +kernel
theorem dJ0_checkIndex_df160_5 : decode cJ0_checkIndex_df160 5 = .ok (.invokestatic 1059, 3) := by decide +kernel
theorem dJ0_checkIndex_df160_8 : decode cJ0_checkIndex_df160 8 = .ok (.pop, 1) := by decide +kernel
theorem dJ0_checkIndex_df160_9 : decode cJ0_checkIndex_df160 9 = .ok (.return_, 1) := by decide +kernel
set_option maxRecDepth 20000 in
theorem ggJ1_charAt_3b067_J0_checkIndex_df160 : GoodIn wsJ1_charAt_3b067 wsJ0_checkIndex_df160 := goodIn_r _ [4, 5, 6, 7, 8, 9] (by decide +kernel) (by decide +kernel)
set_option maxRecDepth 20000 in
theorem gJ1_charAt_3b067_J0_checkIndex_df160 : GoodIn wsJ1_charAt_3b067 (va_wsS RJ1 9 yJ0_checkIndex_df160 wsJ0_checkIndex_df160) := goodIn_app (goodIn_of _ (by decide +kernel)) ggJ1_charAt_3b067_J0_checkIndex_df160
theorem dJ1_charAt_3b067_0 : decode cJ1_charAt_3b067 0 = .ok (.iload_n 1, 1) := by decide +kernel
theorem dJ1_charAt_3b067_1 : decode cJ1_charAt_3b067 1 = .ok (.aload_n 0, 1) := by decide +kernel
theorem dJ1_charAt_3b067_2 : decode cJ1_charAt_3b067 2 = .ok (.arraylength, 1) := by decide +kernel
theorem dJ1_charAt_3b067_3 : decode cJ1_charAt_3b067 3 = .ok (.invokestatic 9, 3) := by decide +kernel
theorem dJ1_charAt_3b067_6 : decode cJ1_charAt_3b067 6 = .ok (.aload_n 0, 1) := by decide +kernel
theorem dJ1_charAt_3b067_7 : decode cJ1_charAt_3b067 7 = .ok (.iload_n 1, 1) := by decide +kernel
theorem dJ1_charAt_3b067_8 : decode cJ1_charAt_3b067 8 = .ok (.baload, 1) := by decide +kernel
theorem dJ1_charAt_3b067_9 : decode cJ1_charAt_3b067 9 = .ok (.sipush 255, 3) := by decide +kernel
theorem dJ1_charAt_3b067_12 : decode cJ1_charAt_3b067 12 = .ok (.iand, 1) := by decide +kernel
theorem dJ1_charAt_3b067_13 : decode cJ1_charAt_3b067 13 = .ok (.i2c, 1) := by decide +kernel
theorem dJ1_charAt_3b067_14 : decode cJ1_charAt_3b067 14 = .ok (.ireturn, 1) := by decide +kernel
set_option maxRecDepth 20000 in
theorem ggJ2_getChar_3b067_J2_length_9d52b : GoodIn wsJ2_getChar_3b067 wsJ2_length_9d52b := goodIn_r _ [7] (by decide +kernel) (by decide +kernel)
set_option maxRecDepth 20000 in
theorem gJ2_getChar_3b067_J2_length_9d52b : GoodIn wsJ2_getChar_3b067 (va_wsS RJ2 48 yJ2_length_9d52b wsJ2_length_9d52b) := goodIn_app (goodIn_of _ (by decide +kernel)) ggJ2_getChar_3b067_J2_length_9d52b
theorem dJ2_getChar_3b067_0 : decode cJ2_getChar_3b067 0 = .ok (.getstatic 44, 3) := by decide +kernel
theorem dJ2_getChar_3b067_3 : decode cJ2_getChar_3b067 3 = .ok (.ifCond .ne 25, 3) := by decide +kernel
theorem dJ2_getChar_3b067_6 : decode cJ2_getChar_3b067 6 = .ok (.iload_n 1, 1) := by decide +kernel
theorem dJ2_getChar_3b067_7 : decode cJ2_getChar_3b067 7 = .ok (.ifCond .lt 11, 3) := by decide +kernel
theorem dJ2_getChar_3b067_10 : decode cJ2_getChar_3b067 10 = .ok (.iload_n 1, 1) := by decide +kernel
theorem dJ2_getChar_3b067_11 : decode cJ2_getChar_3b067 11 = .ok (.aload_n 0, 1) := by decide +kernel
theorem dJ2_getChar_3b067_12 : decode cJ2_getChar_3b067 12 = .ok (.invokestatic 48, 3) := by decide +kernel
theorem dJ2_getChar_3b067_15 : decode cJ2_getChar_3b067 15 = .ok (.if_icmp .lt 13, 3) := by decide +kernel
theorem dJ2_getChar_3b067_18 : decode cJ2_getChar_3b067 18 = .ok (.new 52, 3) := by decide +kernel
theorem dJ2_getChar_3b067_21 : decode cJ2_getChar_3b067 21 = .ok (.dup, 1) := by decide +kernel
theorem dJ2_getChar_3b067_22 : decode cJ2_getChar_3b067 22 = .ok (.ldc 54, 2) := by decide +kernel
theorem dJ2_getChar_3b067_24 : decode cJ2_getChar_3b067 24 = .ok (.invokespecial 56, 3) := by decide +kernel
theorem dJ2_getChar_3b067_27 : decode cJ2_getChar_3b067 27 = .ok (.athrow, 1) := by decide +kernel
theorem dJ2_getChar_3b067_28 : decode cJ2_getChar_3b067 28 = .ok (.iload_n 1, 1) := by decide +kernel
theorem dJ2_getChar_3b067_29 : decode cJ2_getChar_3b067 29 = .ok (.iconst 1, 1) := by decide +kernel
theorem dJ2_getChar_3b067_30 : decode cJ2_getChar_3b067 30 = .ok (.ishl, 1) := by decide +kernel
theorem dJ2_getChar_3b067_31 : decode cJ2_getChar_3b067 31 = .ok (.istore_n 1, 1) := by decide +kernel
theorem dJ2_getChar_3b067_32 : decode cJ2_getChar_3b067 32 = .ok (.aload_n 0, 1) := by decide +kernel
theorem dJ2_getChar_3b067_33 : decode cJ2_getChar_3b067 33 = .ok (.iload_n 1, 1) := by decide +kernel
theorem dJ2_getChar_3b067_34 : decode cJ2_getChar_3b067 34 = .ok (.iinc 1 1, 3) := by decide +kernel
theorem dJ2_getChar_3b067_37 : decode cJ2_getChar_3b067 37 = .ok (.baload, 1) := by decide +kernel
theorem dJ2_getChar_3b067_38 : decode cJ2_getChar_3b067 38 = .ok (.sipush 255, 3) := by decide +kernel
theorem dJ2_getChar_3b067_41 : decode cJ2_getChar_3b067 41 = .ok (.iand, 1) := by decide +kernel
theorem dJ2_getChar_3b067_42 : decode cJ2_getChar_3b067 42 = .ok (.getstatic 59, 3) := by decide +kernel
theorem dJ2_getChar_3b067_45 : decode cJ2_getChar_3b067 45 = .ok (.ishl, 1) := by decide +kernel
theorem dJ2_getChar_3b067_46 : decode cJ2_getChar_3b067 46 = .ok (.aload_n 0, 1) := by decide +kernel
theorem dJ2_getChar_3b067_47 : decode cJ2_getChar_3b067 47 = .ok (.iload_n 1, 1) := by decide +kernel
theorem dJ2_getChar_3b067_48 : decode cJ2_getChar_3b067 48 = .ok (.baload, 1) := by decide +kernel
theorem dJ2_getChar_3b067_49 : decode cJ2_getChar_3b067 49 = .ok (.sipush 255, 3) := by decide +kernel
theorem dJ2_getChar_3b067_52 : decode cJ2_getChar_3b067 52 = .ok (.iand, 1) := by decide +kernel
theorem dJ2_getChar_3b067_53 : decode cJ2_getChar_3b067 53 = .ok (.getstatic 63, 3) := by decide +kernel
theorem dJ2_getChar_3b067_56 : decode cJ2_getChar_3b067 56 = .ok (.ishl, 1) := by decide +kernel
theorem dJ2_getChar_3b067_57 : decode cJ2_getChar_3b067 57 = .ok (.ior, 1) := by decide +kernel
theorem dJ2_getChar_3b067_58 : decode cJ2_getChar_3b067 58 = .ok (.i2c, 1) := by decide +kernel
theorem dJ2_getChar_3b067_59 : decode cJ2_getChar_3b067 59 = .ok (.ireturn, 1) := by decide +kernel
theorem dJ2_length_9d52b_0 : decode cJ2_length_9d52b 0 = .ok (.aload_n 0, 1) := by decide +kernel
theorem dJ2_length_9d52b_1 : decode cJ2_length_9d52b 1 = .ok (.arraylength, 1) := by decide +kernel
theorem dJ2_length_9d52b_2 : decode cJ2_length_9d52b 2 = .ok (.iconst 1, 1) := by decide +kernel
theorem dJ2_length_9d52b_3 : decode cJ2_length_9d52b 3 = .ok (.ishr, 1) := by decide +kernel
theorem dJ2_length_9d52b_4 : decode cJ2_length_9d52b 4 = .ok (.ireturn, 1) := by decide +kernel
set_option maxRecDepth 20000 in
theorem ggJ2_charAt_3b067_J2_checkIndex_2214a : GoodIn wsJ2_charAt_3b067 wsJ2_checkIndex_2214a := goodIn_r _ [4, 5, 6, 3, 7, 8, 9, 10, 11, 12, 13, 14, 15, 16] (by decide +kernel) (by decide +kernel)
set_option maxRecDepth 20000 in
theorem gJ2_charAt_3b067_J2_checkIndex_2214a : GoodIn wsJ2_charAt_3b067 (va_wsS RJ2 67 yJ2_checkIndex_2214a wsJ2_checkIndex_2214a) := goodIn_app (goodIn_of _ (by decide +kernel)) ggJ2_charAt_3b067_J2_checkIndex_2214a
set_option maxRecDepth 20000 in
theorem ggJ2_charAt_3b067_J2_getChar_3b067 : GoodIn wsJ2_charAt_3b067 wsJ2_getChar_3b067 := goodIn_r _ [19, 20, 21, 22, 5, 6, 3, 7] (by decide +kernel) (by decide +kernel)
set_option maxRecDepth 20000 in
theorem gJ2_charAt_3b067_J2_getChar_3b067 : GoodIn wsJ2_charAt_3b067 (va_wsS RJ2 71 yJ2_getChar_3b067 wsJ2_getChar_3b067) := goodIn_app (goodIn_of _ (by decide +kernel)) ggJ2_charAt_3b067_J2_getChar_3b067
theorem dJ2_charAt_3b067_0 : decode cJ2_charAt_3b067 0 = .ok (.iload_n 1, 1) := by decide +kernel
theorem dJ2_charAt_3b067_1 : decode cJ2_charAt_3b067 1 = .ok (.aload_n 0, 1) := by decide +kernel
theorem dJ2_charAt_3b067_2 : decode cJ2_charAt_3b067 2 = .ok (.invokestatic 67, 3) := by decide +kernel
theorem dJ2_charAt_3b067_5 : decode cJ2_charAt_3b067 5 = .ok (.aload_n 0, 1) := by decide +kernel
theorem dJ2_charAt_3b067_6 : decode cJ2_charAt_3b067 6 = .ok (.iload_n 1, 1) := by decide +kernel
theorem dJ2_charAt_3b067_7 : decode cJ2_charAt_3b067 7 = .ok (.invokestatic 71, 3) := by decide +kernel
theorem dJ2_charAt_3b067_10 : decode cJ2_charAt_3b067 10 = .ok (.ireturn, 1) := by decide +kernel
set_option maxRecDepth 20000 in
theorem ggJ2_checkIndex_2214a_J2_length_9d52b : GoodIn wsJ2_checkIndex_2214a wsJ2_length_9d52b := goodIn_r _ [4] (by decide +kernel) (by decide +kernel)
set_option maxRecDepth 20000 in
theorem gJ2_checkIndex_2214a_J2_length_9d52b : GoodIn wsJ2_checkIndex_2214a (va_wsS RJ2 48 yJ2_length_9d52b wsJ2_length_9d52b) := goodIn_app (goodIn_of _ (by decide +kernel)) ggJ2_checkIndex_2214a_J2_length_9d52b
set_option maxRecDepth 20000 in
theorem ggJ2_checkIndex_2214a_J0_checkIndex_df160 : GoodIn wsJ2_checkIndex_2214a wsJ0_checkIndex_df160 := goodIn_r _ [8, 9, 10, 11, 12, 13] (by decide +kernel) (by decide +kernel)
set_option maxRecDepth 20000 in
theorem gJ2_checkIndex_2214a_J0_checkIndex_df160 : GoodIn wsJ2_checkIndex_2214a (va_wsS RJ2 414 yJ0_checkIndex_df160 wsJ0_checkIndex_df160) := goodIn_app (goodIn_of _ (by decide +kernel)) ggJ2_checkIndex_2214a_J0_checkIndex_df160
theorem dJ2_checkIndex_2214a_0 : decode cJ2_checkIndex_2214a 0 = .ok (.iload_n 0, 1) := by decide +kernel
theorem dJ2_checkIndex_2214a_1 : decode cJ2_checkIndex_2214a 1 = .ok (.aload_n 1, 1) := by decide +kernel
theorem dJ2_checkIndex_2214a_2 : decode cJ2_checkIndex_2214a 2 = .ok (.invokestatic 48, 3) := by decide +kernel
theorem dJ2_checkIndex_2214a_5 : decode cJ2_checkIndex_2214a 5 = .ok (.invokestatic 414, 3) := by decide +kernel
theorem dJ2_checkIndex_2214a_8 : decode cJ2_checkIndex_2214a 8 = .ok (.return_, 1) := by decide +kernel
theorem dJ3_checkIndex_8e157_0 : decode cJ3_checkIndex_8e157 0 = .ok (.iload_n 0, 1) := by decide +kernel
theorem dJ3_checkIndex_8e157_1 : decode cJ3_checkIndex_8e157 1 = .ok (.ifCond .lt 8, 3) := by decide +kernel
theorem dJ3_checkIndex_8e157_4 : decode cJ3_checkIndex_8e157 4 = .ok (.iload_n 0, 1) := by decide +kernel
theorem dJ3_checkIndex_8e157_5 : decode cJ3_checkIndex_8e157 5 = .ok (.iload_n 1, 1) := by decide +kernel
theorem dJ3_checkIndex_8e157_6 : decode cJ3_checkIndex_8e157 6 = .ok (.if_icmp .lt 10, 3) := by decide +kernel
theorem dJ3_checkIndex_8e157_9 : decode cJ3_checkIndex_8e157 9 = .ok (.aload_n 2, 1) := by decide +kernel
theorem dJ3_checkIndex_8e157_10 : decode cJ3_checkIndex_8e157 10 = .ok (.iload_n 0, 1) := by decide +kernel
theorem dJ3_checkIndex_8e157_11 : decode cJ3_checkIndex_8e157 11 = .ok (.iload_n 1, 1) := by decide +kernel
theorem dJ3_checkIndex_8e157_12 : decode cJ3_checkIndex_8e157 12 = .ok (.invokestatic 95, 3) := by decide +kernel
theorem dJ3_checkIndex_8e157_15 : decode cJ3_checkIndex_8e157 15 = .ok (.athrow, 1) := by decide +kernel
theorem dJ3_checkIndex_8e157_16 : decode cJ3_checkIndex_8e157 16 = .ok (.iload_n 0, 1) := by decide +kernel
theorem dJ3_checkIndex_8e157_17 : decode cJ3_checkIndex_8e157 17 = .ok (.ireturn, 1) := by decide +kernel
set_option maxRecDepth 20000 in
theorem ggL_appendInput_X11_appendInput : GoodIn wsL_appendInput wsX11_appendInput := goodIn_ca (goodIn_r _ [6, 7, 8, 9, 10, 11, 12, 13, 14, 15, 16, 17, 18, 19, 20, 21, 22, 23, 24, 25, 26, 27, 28, 29, 30, 31, 32, 33, 34] (by decide +kernel) (by decide +kernel)) (goodIn_sub (fun _ h => List.mem_cons_of_mem _ (List.mem_append_right _ h)) (by decide +kernel))
set_option maxRecDepth 20000 in
theorem gL_appendInput_X11_appendInput : GoodIn wsL_appendInput (wsV RL 7 RX11 yX11_appendInput wsX11_appendInput) := goodIn_app (goodIn_of _ (by decide +kernel)) ggL_appendInput_X11_appendInput
theorem dL_appendInput_0 : decode cL_appendInput 0 = .ok (.aload 6, 2) := by decide +kernel
theorem dL_appendInput_2 : decode cL_appendInput 2 = .ok (.iconst 0, 1) := by decide +kernel
theorem dL_appendInput_3 : decode cL_appendInput 3 = .ok (.aload_n 0, 1) := by decide +kernel
theorem dL_appendInput_4 : decode cL_appendInput 4 = .ok (.iload_n 1, 1) := by decide +kernel
theorem dL_appendInput_5 : decode cL_appendInput 5 = .ok (.iload_n 2, 1) := by decide +kernel
theorem dL_appendInput_6 : decode cL_appendInput 6 = .ok (.iload_n 3, 1) := by decide +kernel
theorem dL_appendInput_7 : decode cL_appendInput 7 = .ok (.iload 4, 2) := by decide +kernel
theorem dL_appendInput_9 : decode cL_appendInput 9 = .ok (.iload 5, 2) := by decide +kernel
theorem dL_appendInput_11 : decode cL_appendInput 11 = .ok (.invokevirtual 7, 3) := by decide +kernel
theorem dL_appendInput_14 : decode cL_appendInput 14 = .ok (.i2l, 1) := by decide +kernel
theorem dL_appendInput_15 : decode cL_appendInput 15 = .ok (.lastore, 1) := by decide +kernel
theorem dL_appendInput_16 : decode cL_appendInput 16 = .ok (.goto 7, 3) := by decide +kernel
theorem dL_appendInput_19 : decode cL_appendInput 19 = .ok (.astore 7, 2) := by decide +kernel
theorem dL_appendInput_21 : decode cL_appendInput 21 = .ok (.iconst 1, 1) := by decide +kernel
theorem dL_appendInput_22 : decode cL_appendInput 22 = .ok (.ireturn, 1) := by decide +kernel
theorem dL_appendInput_23 : decode cL_appendInput 23 = .ok (.iconst 0, 1) := by decide +kernel
theorem dL_appendInput_24 : decode cL_appendInput 24 = .ok (.ireturn, 1) := by decide +kernel
set_option maxRecDepth 20000 in
theorem ggL_truncateInput_X11_truncateInput : GoodIn wsL_truncateInput wsX11_truncateInput := goodIn_ca (goodIn_r _ [6, 7, 8, 9, 10, 11, 12, 13, 14, 15, 16, 17, 18, 19, 20, 21, 22, 23, 24, 25, 26, 27, 28, 29] (by decide +kernel) (by decide +kernel)) (goodIn_sub (fun _ h => List.mem_cons_of_mem _ (List.mem_append_right _ h)) (by decide +kernel))
set_option maxRecDepth 20000 in
theorem gL_truncateInput_X11_truncateInput : GoodIn wsL_truncateInput (wsV RL 15 RX11 yX11_truncateInput wsX11_truncateInput) := goodIn_app (goodIn_of _ (by decide +kernel)) ggL_truncateInput_X11_truncateInput
theorem dL_truncateInput_0 : decode cL_truncateInput 0 = .ok (.aload_n 2, 1) := by decide +kernel
theorem dL_truncateInput_1 : decode cL_truncateInput 1 = .ok (.iconst 0, 1) := by decide +kernel
theorem dL_truncateInput_2 : decode cL_truncateInput 2 = .ok (.aload_n 0, 1) := by decide +kernel
theorem dL_truncateInput_3 : decode cL_truncateInput 3 = .ok (.iload_n 1, 1) := by decide +kernel
theorem dL_truncateInput_4 : decode cL_truncateInput 4 = .ok (.invokevirtual 15, 3) := by decide +kernel
theorem dL_truncateInput_7 : decode cL_truncateInput 7 = .ok (.i2l, 1) := by decide +kernel
theorem dL_truncateInput_8 : decode cL_truncateInput 8 = .ok (.lastore, 1) := by decide +kernel
theorem dL_truncateInput_9 : decode cL_truncateInput 9 = .ok (.goto 6, 3) := by decide +kernel
theorem dL_truncateInput_12 : decode cL_truncateInput 12 = .ok (.astore_n 3, 1) := by decide +kernel
theorem dL_truncateInput_13 : decode cL_truncateInput 13 = .ok (.iconst 1, 1) := by decide +kernel
theorem dL_truncateInput_14 : decode cL_truncateInput 14 = .ok (.ireturn, 1) := by decide +kernel
theorem dL_truncateInput_15 : decode cL_truncateInput 15 = .ok (.iconst 0, 1) := by decide +kernel
theorem dL_truncateInput_16 : decode cL_truncateInput 16 = .ok (.ireturn, 1) := by decide +kernel
set_option maxRecDepth 20000 in
theorem ggL_load_X11_load : GoodIn wsL_load wsX11_load := goodIn_ca (goodIn_r _ [6, 7, 8, 9, 10, 11, 12, 13, 14, 15, 16, 17, 18, 19, 20, 21, 22, 23, 24, 25, 26, 27, 28, 29, 30, 31, 32, 33, 34, 35, 36, 37, 38, 39, 40, 41, 42, 43, 44, 45, 46, 47, 48, 49, 50, 51, 52, 53, 54, 55, 56, 57, 58, 59, 60, 61, 62, 63, 64, 65, 66, 67, 68, 69, 70, 71, 72, 73, 74, 75, 76, 77, 78, 79, 80, 81, 82, 83, 84, 85, 86, 87, 88, 89, 90, 91, 92, 93, 94, 95, 96, 97, 98, 99, 100, 101, 102, 103, 104, 105, 106, 107, 108, 109, 110, 111, 112, 113, 114, 115, 116, 117, 118, 119, 120, 121, 122, 123, 124, 125, 126, 127, 128, 129, 130, 131, 132, 133, 134, 135, 136, 137, 138, 139, 140, 141, 142, 143, 144, 145, 146, 147, 148, 149, 150, 151, 152, 153, 154, 155, 156, 157, 158, 159, 160, 161, 162, 163, 164, 165, 166, 167, 168, 169, 170, 171, 172, 173, 174, 175, 176, 177, 178, 179, 180, 181, 182, 183, 184, 185, 186, 187, 188, 189, 190, 191, 192, 193, 194, 195, 196, 197, 198, 199, 200, 201, 202, 203, 204, 205, 206, 207, 208, 209, 210, 211, 212, 213, 214, 215, 216, 217, 218, 219, 220, 221, 222, 223, 224, 225, 226, 227, 228, 229, 230, 231, 232, 233, 234, 235, 236, 237, 238, 239, 240, 241, 242, 243, 244, 245, 246, 247, 248, 249, 250, 251, 252, 253, 254, 255, 256, 257, 258, 259, 260, 261, 262, 263, 264, 265, 266, 267, 268, 269, 270, 271, 272, 273, 274, 275, 276, 277, 278, 279, 280, 281, 282, 283, 284, 285, 286, 287, 288, 289, 290, 291, 292, 293, 294, 295, 296, 297, 298, 299, 300, 301, 302, 303, 304, 305, 306, 307, 308, 309, 310, 311, 312, 313, 314, 315, 316, 317, 318, 319, 320, 321, 322, 323, 324, 325, 326, 327, 328, 329, 330, 331, 332, 333, 334, 335, 336, 337, 338, 339, 340, 341, 342, 343, 344, 345, 346, 347, 348, 349, 350, 351, 352, 353, 354, 355, 356, 357, 358, 359, 360, 361, 362, 363, 364, 365, 366, 367, 368, 369, 370, 371, 372, 373, 374, 375, 376, 377, 378, 379, 380, 381, 382, 383, 384, 385, 386, 387, 388, 389, 390, 391, 392, 393, 394, 395, 396, 397, 398, 399, 400, 401, 402, 403, 404, 405, 406, 407, 408, 409, 410, 411, 412, 413, 414, 415, 416, 417, 418, 419, 420, 421, 422, 423, 424, 425, 426, 427, 428, 429, 430, 431, 432, 433, 434, 435, 436, 437, 438, 439, 440, 441, 442, 443, 444, 445, 446, 447, 448, 449, 450, 451, 452, 453, 454, 455, 456, 457, 458, 459, 460, 461, 462, 463, 464, 465, 466, 467, 468, 469, 470, 471, 472, 473, 474, 475, 476, 477, 478, 479, 480, 481, 482, 483, 484, 485, 486, 487, 488, 489, 490, 491, 492, 493, 494, 495, 496, 497, 5, 498, 499, 500, 501, 502, 503, 504, 505, 506, 507, 508, 509, 510, 511, 512, 513, 514, 515, 516, 517, 518, 519, 520, 521, 522, 523, 524, 525, 526, 527, 528, 529, 530, 531, 532, 533, 534, 535, 536, 537, 538, 539, 540, 541, 542, 543, 544, 545, 546, 547, 548, 549, 550, 551, 552, 553, 554, 555, 556, 557, 558, 559, 560, 561, 562, 563, 564, 565, 566, 567, 568, 569, 570, 571, 572, 573, 574, 575, 576, 577, 578, 579, 580, 581, 582, 583, 584, 585, 586, 587, 588, 589, 590, 591, 592, 593, 594, 595, 596, 597, 598, 599, 600, 601, 602, 603, 604, 605, 606, 607, 608, 609, 610, 611, 612, 613, 614, 615, 616, 617, 618, 619, 620, 621, 622, 623, 624, 625, 626, 627, 628, 629, 630, 631] (by decide +kernel) (by decide +kernel)) (goodIn_sub (fun _ h => List.mem_cons_of_mem _ (List.mem_append_right _ h)) (by decide +kernel))
set_option maxRecDepth 20000 in
theorem gL_load_X11_load : GoodIn wsL_load (wsV RL 21 RX11 yX11_load wsX11_load) := goodIn_app (goodIn_of _ (by decide +kernel)) ggL_load_X11_load
theorem dL_load_0 : decode cL_load 0 = .ok (.aload_n 1, 1) := by decide +kernel
theorem dL_load_1 : decode cL_load 1 = .ok (.iconst 0, 1) := by decide +kernel
theorem dL_load_2 : decode cL_load 2 = .ok (.aload_n 0, 1) := by decide +kernel
theorem dL_load_3 : decode cL_load 3 = .ok (.invokevirtual 21, 3) := by decide +kernel
theorem dL_load_6 : decode cL_load 6 = .ok (.i2l, 1) := by decide +kernel
theorem dL_load_7 : decode cL_load 7 = .ok (.lastore, 1) := by decide +kernel
theorem dL_load_8 : decode cL_load 8 = .ok (.goto 6, 3) := by decide +kernel
theorem dL_load_11 : decode cL_load 11 = .ok (.astore_n 2, 1) := by decide +kernel
theorem dL_load_12 : decode cL_load 12 = .ok (.iconst 1, 1) := by decide +kernel
theorem dL_load_13 : decode cL_load 13 = .ok (.ireturn, 1) := by decide +kernel
theorem dL_load_14 : decode cL_load 14 = .ok (.iconst 0, 1) := by decide +kernel
theorem dL_load_15 : decode cL_load 15 = .ok (.ireturn, 1) := by decide +kernel
set_option maxRecDepth 20000 in
theorem ggL_lifetimeOf_X11_lifetimeOf : GoodIn wsL_lifetimeOf wsX11_lifetimeOf := goodIn_ca (goodIn_r _ [6, 7, 8, 9, 10, 5, 11, 12, 13, 14, 15, 16, 17, 18, 19, 20, 21, 22, 23, 24, 25, 26, 27, 28, 29, 30, 31, 32, 33, 34, 35, 36, 37, 38, 39, 40, 41, 42, 43, 44, 45, 46, 47, 48, 49, 50, 51, 52, 53, 54, 55, 56, 57, 58, 59, 60, 61, 62, 63, 64, 65, 66, 67, 68, 69] (by decide +kernel) (by decide +kernel)) (goodIn_sub (fun _ h => List.mem_cons_of_mem _ (List.mem_append_right _ h)) (by decide +kernel))
set_option maxRecDepth 20000 in
theorem gL_lifetimeOf_X11_lifetimeOf : GoodIn wsL_lifetimeOf (wsV RL 25 RX11 yX11_lifetimeOf wsX11_lifetimeOf) := goodIn_app (goodIn_of _ (by decide +kernel)) ggL_lifetimeOf_X11_lifetimeOf
theorem dL_lifetimeOf_0 : decode cL_lifetimeOf 0 = .ok (.aload_n 2, 1) := by decide +kernel
theorem dL_lifetimeOf_1 : decode cL_lifetimeOf 1 = .ok (.iconst 0, 1) := by decide +kernel
theorem dL_lifetimeOf_2 : decode cL_lifetimeOf 2 = .ok (.aload_n 0, 1) := by decide +kernel
theorem dL_lifetimeOf_3 : decode cL_lifetimeOf 3 = .ok (.iload_n 1, 1) := by decide +kernel
theorem dL_lifetimeOf_4 : decode cL_lifetimeOf 4 = .ok (.invokevirtual 25, 3) := by decide +kernel
theorem dL_lifetimeOf_7 : decode cL_lifetimeOf 7 = .ok (.i2l, 1) := by decide +kernel
theorem dL_lifetimeOf_8 : decode cL_lifetimeOf 8 = .ok (.lastore, 1) := by decide +kernel
theorem dL_lifetimeOf_9 : decode cL_lifetimeOf 9 = .ok (.goto 6, 3) := by decide +kernel
theorem dL_lifetimeOf_12 : decode cL_lifetimeOf 12 = .ok (.astore_n 3, 1) := by decide +kernel
theorem dL_lifetimeOf_13 : decode cL_lifetimeOf 13 = .ok (.iconst 1, 1) := by decide +kernel
theorem dL_lifetimeOf_14 : decode cL_lifetimeOf 14 = .ok (.ireturn, 1) := by decide +kernel
theorem dL_lifetimeOf_15 : decode cL_lifetimeOf 15 = .ok (.iconst 0, 1) := by decide +kernel
theorem dL_lifetimeOf_16 : decode cL_lifetimeOf 16 = .ok (.ireturn, 1) := by decide +kernel
set_option maxRecDepth 20000 in
theorem ggL_clockOf_X11_clockOf : GoodIn wsL_clockOf wsX11_clockOf := goodIn_ca (goodIn_r _ [6, 7, 8, 9, 10, 5, 11, 12, 13, 14, 15, 16, 17, 18, 19, 20, 21, 22, 23, 24, 25, 26, 27, 28, 29, 30, 31, 32, 33, 34, 35, 36, 37, 38, 39, 40, 41, 42, 43, 44, 45, 46, 47, 48, 49, 50, 51, 52, 53, 54, 55, 56, 57, 58, 59, 60, 61, 62, 63, 64, 65, 66, 67, 68, 69] (by decide +kernel) (by decide +kernel)) (goodIn_sub (fun _ h => List.mem_cons_of_mem _ (List.mem_append_right _ h)) (by decide +kernel))
set_option maxRecDepth 20000 in
theorem gL_clockOf_X11_clockOf : GoodIn wsL_clockOf (wsV RL 30 RX11 yX11_clockOf wsX11_clockOf) := goodIn_app (goodIn_of _ (by decide +kernel)) ggL_clockOf_X11_clockOf
theorem dL_clockOf_0 : decode cL_clockOf 0 = .ok (.aload_n 2, 1) := by decide +kernel
theorem dL_clockOf_1 : decode cL_clockOf 1 = .ok (.iconst 0, 1) := by decide +kernel
theorem dL_clockOf_2 : decode cL_clockOf 2 = .ok (.aload_n 0, 1) := by decide +kernel
theorem dL_clockOf_3 : decode cL_clockOf 3 = .ok (.iload_n 1, 1) := by decide +kernel
theorem dL_clockOf_4 : decode cL_clockOf 4 = .ok (.invokevirtual 30, 3) := by decide +kernel
theorem dL_clockOf_7 : decode cL_clockOf 7 = .ok (.i2l, 1) := by decide +kernel
theorem dL_clockOf_8 : decode cL_clockOf 8 = .ok (.lastore, 1) := by decide +kernel
theorem dL_clockOf_9 : decode cL_clockOf 9 = .ok (.goto 6, 3) := by decide +kernel
theorem dL_clockOf_12 : decode cL_clockOf 12 = .ok (.astore_n 3, 1) := by decide +kernel
theorem dL_clockOf_13 : decode cL_clockOf 13 = .ok (.iconst 1, 1) := by decide +kernel
theorem dL_clockOf_14 : decode cL_clockOf 14 = .ok (.ireturn, 1) := by decide +kernel
theorem dL_clockOf_15 : decode cL_clockOf 15 = .ok (.iconst 0, 1) := by decide +kernel
theorem dL_clockOf_16 : decode cL_clockOf 16 = .ok (.ireturn, 1) := by decide +kernel
set_option maxRecDepth 20000 in
theorem ggL_trusts_X11_trusts : GoodIn wsL_trusts wsX11_trusts := goodIn_ca (goodIn_r _ [6, 7, 8, 9, 10, 5, 11, 12, 13, 14, 15, 16, 17, 18, 19, 20, 21, 22, 23, 24, 25, 26, 27, 28, 29, 30, 31, 32, 33, 34, 35, 36, 37, 38, 39, 40, 41, 42, 43, 44, 45, 46, 47, 48, 49, 50, 51, 52, 53, 54, 55, 56, 57, 58, 59, 60, 61, 62, 63, 64, 65, 66, 67, 68, 69, 70, 71, 72, 73, 74] (by decide +kernel) (by decide +kernel)) (goodIn_sub (fun _ h => List.mem_cons_of_mem _ (List.mem_append_right _ h)) (by decide +kernel))
set_option maxRecDepth 20000 in
theorem gL_trusts_X11_trusts : GoodIn wsL_trusts (wsV RL 33 RX11 yX11_trusts wsX11_trusts) := goodIn_app (goodIn_of _ (by decide +kernel)) ggL_trusts_X11_trusts
theorem dL_trusts_0 : decode cL_trusts 0 = .ok (.aload_n 3, 1) := by decide +kernel
theorem dL_trusts_1 : decode cL_trusts 1 = .ok (.iconst 0, 1) := by decide +kernel
theorem dL_trusts_2 : decode cL_trusts 2 = .ok (.aload_n 0, 1) := by decide +kernel
theorem dL_trusts_3 : decode cL_trusts 3 = .ok (.iload_n 1, 1) := by decide +kernel
theorem dL_trusts_4 : decode cL_trusts 4 = .ok (.iload_n 2, 1) := by decide +kernel
theorem dL_trusts_5 : decode cL_trusts 5 = .ok (.invokevirtual 33, 3) := by decide +kernel
theorem dL_trusts_8 : decode cL_trusts 8 = .ok (.ifCond .eq 7, 3) := by decide +kernel
theorem dL_trusts_11 : decode cL_trusts 11 = .ok (.lconst 1, 1) := by decide +kernel
theorem dL_trusts_12 : decode cL_trusts 12 = .ok (.goto 4, 3) := by decide +kernel
theorem dL_trusts_15 : decode cL_trusts 15 = .ok (.lconst 0, 1) := by decide +kernel
theorem dL_trusts_16 : decode cL_trusts 16 = .ok (.lastore, 1) := by decide +kernel
theorem dL_trusts_17 : decode cL_trusts 17 = .ok (.goto 7, 3) := by decide +kernel
theorem dL_trusts_20 : decode cL_trusts 20 = .ok (.astore 4, 2) := by decide +kernel
theorem dL_trusts_22 : decode cL_trusts 22 = .ok (.iconst 1, 1) := by decide +kernel
theorem dL_trusts_23 : decode cL_trusts 23 = .ok (.ireturn, 1) := by decide +kernel
theorem dL_trusts_24 : decode cL_trusts 24 = .ok (.iconst 0, 1) := by decide +kernel
theorem dL_trusts_25 : decode cL_trusts 25 = .ok (.ireturn, 1) := by decide +kernel
set_option maxRecDepth 20000 in
theorem ggL_distance_X11_distance : GoodIn wsL_distance wsX11_distance := goodIn_ca (goodIn_r _ [6, 7, 8, 9, 10, 5, 11, 12, 13, 14, 15, 16, 17, 18, 19, 20, 21, 22, 23, 24, 25, 26, 27, 28, 29, 30, 31, 32, 33, 34, 35, 36, 37, 38, 39, 40, 41, 42, 43, 44, 45, 46, 47, 48, 49, 50, 51, 52, 53, 54, 55, 56, 57, 58, 59, 60, 61, 62, 63, 64, 65, 66, 67, 68, 69, 70, 71, 72, 73, 74, 75, 76, 77, 78, 79, 80, 81, 82, 83] (by decide +kernel) (by decide +kernel)) (goodIn_sub (fun _ h => List.mem_cons_of_mem _ (List.mem_append_right _ h)) (by decide +kernel))
set_option maxRecDepth 20000 in
theorem gL_distance_X11_distance : GoodIn wsL_distance (wsV RL 37 RX11 yX11_distance wsX11_distance) := goodIn_app (goodIn_of _ (by decide +kernel)) ggL_distance_X11_distance
theorem dL_distance_0 : decode cL_distance 0 = .ok (.aload_n 3, 1) := by decide +kernel
theorem dL_distance_1 : decode cL_distance 1 = .ok (.iconst 0, 1) := by decide +kernel
theorem dL_distance_2 : decode cL_distance 2 = .ok (.aload_n 0, 1) := by decide +kernel
theorem dL_distance_3 : decode cL_distance 3 = .ok (.iload_n 1, 1) := by decide +kernel
theorem dL_distance_4 : decode cL_distance 4 = .ok (.iload_n 2, 1) := by decide +kernel
theorem dL_distance_5 : decode cL_distance 5 = .ok (.invokevirtual 37, 3) := by decide +kernel
theorem dL_distance_8 : decode cL_distance 8 = .ok (.i2l, 1) := by decide +kernel
theorem dL_distance_9 : decode cL_distance 9 = .ok (.lastore, 1) := by decide +kernel
theorem dL_distance_10 : decode cL_distance 10 = .ok (.goto 7, 3) := by decide +kernel
theorem dL_distance_13 : decode cL_distance 13 = .ok (.astore 4, 2) := by decide +kernel
theorem dL_distance_15 : decode cL_distance 15 = .ok (.iconst 1, 1) := by decide +kernel
theorem dL_distance_16 : decode cL_distance 16 = .ok (.ireturn, 1) := by decide +kernel
theorem dL_distance_17 : decode cL_distance 17 = .ok (.iconst 0, 1) := by decide +kernel
theorem dL_distance_18 : decode cL_distance 18 = .ok (.ireturn, 1) := by decide +kernel
set_option maxRecDepth 20000 in
theorem ggL_nextRealm_X11_nextRealm : GoodIn wsL_nextRealm wsX11_nextRealm := goodIn_ca (goodIn_r _ [6, 7, 8, 9, 10, 5, 11, 12, 13, 14, 15, 16, 17, 18, 19, 20, 21, 22, 23, 24, 25, 26, 27, 28, 29, 30, 31, 32, 33, 34, 35, 36, 37, 38, 39, 40, 41, 42, 43, 44, 45, 46, 47, 48, 49, 50, 51, 52, 53, 54, 55, 56, 57, 58, 59, 60, 61, 62, 63, 64, 65, 66, 67, 68, 69, 70, 71, 72, 73, 74, 75, 76, 77, 78, 79, 80, 81, 82, 83, 84, 85, 86, 87, 88, 89, 90, 91] (by decide +kernel) (by decide +kernel)) (goodIn_sub (fun _ h => List.mem_cons_of_mem _ (List.mem_append_right _ h)) (by decide +kernel))
set_option maxRecDepth 20000 in
theorem gL_nextRealm_X11_nextRealm : GoodIn wsL_nextRealm (wsV RL 41 RX11 yX11_nextRealm wsX11_nextRealm) := goodIn_app (goodIn_of _ (by decide +kernel)) ggL_nextRealm_X11_nextRealm
theorem dL_nextRealm_0 : decode cL_nextRealm 0 = .ok (.aload_n 3, 1) := by decide +kernel
theorem dL_nextRealm_1 : decode cL_nextRealm 1 = .ok (.iconst 0, 1) := by decide +kernel
theorem dL_nextRealm_2 : decode cL_nextRealm 2 = .ok (.aload_n 0, 1) := by decide +kernel
theorem dL_nextRealm_3 : decode cL_nextRealm 3 = .ok (.iload_n 1, 1) := by decide +kernel
theorem dL_nextRealm_4 : decode cL_nextRealm 4 = .ok (.iload_n 2, 1) := by decide +kernel
theorem dL_nextRealm_5 : decode cL_nextRealm 5 = .ok (.invokevirtual 41, 3) := by decide +kernel
theorem dL_nextRealm_8 : decode cL_nextRealm 8 = .ok (.i2l, 1) := by decide +kernel
theorem dL_nextRealm_9 : decode cL_nextRealm 9 = .ok (.lastore, 1) := by decide +kernel
theorem dL_nextRealm_10 : decode cL_nextRealm 10 = .ok (.goto 7, 3) := by decide +kernel
theorem dL_nextRealm_13 : decode cL_nextRealm 13 = .ok (.astore 4, 2) := by decide +kernel
theorem dL_nextRealm_15 : decode cL_nextRealm 15 = .ok (.iconst 1, 1) := by decide +kernel
theorem dL_nextRealm_16 : decode cL_nextRealm 16 = .ok (.ireturn, 1) := by decide +kernel
theorem dL_nextRealm_17 : decode cL_nextRealm 17 = .ok (.iconst 0, 1) := by decide +kernel
theorem dL_nextRealm_18 : decode cL_nextRealm 18 = .ok (.ireturn, 1) := by decide +kernel
set_option maxRecDepth 20000 in
theorem ggL_homeOf_X11_homeOf : GoodIn wsL_homeOf wsX11_homeOf := goodIn_ca (goodIn_r _ [6, 7, 8, 9, 10, 5, 11, 12, 13, 14, 15, 16, 17, 18, 19, 20, 21, 22, 23, 24, 25, 26, 27, 28, 29, 30, 31, 32, 33, 34, 35, 36, 37, 38, 39, 40, 41, 42, 43, 44, 45, 46, 47, 48, 49, 50, 51, 52, 53, 54, 55, 56, 57, 58, 59, 60, 61, 62, 63, 64, 65, 66, 67, 68, 69] (by decide +kernel) (by decide +kernel)) (goodIn_sub (fun _ h => List.mem_cons_of_mem _ (List.mem_append_right _ h)) (by decide +kernel))
set_option maxRecDepth 20000 in
theorem gL_homeOf_X11_homeOf : GoodIn wsL_homeOf (wsV RL 44 RX11 yX11_homeOf wsX11_homeOf) := goodIn_app (goodIn_of _ (by decide +kernel)) ggL_homeOf_X11_homeOf
theorem dL_homeOf_0 : decode cL_homeOf 0 = .ok (.aload_n 2, 1) := by decide +kernel
theorem dL_homeOf_1 : decode cL_homeOf 1 = .ok (.iconst 0, 1) := by decide +kernel
theorem dL_homeOf_2 : decode cL_homeOf 2 = .ok (.aload_n 0, 1) := by decide +kernel
theorem dL_homeOf_3 : decode cL_homeOf 3 = .ok (.iload_n 1, 1) := by decide +kernel
theorem dL_homeOf_4 : decode cL_homeOf 4 = .ok (.invokevirtual 44, 3) := by decide +kernel
theorem dL_homeOf_7 : decode cL_homeOf 7 = .ok (.i2l, 1) := by decide +kernel
theorem dL_homeOf_8 : decode cL_homeOf 8 = .ok (.lastore, 1) := by decide +kernel
theorem dL_homeOf_9 : decode cL_homeOf 9 = .ok (.goto 6, 3) := by decide +kernel
theorem dL_homeOf_12 : decode cL_homeOf 12 = .ok (.astore_n 3, 1) := by decide +kernel
theorem dL_homeOf_13 : decode cL_homeOf 13 = .ok (.iconst 1, 1) := by decide +kernel
theorem dL_homeOf_14 : decode cL_homeOf 14 = .ok (.ireturn, 1) := by decide +kernel
theorem dL_homeOf_15 : decode cL_homeOf 15 = .ok (.iconst 0, 1) := by decide +kernel
theorem dL_homeOf_16 : decode cL_homeOf 16 = .ok (.ireturn, 1) := by decide +kernel
set_option maxRecDepth 20000 in
theorem ggL_cheesesOf_X11_cheesesOf : GoodIn wsL_cheesesOf wsX11_cheesesOf := goodIn_ca (goodIn_r _ [6, 7, 8, 9, 10, 5, 11, 12, 13, 14, 15, 16, 17, 18, 19, 20, 21, 22, 23, 24, 25, 26, 27, 28, 29, 30, 31, 32, 33, 34, 35, 36, 37, 38, 39, 40, 41, 42, 43, 44, 45, 46, 47, 48, 49, 50, 51, 52, 53, 54, 55, 56, 57, 58, 59, 60, 61, 62, 63, 64, 65, 66, 67, 68, 69] (by decide +kernel) (by decide +kernel)) (goodIn_sub (fun _ h => List.mem_cons_of_mem _ (List.mem_append_right _ h)) (by decide +kernel))
set_option maxRecDepth 20000 in
theorem gL_cheesesOf_X11_cheesesOf : GoodIn wsL_cheesesOf (wsV RL 47 RX11 yX11_cheesesOf wsX11_cheesesOf) := goodIn_app (goodIn_of _ (by decide +kernel)) ggL_cheesesOf_X11_cheesesOf
theorem dL_cheesesOf_0 : decode cL_cheesesOf 0 = .ok (.aload_n 2, 1) := by decide +kernel
theorem dL_cheesesOf_1 : decode cL_cheesesOf 1 = .ok (.iconst 0, 1) := by decide +kernel
theorem dL_cheesesOf_2 : decode cL_cheesesOf 2 = .ok (.aload_n 0, 1) := by decide +kernel
theorem dL_cheesesOf_3 : decode cL_cheesesOf 3 = .ok (.iload_n 1, 1) := by decide +kernel
theorem dL_cheesesOf_4 : decode cL_cheesesOf 4 = .ok (.invokevirtual 47, 3) := by decide +kernel
theorem dL_cheesesOf_7 : decode cL_cheesesOf 7 = .ok (.i2l, 1) := by decide +kernel
theorem dL_cheesesOf_8 : decode cL_cheesesOf 8 = .ok (.lastore, 1) := by decide +kernel
theorem dL_cheesesOf_9 : decode cL_cheesesOf 9 = .ok (.goto 6, 3) := by decide +kernel
theorem dL_cheesesOf_12 : decode cL_cheesesOf 12 = .ok (.astore_n 3, 1) := by decide +kernel
theorem dL_cheesesOf_13 : decode cL_cheesesOf 13 = .ok (.iconst 1, 1) := by decide +kernel
theorem dL_cheesesOf_14 : decode cL_cheesesOf 14 = .ok (.ireturn, 1) := by decide +kernel
theorem dL_cheesesOf_15 : decode cL_cheesesOf 15 = .ok (.iconst 0, 1) := by decide +kernel
theorem dL_cheesesOf_16 : decode cL_cheesesOf 16 = .ok (.ireturn, 1) := by decide +kernel
set_option maxRecDepth 20000 in
theorem ggL_skew_X11_skew : GoodIn wsL_skew wsX11_skew := goodIn_ca (goodIn_r _ [6, 7, 8, 9, 10, 5, 11, 12, 13, 14, 15, 16, 17, 18, 19, 20, 21, 22, 23, 24, 25, 26, 27, 28, 29, 30, 31, 32, 33, 34, 35, 36, 37, 38, 39, 40, 41, 42, 43, 44, 45, 46, 47, 48, 49, 50, 51, 52, 53, 54, 55, 56, 57, 58, 59, 60, 61, 62, 63, 64, 65, 66, 67, 68, 69, 70, 71, 72, 73, 74, 75, 76, 77, 78, 79, 80, 81, 82, 83, 84, 85, 86, 87, 88, 89, 90] (by decide +kernel) (by decide +kernel)) (goodIn_sub (fun _ h => List.mem_cons_of_mem _ (List.mem_append_right _ h)) (by decide +kernel))
set_option maxRecDepth 20000 in
theorem gL_skew_X11_skew : GoodIn wsL_skew (wsV RL 50 RX11 yX11_skew wsX11_skew) := goodIn_app (goodIn_of _ (by decide +kernel)) ggL_skew_X11_skew
theorem dL_skew_0 : decode cL_skew 0 = .ok (.aload_n 3, 1) := by decide +kernel
theorem dL_skew_1 : decode cL_skew 1 = .ok (.iconst 0, 1) := by decide +kernel
theorem dL_skew_2 : decode cL_skew 2 = .ok (.aload_n 0, 1) := by decide +kernel
theorem dL_skew_3 : decode cL_skew 3 = .ok (.iload_n 1, 1) := by decide +kernel
theorem dL_skew_4 : decode cL_skew 4 = .ok (.iload_n 2, 1) := by decide +kernel
theorem dL_skew_5 : decode cL_skew 5 = .ok (.invokevirtual 50, 3) := by decide +kernel
theorem dL_skew_8 : decode cL_skew 8 = .ok (.i2l, 1) := by decide +kernel
theorem dL_skew_9 : decode cL_skew 9 = .ok (.lastore, 1) := by decide +kernel
theorem dL_skew_10 : decode cL_skew 10 = .ok (.goto 7, 3) := by decide +kernel
theorem dL_skew_13 : decode cL_skew 13 = .ok (.astore 4, 2) := by decide +kernel
theorem dL_skew_15 : decode cL_skew 15 = .ok (.iconst 1, 1) := by decide +kernel
theorem dL_skew_16 : decode cL_skew 16 = .ok (.ireturn, 1) := by decide +kernel
theorem dL_skew_17 : decode cL_skew 17 = .ok (.iconst 0, 1) := by decide +kernel
theorem dL_skew_18 : decode cL_skew 18 = .ok (.ireturn, 1) := by decide +kernel
set_option maxRecDepth 20000 in
theorem ggL_realmOfService_X11_realmOfService : GoodIn wsL_realmOfService wsX11_realmOfService := goodIn_ca (goodIn_r _ [6, 7, 8, 9, 10, 5, 11, 12, 13, 14, 15, 16, 17, 18, 19, 20, 21, 22, 23, 24, 25, 26, 27, 28, 29, 30, 31, 32, 33, 34, 35, 36, 37, 38, 39, 40, 41, 42, 43, 44, 45, 46, 47, 48, 49, 50, 51, 52, 53, 54, 55, 56, 57, 58, 59, 60, 61, 62, 63, 64, 65, 66, 67, 68, 69] (by decide +kernel) (by decide +kernel)) (goodIn_sub (fun _ h => List.mem_cons_of_mem _ (List.mem_append_right _ h)) (by decide +kernel))
set_option maxRecDepth 20000 in
theorem gL_realmOfService_X11_realmOfService : GoodIn wsL_realmOfService (wsV RL 53 RX11 yX11_realmOfService wsX11_realmOfService) := goodIn_app (goodIn_of _ (by decide +kernel)) ggL_realmOfService_X11_realmOfService
theorem dL_realmOfService_0 : decode cL_realmOfService 0 = .ok (.aload_n 2, 1) := by decide +kernel
theorem dL_realmOfService_1 : decode cL_realmOfService 1 = .ok (.iconst 0, 1) := by decide +kernel
theorem dL_realmOfService_2 : decode cL_realmOfService 2 = .ok (.aload_n 0, 1) := by decide +kernel
theorem dL_realmOfService_3 : decode cL_realmOfService 3 = .ok (.iload_n 1, 1) := by decide +kernel
theorem dL_realmOfService_4 : decode cL_realmOfService 4 = .ok (.invokevirtual 53, 3) := by decide +kernel
theorem dL_realmOfService_7 : decode cL_realmOfService 7 = .ok (.i2l, 1) := by decide +kernel
theorem dL_realmOfService_8 : decode cL_realmOfService 8 = .ok (.lastore, 1) := by decide +kernel
theorem dL_realmOfService_9 : decode cL_realmOfService 9 = .ok (.goto 6, 3) := by decide +kernel
theorem dL_realmOfService_12 : decode cL_realmOfService 12 = .ok (.astore_n 3, 1) := by decide +kernel
theorem dL_realmOfService_13 : decode cL_realmOfService 13 = .ok (.iconst 1, 1) := by decide +kernel
theorem dL_realmOfService_14 : decode cL_realmOfService 14 = .ok (.ireturn, 1) := by decide +kernel
theorem dL_realmOfService_15 : decode cL_realmOfService 15 = .ok (.iconst 0, 1) := by decide +kernel
theorem dL_realmOfService_16 : decode cL_realmOfService 16 = .ok (.ireturn, 1) := by decide +kernel
set_option maxRecDepth 20000 in
theorem ggL_cheesesLeft_X11_cheesesLeft : GoodIn wsL_cheesesLeft wsX11_cheesesLeft := goodIn_ca (goodIn_r _ [6, 7, 8, 9, 10, 5, 11, 12, 13, 14, 15, 16, 17, 18, 19, 20, 21, 22, 23, 24, 25, 26, 27, 28, 29, 30, 31, 32, 33, 34, 35, 36, 37, 38, 39, 40, 41, 42, 43, 44, 45, 46, 47, 48, 49, 50, 51, 52, 53, 54, 55, 56, 57, 58, 59, 60, 61, 62, 63, 64, 65, 66, 67, 68, 69] (by decide +kernel) (by decide +kernel)) (goodIn_sub (fun _ h => List.mem_cons_of_mem _ (List.mem_append_right _ h)) (by decide +kernel))
set_option maxRecDepth 20000 in
theorem gL_cheesesLeft_X11_cheesesLeft : GoodIn wsL_cheesesLeft (wsV RL 56 RX11 yX11_cheesesLeft wsX11_cheesesLeft) := goodIn_app (goodIn_of _ (by decide +kernel)) ggL_cheesesLeft_X11_cheesesLeft
theorem dL_cheesesLeft_0 : decode cL_cheesesLeft 0 = .ok (.aload_n 2, 1) := by decide +kernel
theorem dL_cheesesLeft_1 : decode cL_cheesesLeft 1 = .ok (.iconst 0, 1) := by decide +kernel
theorem dL_cheesesLeft_2 : decode cL_cheesesLeft 2 = .ok (.aload_n 0, 1) := by decide +kernel
theorem dL_cheesesLeft_3 : decode cL_cheesesLeft 3 = .ok (.iload_n 1, 1) := by decide +kernel
theorem dL_cheesesLeft_4 : decode cL_cheesesLeft 4 = .ok (.invokevirtual 56, 3) := by decide +kernel
theorem dL_cheesesLeft_7 : decode cL_cheesesLeft 7 = .ok (.i2l, 1) := by decide +kernel
theorem dL_cheesesLeft_8 : decode cL_cheesesLeft 8 = .ok (.lastore, 1) := by decide +kernel
theorem dL_cheesesLeft_9 : decode cL_cheesesLeft 9 = .ok (.goto 6, 3) := by decide +kernel
theorem dL_cheesesLeft_12 : decode cL_cheesesLeft 12 = .ok (.astore_n 3, 1) := by decide +kernel
theorem dL_cheesesLeft_13 : decode cL_cheesesLeft 13 = .ok (.iconst 1, 1) := by decide +kernel
theorem dL_cheesesLeft_14 : decode cL_cheesesLeft 14 = .ok (.ireturn, 1) := by decide +kernel
theorem dL_cheesesLeft_15 : decode cL_cheesesLeft 15 = .ok (.iconst 0, 1) := by decide +kernel
theorem dL_cheesesLeft_16 : decode cL_cheesesLeft 16 = .ok (.ireturn, 1) := by decide +kernel
set_option maxRecDepth 20000 in
theorem ggL_ticketAt_X11_ticketAt : GoodIn wsL_ticketAt wsX11_ticketAt := goodIn_ca (goodIn_r _ [6, 7, 8, 9, 10, 11, 12, 13, 14, 15, 16, 17, 18, 19, 20, 21, 22, 23, 24, 25, 26, 27, 28, 29, 30, 31, 32, 33, 34, 35, 36, 37, 38, 39, 40, 41, 42, 43, 44, 45, 46, 47, 48, 49, 50, 51, 52, 53, 54, 55, 56, 57, 58, 59, 60, 61, 62, 63, 64, 65] (by decide +kernel) (by decide +kernel)) (goodIn_sub (fun _ h => List.mem_cons_of_mem _ (List.mem_append_right _ h)) (by decide +kernel))
set_option maxRecDepth 20000 in
theorem gL_ticketAt_X11_ticketAt : GoodIn wsL_ticketAt (wsV RL 59 RX11 yX11_ticketAt wsX11_ticketAt) := goodIn_app (goodIn_of _ (by decide +kernel)) ggL_ticketAt_X11_ticketAt
theorem dL_ticketAt_0 : decode cL_ticketAt 0 = .ok (.aload_n 2, 1) := by decide +kernel
theorem dL_ticketAt_1 : decode cL_ticketAt 1 = .ok (.iconst 0, 1) := by decide +kernel
theorem dL_ticketAt_2 : decode cL_ticketAt 2 = .ok (.aload_n 0, 1) := by decide +kernel
theorem dL_ticketAt_3 : decode cL_ticketAt 3 = .ok (.iload_n 1, 1) := by decide +kernel
theorem dL_ticketAt_4 : decode cL_ticketAt 4 = .ok (.invokevirtual 59, 3) := by decide +kernel
theorem dL_ticketAt_7 : decode cL_ticketAt 7 = .ok (.i2l, 1) := by decide +kernel
theorem dL_ticketAt_8 : decode cL_ticketAt 8 = .ok (.lastore, 1) := by decide +kernel
theorem dL_ticketAt_9 : decode cL_ticketAt 9 = .ok (.goto 6, 3) := by decide +kernel
theorem dL_ticketAt_12 : decode cL_ticketAt 12 = .ok (.astore_n 3, 1) := by decide +kernel
theorem dL_ticketAt_13 : decode cL_ticketAt 13 = .ok (.iconst 1, 1) := by decide +kernel
theorem dL_ticketAt_14 : decode cL_ticketAt 14 = .ok (.ireturn, 1) := by decide +kernel
theorem dL_ticketAt_15 : decode cL_ticketAt 15 = .ok (.iconst 0, 1) := by decide +kernel
theorem dL_ticketAt_16 : decode cL_ticketAt 16 = .ok (.ireturn, 1) := by decide +kernel
set_option maxRecDepth 20000 in
theorem ggL_kindOf_X11_kindOf : GoodIn wsL_kindOf wsX11_kindOf := goodIn_ca (goodIn_r _ [6, 7, 8, 9, 10, 5, 11, 12, 13, 14, 15, 16, 17, 18, 19, 20, 21, 22, 23, 24, 25, 26, 27, 28, 29, 30, 31, 32, 33, 34, 35, 36, 37, 38, 39, 40, 41, 42, 43, 44, 45, 46, 47, 48, 49, 50, 51, 52, 53, 54, 55, 56, 57, 58, 59, 60, 61, 62, 63, 64, 65, 66, 67, 68, 69, 70, 71, 72, 73, 74, 75, 76, 77] (by decide +kernel) (by decide +kernel)) (goodIn_sub (fun _ h => List.mem_cons_of_mem _ (List.mem_append_right _ h)) (by decide +kernel))
set_option maxRecDepth 20000 in
theorem gL_kindOf_X11_kindOf : GoodIn wsL_kindOf (wsV RL 62 RX11 yX11_kindOf wsX11_kindOf) := goodIn_app (goodIn_of _ (by decide +kernel)) ggL_kindOf_X11_kindOf
theorem dL_kindOf_0 : decode cL_kindOf 0 = .ok (.aload_n 2, 1) := by decide +kernel
theorem dL_kindOf_1 : decode cL_kindOf 1 = .ok (.iconst 0, 1) := by decide +kernel
theorem dL_kindOf_2 : decode cL_kindOf 2 = .ok (.aload_n 0, 1) := by decide +kernel
theorem dL_kindOf_3 : decode cL_kindOf 3 = .ok (.iload_n 1, 1) := by decide +kernel
theorem dL_kindOf_4 : decode cL_kindOf 4 = .ok (.invokevirtual 62, 3) := by decide +kernel
theorem dL_kindOf_7 : decode cL_kindOf 7 = .ok (.i2l, 1) := by decide +kernel
theorem dL_kindOf_8 : decode cL_kindOf 8 = .ok (.lastore, 1) := by decide +kernel
theorem dL_kindOf_9 : decode cL_kindOf 9 = .ok (.goto 6, 3) := by decide +kernel
theorem dL_kindOf_12 : decode cL_kindOf 12 = .ok (.astore_n 3, 1) := by decide +kernel
theorem dL_kindOf_13 : decode cL_kindOf 13 = .ok (.iconst 1, 1) := by decide +kernel
theorem dL_kindOf_14 : decode cL_kindOf 14 = .ok (.ireturn, 1) := by decide +kernel
theorem dL_kindOf_15 : decode cL_kindOf 15 = .ok (.iconst 0, 1) := by decide +kernel
theorem dL_kindOf_16 : decode cL_kindOf 16 = .ok (.ireturn, 1) := by decide +kernel
set_option maxRecDepth 20000 in
theorem ggL_ownerOf_X11_ownerOf : GoodIn wsL_ownerOf wsX11_ownerOf := goodIn_ca (goodIn_r _ [6, 7, 8, 9, 10, 5, 11, 12, 13, 14, 15, 16, 17, 18, 19, 20, 21, 22, 23, 24, 25, 26, 27, 28, 29, 30, 31, 32, 33, 34, 35, 36, 37, 38, 39, 40, 41, 42, 43, 44, 45, 46, 47, 48, 49, 50, 51, 52, 53, 54, 55, 56, 57, 58, 59, 60, 61, 62, 63, 64, 65, 66, 67, 68, 69, 70, 71, 72, 73, 74, 75, 76, 77] (by decide +kernel) (by decide +kernel)) (goodIn_sub (fun _ h => List.mem_cons_of_mem _ (List.mem_append_right _ h)) (by decide +kernel))
set_option maxRecDepth 20000 in
theorem gL_ownerOf_X11_ownerOf : GoodIn wsL_ownerOf (wsV RL 67 RX11 yX11_ownerOf wsX11_ownerOf) := goodIn_app (goodIn_of _ (by decide +kernel)) ggL_ownerOf_X11_ownerOf
theorem dL_ownerOf_0 : decode cL_ownerOf 0 = .ok (.aload_n 2, 1) := by decide +kernel
theorem dL_ownerOf_1 : decode cL_ownerOf 1 = .ok (.iconst 0, 1) := by decide +kernel
theorem dL_ownerOf_2 : decode cL_ownerOf 2 = .ok (.aload_n 0, 1) := by decide +kernel
theorem dL_ownerOf_3 : decode cL_ownerOf 3 = .ok (.iload_n 1, 1) := by decide +kernel
theorem dL_ownerOf_4 : decode cL_ownerOf 4 = .ok (.invokevirtual 67, 3) := by decide +kernel
theorem dL_ownerOf_7 : decode cL_ownerOf 7 = .ok (.i2l, 1) := by decide +kernel
theorem dL_ownerOf_8 : decode cL_ownerOf 8 = .ok (.lastore, 1) := by decide +kernel
theorem dL_ownerOf_9 : decode cL_ownerOf 9 = .ok (.goto 6, 3) := by decide +kernel
theorem dL_ownerOf_12 : decode cL_ownerOf 12 = .ok (.astore_n 3, 1) := by decide +kernel
theorem dL_ownerOf_13 : decode cL_ownerOf 13 = .ok (.iconst 1, 1) := by decide +kernel
theorem dL_ownerOf_14 : decode cL_ownerOf 14 = .ok (.ireturn, 1) := by decide +kernel
theorem dL_ownerOf_15 : decode cL_ownerOf 15 = .ok (.iconst 0, 1) := by decide +kernel
theorem dL_ownerOf_16 : decode cL_ownerOf 16 = .ok (.ireturn, 1) := by decide +kernel
set_option maxRecDepth 20000 in
theorem ggL_realmOf_X11_realmOf : GoodIn wsL_realmOf wsX11_realmOf := goodIn_ca (goodIn_r _ [6, 7, 8, 9, 10, 5, 11, 12, 13, 14, 15, 16, 17, 18, 19, 20, 21, 22, 23, 24, 25, 26, 27, 28, 29, 30, 31, 32, 33, 34, 35, 36, 37, 38, 39, 40, 41, 42, 43, 44, 45, 46, 47, 48, 49, 50, 51, 52, 53, 54, 55, 56, 57, 58, 59, 60, 61, 62, 63, 64, 65, 66, 67, 68, 69, 70, 71, 72, 73, 74, 75, 76, 77] (by decide +kernel) (by decide +kernel)) (goodIn_sub (fun _ h => List.mem_cons_of_mem _ (List.mem_append_right _ h)) (by decide +kernel))
set_option maxRecDepth 20000 in
theorem gL_realmOf_X11_realmOf : GoodIn wsL_realmOf (wsV RL 70 RX11 yX11_realmOf wsX11_realmOf) := goodIn_app (goodIn_of _ (by decide +kernel)) ggL_realmOf_X11_realmOf
theorem dL_realmOf_0 : decode cL_realmOf 0 = .ok (.aload_n 2, 1) := by decide +kernel
theorem dL_realmOf_1 : decode cL_realmOf 1 = .ok (.iconst 0, 1) := by decide +kernel
theorem dL_realmOf_2 : decode cL_realmOf 2 = .ok (.aload_n 0, 1) := by decide +kernel
theorem dL_realmOf_3 : decode cL_realmOf 3 = .ok (.iload_n 1, 1) := by decide +kernel
theorem dL_realmOf_4 : decode cL_realmOf 4 = .ok (.invokevirtual 70, 3) := by decide +kernel
theorem dL_realmOf_7 : decode cL_realmOf 7 = .ok (.i2l, 1) := by decide +kernel
theorem dL_realmOf_8 : decode cL_realmOf 8 = .ok (.lastore, 1) := by decide +kernel
theorem dL_realmOf_9 : decode cL_realmOf 9 = .ok (.goto 6, 3) := by decide +kernel
theorem dL_realmOf_12 : decode cL_realmOf 12 = .ok (.astore_n 3, 1) := by decide +kernel
theorem dL_realmOf_13 : decode cL_realmOf 13 = .ok (.iconst 1, 1) := by decide +kernel
theorem dL_realmOf_14 : decode cL_realmOf 14 = .ok (.ireturn, 1) := by decide +kernel
theorem dL_realmOf_15 : decode cL_realmOf 15 = .ok (.iconst 0, 1) := by decide +kernel
theorem dL_realmOf_16 : decode cL_realmOf 16 = .ok (.ireturn, 1) := by decide +kernel
set_option maxRecDepth 20000 in
theorem ggL_serviceOf_X11_serviceOf : GoodIn wsL_serviceOf wsX11_serviceOf := goodIn_ca (goodIn_r _ [6, 7, 8, 9, 10, 5, 11, 12, 13, 14, 15, 16, 17, 18, 19, 20, 21, 22, 23, 24, 25, 26, 27, 28, 29, 30, 31, 32, 33, 34, 35, 36, 37, 38, 39, 40, 41, 42, 43, 44, 45, 46, 47, 48, 49, 50, 51, 52, 53, 54, 55, 56, 57, 58, 59, 60, 61, 62, 63, 64, 65, 66, 67, 68, 69, 70, 71, 72, 73, 74, 75, 76, 77] (by decide +kernel) (by decide +kernel)) (goodIn_sub (fun _ h => List.mem_cons_of_mem _ (List.mem_append_right _ h)) (by decide +kernel))
set_option maxRecDepth 20000 in
theorem gL_serviceOf_X11_serviceOf : GoodIn wsL_serviceOf (wsV RL 73 RX11 yX11_serviceOf wsX11_serviceOf) := goodIn_app (goodIn_of _ (by decide +kernel)) ggL_serviceOf_X11_serviceOf
theorem dL_serviceOf_0 : decode cL_serviceOf 0 = .ok (.aload_n 2, 1) := by decide +kernel
theorem dL_serviceOf_1 : decode cL_serviceOf 1 = .ok (.iconst 0, 1) := by decide +kernel
theorem dL_serviceOf_2 : decode cL_serviceOf 2 = .ok (.aload_n 0, 1) := by decide +kernel
theorem dL_serviceOf_3 : decode cL_serviceOf 3 = .ok (.iload_n 1, 1) := by decide +kernel
theorem dL_serviceOf_4 : decode cL_serviceOf 4 = .ok (.invokevirtual 73, 3) := by decide +kernel
theorem dL_serviceOf_7 : decode cL_serviceOf 7 = .ok (.i2l, 1) := by decide +kernel
theorem dL_serviceOf_8 : decode cL_serviceOf 8 = .ok (.lastore, 1) := by decide +kernel
theorem dL_serviceOf_9 : decode cL_serviceOf 9 = .ok (.goto 6, 3) := by decide +kernel
theorem dL_serviceOf_12 : decode cL_serviceOf 12 = .ok (.astore_n 3, 1) := by decide +kernel
theorem dL_serviceOf_13 : decode cL_serviceOf 13 = .ok (.iconst 1, 1) := by decide +kernel
theorem dL_serviceOf_14 : decode cL_serviceOf 14 = .ok (.ireturn, 1) := by decide +kernel
theorem dL_serviceOf_15 : decode cL_serviceOf 15 = .ok (.iconst 0, 1) := by decide +kernel
theorem dL_serviceOf_16 : decode cL_serviceOf 16 = .ok (.ireturn, 1) := by decide +kernel
set_option maxRecDepth 20000 in
theorem ggL_startOf_X11_startOf : GoodIn wsL_startOf wsX11_startOf := goodIn_ca (goodIn_r _ [6, 7, 8, 9, 10, 5, 11, 12, 13, 14, 15, 16, 17, 18, 19, 20, 21, 22, 23, 24, 25, 26, 27, 28, 29, 30, 31, 32, 33, 34, 35, 36, 37, 38, 39, 40, 41, 42, 43, 44, 45, 46, 47, 48, 49, 50, 51, 52, 53, 54, 55, 56, 57, 58, 59, 60, 61, 62, 63, 64, 65, 66, 67, 68, 69, 70, 71, 72, 73, 74, 75, 76, 77] (by decide +kernel) (by decide +kernel)) (goodIn_sub (fun _ h => List.mem_cons_of_mem _ (List.mem_append_right _ h)) (by decide +kernel))
set_option maxRecDepth 20000 in
theorem gL_startOf_X11_startOf : GoodIn wsL_startOf (wsV RL 76 RX11 yX11_startOf wsX11_startOf) := goodIn_app (goodIn_of _ (by decide +kernel)) ggL_startOf_X11_startOf
theorem dL_startOf_0 : decode cL_startOf 0 = .ok (.aload_n 2, 1) := by decide +kernel
theorem dL_startOf_1 : decode cL_startOf 1 = .ok (.iconst 0, 1) := by decide +kernel
theorem dL_startOf_2 : decode cL_startOf 2 = .ok (.aload_n 0, 1) := by decide +kernel
theorem dL_startOf_3 : decode cL_startOf 3 = .ok (.iload_n 1, 1) := by decide +kernel
theorem dL_startOf_4 : decode cL_startOf 4 = .ok (.invokevirtual 76, 3) := by decide +kernel
theorem dL_startOf_7 : decode cL_startOf 7 = .ok (.i2l, 1) := by decide +kernel
theorem dL_startOf_8 : decode cL_startOf 8 = .ok (.lastore, 1) := by decide +kernel
theorem dL_startOf_9 : decode cL_startOf 9 = .ok (.goto 6, 3) := by decide +kernel
theorem dL_startOf_12 : decode cL_startOf 12 = .ok (.astore_n 3, 1) := by decide +kernel
theorem dL_startOf_13 : decode cL_startOf 13 = .ok (.iconst 1, 1) := by decide +kernel
theorem dL_startOf_14 : decode cL_startOf 14 = .ok (.ireturn, 1) := by decide +kernel
theorem dL_startOf_15 : decode cL_startOf 15 = .ok (.iconst 0, 1) := by decide +kernel
theorem dL_startOf_16 : decode cL_startOf 16 = .ok (.ireturn, 1) := by decide +kernel
set_option maxRecDepth 20000 in
theorem ggL_endOf_X11_endOf : GoodIn wsL_endOf wsX11_endOf := goodIn_ca (goodIn_r _ [6, 7, 8, 9, 10, 5, 11, 12, 13, 14, 15, 16, 17, 18, 19, 20, 21, 22, 23, 24, 25, 26, 27, 28, 29, 30, 31, 32, 33, 34, 35, 36, 37, 38, 39, 40, 41, 42, 43, 44, 45, 46, 47, 48, 49, 50, 51, 52, 53, 54, 55, 56, 57, 58, 59, 60, 61, 62, 63, 64, 65, 66, 67, 68, 69, 70, 71, 72, 73, 74, 75, 76, 77] (by decide +kernel) (by decide +kernel)) (goodIn_sub (fun _ h => List.mem_cons_of_mem _ (List.mem_append_right _ h)) (by decide +kernel))
set_option maxRecDepth 20000 in
theorem gL_endOf_X11_endOf : GoodIn wsL_endOf (wsV RL 79 RX11 yX11_endOf wsX11_endOf) := goodIn_app (goodIn_of _ (by decide +kernel)) ggL_endOf_X11_endOf
theorem dL_endOf_0 : decode cL_endOf 0 = .ok (.aload_n 2, 1) := by decide +kernel
theorem dL_endOf_1 : decode cL_endOf 1 = .ok (.iconst 0, 1) := by decide +kernel
theorem dL_endOf_2 : decode cL_endOf 2 = .ok (.aload_n 0, 1) := by decide +kernel
theorem dL_endOf_3 : decode cL_endOf 3 = .ok (.iload_n 1, 1) := by decide +kernel
theorem dL_endOf_4 : decode cL_endOf 4 = .ok (.invokevirtual 79, 3) := by decide +kernel
theorem dL_endOf_7 : decode cL_endOf 7 = .ok (.i2l, 1) := by decide +kernel
theorem dL_endOf_8 : decode cL_endOf 8 = .ok (.lastore, 1) := by decide +kernel
theorem dL_endOf_9 : decode cL_endOf 9 = .ok (.goto 6, 3) := by decide +kernel
theorem dL_endOf_12 : decode cL_endOf 12 = .ok (.astore_n 3, 1) := by decide +kernel
theorem dL_endOf_13 : decode cL_endOf 13 = .ok (.iconst 1, 1) := by decide +kernel
theorem dL_endOf_14 : decode cL_endOf 14 = .ok (.ireturn, 1) := by decide +kernel
theorem dL_endOf_15 : decode cL_endOf 15 = .ok (.iconst 0, 1) := by decide +kernel
theorem dL_endOf_16 : decode cL_endOf 16 = .ok (.ireturn, 1) := by decide +kernel
set_option maxRecDepth 20000 in
theorem ggL_lastEndOf_X11_lastEndOf : GoodIn wsL_lastEndOf wsX11_lastEndOf := goodIn_ca (goodIn_r _ [6, 7, 8, 9, 10, 5, 11, 12, 13, 14, 15, 16, 17, 18, 19, 20, 21, 22, 23, 24, 25, 26, 27, 28, 29, 30, 31, 32, 33, 34, 35, 36, 37, 38, 39, 40, 41, 42, 43, 44, 45, 46, 47, 48, 49, 50, 51, 52, 53, 54, 55, 56, 57, 58, 59, 60, 61, 62, 63, 64, 65, 66, 67, 68, 69, 70, 71, 72, 73, 74, 75, 76, 77] (by decide +kernel) (by decide +kernel)) (goodIn_sub (fun _ h => List.mem_cons_of_mem _ (List.mem_append_right _ h)) (by decide +kernel))
set_option maxRecDepth 20000 in
theorem gL_lastEndOf_X11_lastEndOf : GoodIn wsL_lastEndOf (wsV RL 82 RX11 yX11_lastEndOf wsX11_lastEndOf) := goodIn_app (goodIn_of _ (by decide +kernel)) ggL_lastEndOf_X11_lastEndOf
theorem dL_lastEndOf_0 : decode cL_lastEndOf 0 = .ok (.aload_n 2, 1) := by decide +kernel
theorem dL_lastEndOf_1 : decode cL_lastEndOf 1 = .ok (.iconst 0, 1) := by decide +kernel
theorem dL_lastEndOf_2 : decode cL_lastEndOf 2 = .ok (.aload_n 0, 1) := by decide +kernel
theorem dL_lastEndOf_3 : decode cL_lastEndOf 3 = .ok (.iload_n 1, 1) := by decide +kernel
theorem dL_lastEndOf_4 : decode cL_lastEndOf 4 = .ok (.invokevirtual 82, 3) := by decide +kernel
theorem dL_lastEndOf_7 : decode cL_lastEndOf 7 = .ok (.i2l, 1) := by decide +kernel
theorem dL_lastEndOf_8 : decode cL_lastEndOf 8 = .ok (.lastore, 1) := by decide +kernel
theorem dL_lastEndOf_9 : decode cL_lastEndOf 9 = .ok (.goto 6, 3) := by decide +kernel
theorem dL_lastEndOf_12 : decode cL_lastEndOf 12 = .ok (.astore_n 3, 1) := by decide +kernel
theorem dL_lastEndOf_13 : decode cL_lastEndOf 13 = .ok (.iconst 1, 1) := by decide +kernel
theorem dL_lastEndOf_14 : decode cL_lastEndOf 14 = .ok (.ireturn, 1) := by decide +kernel
theorem dL_lastEndOf_15 : decode cL_lastEndOf 15 = .ok (.iconst 0, 1) := by decide +kernel
theorem dL_lastEndOf_16 : decode cL_lastEndOf 16 = .ok (.ireturn, 1) := by decide +kernel
set_option maxRecDepth 20000 in
theorem ggL_keyOf_X11_keyOf : GoodIn wsL_keyOf wsX11_keyOf := goodIn_ca (goodIn_r _ [6, 7, 8, 9, 10, 5, 11, 12, 13, 14, 15, 16, 17, 18, 19, 20, 21, 22, 23, 24, 25, 26, 27, 28, 29, 30, 31, 32, 33, 34, 35, 36, 37, 38, 39, 40, 41, 42, 43, 44, 45, 46, 47, 48, 49, 50, 51, 52, 53, 54, 55, 56, 57, 58, 59, 60, 61, 62, 63, 64, 65, 66, 67, 68, 69, 70, 71, 72, 73, 74, 75, 76, 77] (by decide +kernel) (by decide +kernel)) (goodIn_sub (fun _ h => List.mem_cons_of_mem _ (List.mem_append_right _ h)) (by decide +kernel))
set_option maxRecDepth 20000 in
theorem gL_keyOf_X11_keyOf : GoodIn wsL_keyOf (wsV RL 85 RX11 yX11_keyOf wsX11_keyOf) := goodIn_app (goodIn_of _ (by decide +kernel)) ggL_keyOf_X11_keyOf
theorem dL_keyOf_0 : decode cL_keyOf 0 = .ok (.aload_n 2, 1) := by decide +kernel
theorem dL_keyOf_1 : decode cL_keyOf 1 = .ok (.iconst 0, 1) := by decide +kernel
theorem dL_keyOf_2 : decode cL_keyOf 2 = .ok (.aload_n 0, 1) := by decide +kernel
theorem dL_keyOf_3 : decode cL_keyOf 3 = .ok (.iload_n 1, 1) := by decide +kernel
theorem dL_keyOf_4 : decode cL_keyOf 4 = .ok (.invokevirtual 85, 3) := by decide +kernel
theorem dL_keyOf_7 : decode cL_keyOf 7 = .ok (.i2l, 1) := by decide +kernel
theorem dL_keyOf_8 : decode cL_keyOf 8 = .ok (.lastore, 1) := by decide +kernel
theorem dL_keyOf_9 : decode cL_keyOf 9 = .ok (.goto 6, 3) := by decide +kernel
theorem dL_keyOf_12 : decode cL_keyOf 12 = .ok (.astore_n 3, 1) := by decide +kernel
theorem dL_keyOf_13 : decode cL_keyOf 13 = .ok (.iconst 1, 1) := by decide +kernel
theorem dL_keyOf_14 : decode cL_keyOf 14 = .ok (.ireturn, 1) := by decide +kernel
theorem dL_keyOf_15 : decode cL_keyOf 15 = .ok (.iconst 0, 1) := by decide +kernel
theorem dL_keyOf_16 : decode cL_keyOf 16 = .ok (.ireturn, 1) := by decide +kernel
set_option maxRecDepth 20000 in
theorem ggL_isRenewable_X11_isRenewable : GoodIn wsL_isRenewable wsX11_isRenewable := goodIn_ca (goodIn_r _ [6, 7, 8, 9, 10, 5, 11, 12, 13, 14, 15, 16, 17, 18, 19, 20, 21, 22, 23, 24, 25, 26, 27, 28, 29, 30, 31, 32, 33, 34, 35, 36, 37, 38, 39, 40, 41, 42, 43, 44, 45, 46, 47, 48, 49, 50, 51, 52, 53, 54, 55, 56, 57, 58, 59, 60, 61, 62, 63, 64, 65, 66, 67, 68, 69, 70, 71, 72, 73, 74, 75, 76, 77, 78, 79, 80, 81, 82] (by decide +kernel) (by decide +kernel)) (goodIn_sub (fun _ h => List.mem_cons_of_mem _ (List.mem_append_right _ h)) (by decide +kernel))
set_option maxRecDepth 20000 in
theorem gL_isRenewable_X11_isRenewable : GoodIn wsL_isRenewable (wsV RL 88 RX11 yX11_isRenewable wsX11_isRenewable) := goodIn_app (goodIn_of _ (by decide +kernel)) ggL_isRenewable_X11_isRenewable
theorem dL_isRenewable_0 : decode cL_isRenewable 0 = .ok (.aload_n 2, 1) := by decide +kernel
theorem dL_isRenewable_1 : decode cL_isRenewable 1 = .ok (.iconst 0, 1) := by decide +kernel
theorem dL_isRenewable_2 : decode cL_isRenewable 2 = .ok (.aload_n 0, 1) := by decide +kernel
theorem dL_isRenewable_3 : decode cL_isRenewable 3 = .ok (.iload_n 1, 1) := by decide +kernel
theorem dL_isRenewable_4 : decode cL_isRenewable 4 = .ok (.invokevirtual 88, 3) := by decide +kernel
theorem dL_isRenewable_7 : decode cL_isRenewable 7 = .ok (.ifCond .eq 7, 3) := by decide +kernel
theorem dL_isRenewable_10 : decode cL_isRenewable 10 = .ok (.lconst 1, 1) := by decide +kernel
theorem dL_isRenewable_11 : decode cL_isRenewable 11 = .ok (.goto 4, 3) := by decide +kernel
theorem dL_isRenewable_14 : decode cL_isRenewable 14 = .ok (.lconst 0, 1) := by decide +kernel
theorem dL_isRenewable_15 : decode cL_isRenewable 15 = .ok (.lastore, 1) := by decide +kernel
theorem dL_isRenewable_16 : decode cL_isRenewable 16 = .ok (.goto 6, 3) := by decide +kernel
theorem dL_isRenewable_19 : decode cL_isRenewable 19 = .ok (.astore_n 3, 1) := by decide +kernel
theorem dL_isRenewable_20 : decode cL_isRenewable 20 = .ok (.iconst 1, 1) := by decide +kernel
theorem dL_isRenewable_21 : decode cL_isRenewable 21 = .ok (.ireturn, 1) := by decide +kernel
theorem dL_isRenewable_22 : decode cL_isRenewable 22 = .ok (.iconst 0, 1) := by decide +kernel
theorem dL_isRenewable_23 : decode cL_isRenewable 23 = .ok (.ireturn, 1) := by decide +kernel
set_option maxRecDepth 20000 in
theorem ggL_isValid_X11_isValid : GoodIn wsL_isValid wsX11_isValid := goodIn_ca (goodIn_r _ [6, 7, 8, 9, 10, 5, 11, 12, 13, 14, 15, 16, 17, 18, 19, 20, 21, 22, 23, 24, 25, 26, 27, 28, 29, 30, 31, 32, 33, 34, 35, 36, 37, 38, 39, 40, 41, 42, 43, 44, 45, 46, 47, 48, 49, 50, 51, 52, 53, 54, 55, 56, 57, 58, 59, 60, 61, 62, 63, 64, 65, 66, 67, 68, 69, 70, 71, 72, 73, 74, 75, 76, 77, 78, 79, 80, 81, 82] (by decide +kernel) (by decide +kernel)) (goodIn_sub (fun _ h => List.mem_cons_of_mem _ (List.mem_append_right _ h)) (by decide +kernel))
set_option maxRecDepth 20000 in
theorem gL_isValid_X11_isValid : GoodIn wsL_isValid (wsV RL 92 RX11 yX11_isValid wsX11_isValid) := goodIn_app (goodIn_of _ (by decide +kernel)) ggL_isValid_X11_isValid
theorem dL_isValid_0 : decode cL_isValid 0 = .ok (.aload_n 2, 1) := by decide +kernel
theorem dL_isValid_1 : decode cL_isValid 1 = .ok (.iconst 0, 1) := by decide +kernel
theorem dL_isValid_2 : decode cL_isValid 2 = .ok (.aload_n 0, 1) := by decide +kernel
theorem dL_isValid_3 : decode cL_isValid 3 = .ok (.iload_n 1, 1) := by decide +kernel
theorem dL_isValid_4 : decode cL_isValid 4 = .ok (.invokevirtual 92, 3) := by decide +kernel
theorem dL_isValid_7 : decode cL_isValid 7 = .ok (.ifCond .eq 7, 3) := by decide +kernel
theorem dL_isValid_10 : decode cL_isValid 10 = .ok (.lconst 1, 1) := by decide +kernel
theorem dL_isValid_11 : decode cL_isValid 11 = .ok (.goto 4, 3) := by decide +kernel
theorem dL_isValid_14 : decode cL_isValid 14 = .ok (.lconst 0, 1) := by decide +kernel
theorem dL_isValid_15 : decode cL_isValid 15 = .ok (.lastore, 1) := by decide +kernel
theorem dL_isValid_16 : decode cL_isValid 16 = .ok (.goto 6, 3) := by decide +kernel
theorem dL_isValid_19 : decode cL_isValid 19 = .ok (.astore_n 3, 1) := by decide +kernel
theorem dL_isValid_20 : decode cL_isValid 20 = .ok (.iconst 1, 1) := by decide +kernel
theorem dL_isValid_21 : decode cL_isValid 21 = .ok (.ireturn, 1) := by decide +kernel
theorem dL_isValid_22 : decode cL_isValid 22 = .ok (.iconst 0, 1) := by decide +kernel
theorem dL_isValid_23 : decode cL_isValid 23 = .ok (.ireturn, 1) := by decide +kernel
set_option maxRecDepth 20000 in
theorem ggL_minutesLeft_X11_minutesLeft : GoodIn wsL_minutesLeft wsX11_minutesLeft := goodIn_ca (goodIn_r _ [6, 7, 8, 9, 10, 11, 12, 13, 14, 5, 15, 16, 17, 18, 19, 20, 21, 22, 23, 24, 25, 26, 27, 28, 29, 30, 31, 32, 33, 34, 35, 36, 37, 38, 39, 40, 41, 42, 43, 44, 45, 46, 47, 48, 49, 50, 51, 52, 53, 54, 55, 56, 57, 58, 59, 60, 61, 62, 63, 64, 65, 66, 67, 68, 69, 70, 71, 72, 73, 74, 75, 76, 77, 78, 79, 80, 81] (by decide +kernel) (by decide +kernel)) (goodIn_sub (fun _ h => List.mem_cons_of_mem _ (List.mem_append_right _ h)) (by decide +kernel))
set_option maxRecDepth 20000 in
theorem gL_minutesLeft_X11_minutesLeft : GoodIn wsL_minutesLeft (wsV RL 95 RX11 yX11_minutesLeft wsX11_minutesLeft) := goodIn_app (goodIn_of _ (by decide +kernel)) ggL_minutesLeft_X11_minutesLeft
theorem dL_minutesLeft_0 : decode cL_minutesLeft 0 = .ok (.aload_n 2, 1) := by decide +kernel
theorem dL_minutesLeft_1 : decode cL_minutesLeft 1 = .ok (.iconst 0, 1) := by decide +kernel
theorem dL_minutesLeft_2 : decode cL_minutesLeft 2 = .ok (.aload_n 0, 1) := by decide +kernel
theorem dL_minutesLeft_3 : decode cL_minutesLeft 3 = .ok (.iload_n 1, 1) := by decide +kernel
theorem dL_minutesLeft_4 : decode cL_minutesLeft 4 = .ok (.invokevirtual 95, 3) := by decide +kernel
theorem dL_minutesLeft_7 : decode cL_minutesLeft 7 = .ok (.i2l, 1) := by decide +kernel
theorem dL_minutesLeft_8 : decode cL_minutesLeft 8 = .ok (.lastore, 1) := by decide +kernel
theorem dL_minutesLeft_9 : decode cL_minutesLeft 9 = .ok (.goto 6, 3) := by decide +kernel
theorem dL_minutesLeft_12 : decode cL_minutesLeft 12 = .ok (.astore_n 3, 1) := by decide +kernel
theorem dL_minutesLeft_13 : decode cL_minutesLeft 13 = .ok (.iconst 1, 1) := by decide +kernel
theorem dL_minutesLeft_14 : decode cL_minutesLeft 14 = .ok (.ireturn, 1) := by decide +kernel
theorem dL_minutesLeft_15 : decode cL_minutesLeft 15 = .ok (.iconst 0, 1) := by decide +kernel
theorem dL_minutesLeft_16 : decode cL_minutesLeft 16 = .ok (.ireturn, 1) := by decide +kernel
set_option maxRecDepth 20000 in
theorem ggL_loginRefusal_X11_loginRefusal : GoodIn wsL_loginRefusal wsX11_loginRefusal := goodIn_ca (goodIn_ca (goodIn_r _ [6, 7, 8, 9, 10, 5, 11, 12, 13, 14, 15, 16, 17, 18, 19, 20, 21, 22, 23, 24, 25, 26, 27, 28, 29, 30, 31, 32, 33, 34, 35, 36, 37, 38, 39, 40, 41, 42, 43, 44, 45, 46, 47, 48, 49, 50, 51, 52, 53, 54, 55, 56, 57, 58, 59, 60, 61, 62, 63, 64, 65, 66, 67, 68, 69, 70, 71, 72, 73, 74, 75, 76, 77, 78, 79, 80, 81, 82, 83, 84, 85, 86, 87, 88, 89, 90, 91, 92, 93, 94, 95, 96, 97, 98, 99, 100, 101] (by decide +kernel) (by decide +kernel)) (goodIn_sub (fun _ h => List.mem_cons_of_mem _ (List.mem_append_left _ (List.mem_append_right _ h))) (by decide +kernel))) (goodIn_sub (fun _ h => List.mem_cons_of_mem _ (List.mem_append_right _ h)) (by decide +kernel))
set_option maxRecDepth 20000 in
theorem gL_loginRefusal_X11_loginRefusal : GoodIn wsL_loginRefusal (wsV RL 98 RX11 yX11_loginRefusal wsX11_loginRefusal) := goodIn_app (goodIn_of _ (by decide +kernel)) ggL_loginRefusal_X11_loginRefusal
theorem dL_loginRefusal_0 : decode cL_loginRefusal 0 = .ok (.aload_n 3, 1) := by decide +kernel
theorem dL_loginRefusal_1 : decode cL_loginRefusal 1 = .ok (.iconst 0, 1) := by decide +kernel
theorem dL_loginRefusal_2 : decode cL_loginRefusal 2 = .ok (.aload_n 0, 1) := by decide +kernel
theorem dL_loginRefusal_3 : decode cL_loginRefusal 3 = .ok (.iload_n 1, 1) := by decide +kernel
theorem dL_loginRefusal_4 : decode cL_loginRefusal 4 = .ok (.iload_n 2, 1) := by decide +kernel
theorem dL_loginRefusal_5 : decode cL_loginRefusal 5 = .ok (.invokevirtual 98, 3) := by decide +kernel
theorem dL_loginRefusal_8 : decode cL_loginRefusal 8 = .ok (.i2l, 1) := by decide +kernel
theorem dL_loginRefusal_9 : decode cL_loginRefusal 9 = .ok (.lastore, 1) := by decide +kernel
theorem dL_loginRefusal_10 : decode cL_loginRefusal 10 = .ok (.goto 11, 3) := by decide +kernel
theorem dL_loginRefusal_13 : decode cL_loginRefusal 13 = .ok (.astore 4, 2) := by decide +kernel
theorem dL_loginRefusal_15 : decode cL_loginRefusal 15 = .ok (.iconst 1, 1) := by decide +kernel
theorem dL_loginRefusal_16 : decode cL_loginRefusal 16 = .ok (.ireturn, 1) := by decide +kernel
theorem dL_loginRefusal_17 : decode cL_loginRefusal 17 = .ok (.astore 4, 2) := by decide +kernel
theorem dL_loginRefusal_19 : decode cL_loginRefusal 19 = .ok (.iconst 2, 1) := by decide +kernel
theorem dL_loginRefusal_20 : decode cL_loginRefusal 20 = .ok (.ireturn, 1) := by decide +kernel
theorem dL_loginRefusal_21 : decode cL_loginRefusal 21 = .ok (.iconst 0, 1) := by decide +kernel
theorem dL_loginRefusal_22 : decode cL_loginRefusal 22 = .ok (.ireturn, 1) := by decide +kernel
set_option maxRecDepth 20000 in
theorem ggL_referRefusal_X11_referRefusal : GoodIn wsL_referRefusal wsX11_referRefusal := goodIn_ca (goodIn_ca (goodIn_r _ [6, 7, 8, 9, 10, 5, 11, 12, 13, 14, 15, 16, 17, 18, 19, 20, 21, 22, 23, 24, 25, 26, 27, 28, 29, 30, 31, 32, 33, 34, 35, 36, 37, 38, 39, 40, 41, 42, 43, 44, 45, 46, 47, 48, 49, 50, 51, 52, 53, 54, 55, 56, 57, 58, 59, 60, 61, 62, 63, 64, 65, 66, 67, 68, 69, 70, 71, 72, 73, 74, 75, 76, 77, 78, 79, 80, 81, 82, 83, 84, 85, 86, 87, 88, 89, 90, 91, 92, 93, 94, 95, 96, 97, 98, 99, 100, 101, 102, 103, 104, 105, 106, 107, 108, 109, 110, 111, 112, 113, 114, 115, 116, 117, 118, 119, 120, 121, 122, 123, 124, 125, 126, 127, 128, 129, 130, 131, 132, 133, 134] (by decide +kernel) (by decide +kernel)) (goodIn_sub (fun _ h => List.mem_cons_of_mem _ (List.mem_append_left _ (List.mem_append_right _ h))) (by decide +kernel))) (goodIn_sub (fun _ h => List.mem_cons_of_mem _ (List.mem_append_right _ h)) (by decide +kernel))
set_option maxRecDepth 20000 in
theorem gL_referRefusal_X11_referRefusal : GoodIn wsL_referRefusal (wsV RL 101 RX11 yX11_referRefusal wsX11_referRefusal) := goodIn_app (goodIn_of _ (by decide +kernel)) ggL_referRefusal_X11_referRefusal
theorem dL_referRefusal_0 : decode cL_referRefusal 0 = .ok (.aload_n 3, 1) := by decide +kernel
theorem dL_referRefusal_1 : decode cL_referRefusal 1 = .ok (.iconst 0, 1) := by decide +kernel
theorem dL_referRefusal_2 : decode cL_referRefusal 2 = .ok (.aload_n 0, 1) := by decide +kernel
theorem dL_referRefusal_3 : decode cL_referRefusal 3 = .ok (.iload_n 1, 1) := by decide +kernel
theorem dL_referRefusal_4 : decode cL_referRefusal 4 = .ok (.iload_n 2, 1) := by decide +kernel
theorem dL_referRefusal_5 : decode cL_referRefusal 5 = .ok (.invokevirtual 101, 3) := by decide +kernel
theorem dL_referRefusal_8 : decode cL_referRefusal 8 = .ok (.i2l, 1) := by decide +kernel
theorem dL_referRefusal_9 : decode cL_referRefusal 9 = .ok (.lastore, 1) := by decide +kernel
theorem dL_referRefusal_10 : decode cL_referRefusal 10 = .ok (.goto 11, 3) := by decide +kernel
theorem dL_referRefusal_13 : decode cL_referRefusal 13 = .ok (.astore 4, 2) := by decide +kernel
theorem dL_referRefusal_15 : decode cL_referRefusal 15 = .ok (.iconst 1, 1) := by decide +kernel
theorem dL_referRefusal_16 : decode cL_referRefusal 16 = .ok (.ireturn, 1) := by decide +kernel
theorem dL_referRefusal_17 : decode cL_referRefusal 17 = .ok (.astore 4, 2) := by decide +kernel
theorem dL_referRefusal_19 : decode cL_referRefusal 19 = .ok (.iconst 2, 1) := by decide +kernel
theorem dL_referRefusal_20 : decode cL_referRefusal 20 = .ok (.ireturn, 1) := by decide +kernel
theorem dL_referRefusal_21 : decode cL_referRefusal 21 = .ok (.iconst 0, 1) := by decide +kernel
theorem dL_referRefusal_22 : decode cL_referRefusal 22 = .ok (.ireturn, 1) := by decide +kernel
set_option maxRecDepth 20000 in
theorem ggL_requestRefusal_X11_requestRefusal : GoodIn wsL_requestRefusal wsX11_requestRefusal := goodIn_ca (goodIn_ca (goodIn_r _ [6, 7, 8, 9, 10, 5, 11, 12, 13, 14, 15, 16, 17, 18, 19, 20, 21, 22, 23, 24, 25, 26, 27, 28, 29, 30, 31, 32, 33, 34, 35, 36, 37, 38, 39, 40, 41, 42, 43, 44, 45, 46, 47, 48, 49, 50, 51, 52, 53, 54, 55, 56, 57, 58, 59, 60, 61, 62, 63, 64, 65, 66, 67, 68, 69, 70, 71, 72, 73, 74, 75, 76, 77, 78, 79, 80, 81, 82, 83, 84, 85, 86, 87, 88, 89, 90, 91, 92, 93, 94, 95, 96, 97, 98, 99, 100, 101, 102, 103, 104, 105, 106, 107, 108, 109, 110, 111, 112, 113, 114, 115, 116, 117, 118, 119, 120, 121, 122, 123, 124, 125, 126, 127, 128, 129, 130, 131, 132] (by decide +kernel) (by decide +kernel)) (goodIn_sub (fun _ h => List.mem_cons_of_mem _ (List.mem_append_left _ (List.mem_append_right _ h))) (by decide +kernel))) (goodIn_sub (fun _ h => List.mem_cons_of_mem _ (List.mem_append_right _ h)) (by decide +kernel))
set_option maxRecDepth 20000 in
theorem gL_requestRefusal_X11_requestRefusal : GoodIn wsL_requestRefusal (wsV RL 104 RX11 yX11_requestRefusal wsX11_requestRefusal) := goodIn_app (goodIn_of _ (by decide +kernel)) ggL_requestRefusal_X11_requestRefusal
theorem dL_requestRefusal_0 : decode cL_requestRefusal 0 = .ok (.aload_n 3, 1) := by decide +kernel
theorem dL_requestRefusal_1 : decode cL_requestRefusal 1 = .ok (.iconst 0, 1) := by decide +kernel
theorem dL_requestRefusal_2 : decode cL_requestRefusal 2 = .ok (.aload_n 0, 1) := by decide +kernel
theorem dL_requestRefusal_3 : decode cL_requestRefusal 3 = .ok (.iload_n 1, 1) := by decide +kernel
theorem dL_requestRefusal_4 : decode cL_requestRefusal 4 = .ok (.iload_n 2, 1) := by decide +kernel
theorem dL_requestRefusal_5 : decode cL_requestRefusal 5 = .ok (.invokevirtual 104, 3) := by decide +kernel
theorem dL_requestRefusal_8 : decode cL_requestRefusal 8 = .ok (.i2l, 1) := by decide +kernel
theorem dL_requestRefusal_9 : decode cL_requestRefusal 9 = .ok (.lastore, 1) := by decide +kernel
theorem dL_requestRefusal_10 : decode cL_requestRefusal 10 = .ok (.goto 11, 3) := by decide +kernel
theorem dL_requestRefusal_13 : decode cL_requestRefusal 13 = .ok (.astore 4, 2) := by decide +kernel
theorem dL_requestRefusal_15 : decode cL_requestRefusal 15 = .ok (.iconst 1, 1) := by decide +kernel
theorem dL_requestRefusal_16 : decode cL_requestRefusal 16 = .ok (.ireturn, 1) := by decide +kernel
theorem dL_requestRefusal_17 : decode cL_requestRefusal 17 = .ok (.astore 4, 2) := by decide +kernel
theorem dL_requestRefusal_19 : decode cL_requestRefusal 19 = .ok (.iconst 2, 1) := by decide +kernel
theorem dL_requestRefusal_20 : decode cL_requestRefusal 20 = .ok (.ireturn, 1) := by decide +kernel
theorem dL_requestRefusal_21 : decode cL_requestRefusal 21 = .ok (.iconst 0, 1) := by decide +kernel
theorem dL_requestRefusal_22 : decode cL_requestRefusal 22 = .ok (.ireturn, 1) := by decide +kernel
set_option maxRecDepth 20000 in
theorem ggL_renewRefusal_X11_renewRefusal : GoodIn wsL_renewRefusal wsX11_renewRefusal := goodIn_ca (goodIn_r _ [6, 7, 8, 9, 10, 5, 11, 12, 13, 14, 15, 16, 17, 18, 19, 20, 21, 22, 23, 24, 25, 26, 27, 28, 29, 30, 31, 32, 33, 34, 35, 36, 37, 38, 39, 40, 41, 42, 43, 44, 45, 46, 47, 48, 49, 50, 51, 52, 53, 54, 55, 56, 57, 58, 59, 60, 61, 62, 63, 64, 65, 66, 67, 68, 69, 70, 71, 72, 73, 74, 75, 76, 77, 78, 79, 80, 81, 82, 83, 84, 85, 86, 87, 88, 89, 90, 91, 92, 93, 94, 95, 96, 97, 98, 99, 100, 101, 102, 103, 104, 105, 106] (by decide +kernel) (by decide +kernel)) (goodIn_sub (fun _ h => List.mem_cons_of_mem _ (List.mem_append_right _ h)) (by decide +kernel))
set_option maxRecDepth 20000 in
theorem gL_renewRefusal_X11_renewRefusal : GoodIn wsL_renewRefusal (wsV RL 107 RX11 yX11_renewRefusal wsX11_renewRefusal) := goodIn_app (goodIn_of _ (by decide +kernel)) ggL_renewRefusal_X11_renewRefusal
theorem dL_renewRefusal_0 : decode cL_renewRefusal 0 = .ok (.aload_n 2, 1) := by decide +kernel
theorem dL_renewRefusal_1 : decode cL_renewRefusal 1 = .ok (.iconst 0, 1) := by decide +kernel
theorem dL_renewRefusal_2 : decode cL_renewRefusal 2 = .ok (.aload_n 0, 1) := by decide +kernel
theorem dL_renewRefusal_3 : decode cL_renewRefusal 3 = .ok (.iload_n 1, 1) := by decide +kernel
theorem dL_renewRefusal_4 : decode cL_renewRefusal 4 = .ok (.invokevirtual 107, 3) := by decide +kernel
theorem dL_renewRefusal_7 : decode cL_renewRefusal 7 = .ok (.i2l, 1) := by decide +kernel
theorem dL_renewRefusal_8 : decode cL_renewRefusal 8 = .ok (.lastore, 1) := by decide +kernel
theorem dL_renewRefusal_9 : decode cL_renewRefusal 9 = .ok (.goto 6, 3) := by decide +kernel
theorem dL_renewRefusal_12 : decode cL_renewRefusal 12 = .ok (.astore_n 3, 1) := by decide +kernel
theorem dL_renewRefusal_13 : decode cL_renewRefusal 13 = .ok (.iconst 1, 1) := by decide +kernel
theorem dL_renewRefusal_14 : decode cL_renewRefusal 14 = .ok (.ireturn, 1) := by decide +kernel
theorem dL_renewRefusal_15 : decode cL_renewRefusal 15 = .ok (.iconst 0, 1) := by decide +kernel
theorem dL_renewRefusal_16 : decode cL_renewRefusal 16 = .ok (.ireturn, 1) := by decide +kernel
set_option maxRecDepth 20000 in
theorem ggL_cheeseRefusal_X11_cheeseRefusal : GoodIn wsL_cheeseRefusal wsX11_cheeseRefusal := goodIn_ca (goodIn_r _ [6, 7, 8, 9, 10, 5, 11, 12, 13, 14, 15, 16, 17, 18, 19, 20, 21, 22, 23, 24, 25, 26, 27, 28, 29, 30, 31, 32, 33, 34, 35, 36, 37, 38, 39, 40, 41, 42, 43, 44, 45, 46, 47, 48, 49, 50, 51, 52, 53, 54, 55, 56, 57, 58, 59, 60, 61, 62, 63, 64, 65, 66, 67, 68, 69, 70, 71, 72, 73, 74, 75, 76, 77, 78, 79, 80, 81, 82, 83, 84, 85, 86, 87, 88, 89, 90, 91, 92, 93, 94, 95, 96, 97, 98, 99, 100, 101, 102, 103, 104, 105, 106, 107, 108, 109, 110, 111, 112, 113, 114, 115, 116, 117, 118, 119, 120, 121, 122, 123, 124, 125, 126, 127, 128, 129] (by decide +kernel) (by decide +kernel)) (goodIn_sub (fun _ h => List.mem_cons_of_mem _ (List.mem_append_right _ h)) (by decide +kernel))
set_option maxRecDepth 20000 in
theorem gL_cheeseRefusal_X11_cheeseRefusal : GoodIn wsL_cheeseRefusal (wsV RL 110 RX11 yX11_cheeseRefusal wsX11_cheeseRefusal) := goodIn_app (goodIn_of _ (by decide +kernel)) ggL_cheeseRefusal_X11_cheeseRefusal
theorem dL_cheeseRefusal_0 : decode cL_cheeseRefusal 0 = .ok (.aload_n 2, 1) := by decide +kernel
theorem dL_cheeseRefusal_1 : decode cL_cheeseRefusal 1 = .ok (.iconst 0, 1) := by decide +kernel
theorem dL_cheeseRefusal_2 : decode cL_cheeseRefusal 2 = .ok (.aload_n 0, 1) := by decide +kernel
theorem dL_cheeseRefusal_3 : decode cL_cheeseRefusal 3 = .ok (.iload_n 1, 1) := by decide +kernel
theorem dL_cheeseRefusal_4 : decode cL_cheeseRefusal 4 = .ok (.invokevirtual 110, 3) := by decide +kernel
theorem dL_cheeseRefusal_7 : decode cL_cheeseRefusal 7 = .ok (.i2l, 1) := by decide +kernel
theorem dL_cheeseRefusal_8 : decode cL_cheeseRefusal 8 = .ok (.lastore, 1) := by decide +kernel
theorem dL_cheeseRefusal_9 : decode cL_cheeseRefusal 9 = .ok (.goto 6, 3) := by decide +kernel
theorem dL_cheeseRefusal_12 : decode cL_cheeseRefusal 12 = .ok (.astore_n 3, 1) := by decide +kernel
theorem dL_cheeseRefusal_13 : decode cL_cheeseRefusal 13 = .ok (.iconst 1, 1) := by decide +kernel
theorem dL_cheeseRefusal_14 : decode cL_cheeseRefusal 14 = .ok (.ireturn, 1) := by decide +kernel
theorem dL_cheeseRefusal_15 : decode cL_cheeseRefusal 15 = .ok (.iconst 0, 1) := by decide +kernel
theorem dL_cheeseRefusal_16 : decode cL_cheeseRefusal 16 = .ok (.ireturn, 1) := by decide +kernel
set_option maxRecDepth 20000 in
theorem ggL_validAfter_X11_validAfter : GoodIn wsL_validAfter wsX11_validAfter := goodIn_ca (goodIn_r _ [6, 7, 8, 9, 10, 11, 12, 13, 14, 15, 16, 17, 18, 19, 20, 21, 22, 23, 24, 25, 26, 27, 28, 29, 30, 31, 32, 33, 34, 35, 36, 37, 38, 39, 40, 41, 42, 43, 44, 45, 46, 47, 48, 49, 50, 51, 52, 53, 54, 55, 56, 57, 58, 59, 60, 61, 62, 63, 64, 65, 66, 67, 68, 69, 70, 71, 72, 73, 74] (by decide +kernel) (by decide +kernel)) (goodIn_sub (fun _ h => List.mem_cons_of_mem _ (List.mem_append_right _ h)) (by decide +kernel))
set_option maxRecDepth 20000 in
theorem gL_validAfter_X11_validAfter : GoodIn wsL_validAfter (wsV RL 113 RX11 yX11_validAfter wsX11_validAfter) := goodIn_app (goodIn_of _ (by decide +kernel)) ggL_validAfter_X11_validAfter
theorem dL_validAfter_0 : decode cL_validAfter 0 = .ok (.aload_n 2, 1) := by decide +kernel
theorem dL_validAfter_1 : decode cL_validAfter 1 = .ok (.iconst 0, 1) := by decide +kernel
theorem dL_validAfter_2 : decode cL_validAfter 2 = .ok (.aload_n 0, 1) := by decide +kernel
theorem dL_validAfter_3 : decode cL_validAfter 3 = .ok (.iload_n 1, 1) := by decide +kernel
theorem dL_validAfter_4 : decode cL_validAfter 4 = .ok (.invokevirtual 113, 3) := by decide +kernel
theorem dL_validAfter_7 : decode cL_validAfter 7 = .ok (.i2l, 1) := by decide +kernel
theorem dL_validAfter_8 : decode cL_validAfter 8 = .ok (.lastore, 1) := by decide +kernel
theorem dL_validAfter_9 : decode cL_validAfter 9 = .ok (.goto 6, 3) := by decide +kernel
theorem dL_validAfter_12 : decode cL_validAfter 12 = .ok (.astore_n 3, 1) := by decide +kernel
theorem dL_validAfter_13 : decode cL_validAfter 13 = .ok (.iconst 1, 1) := by decide +kernel
theorem dL_validAfter_14 : decode cL_validAfter 14 = .ok (.ireturn, 1) := by decide +kernel
theorem dL_validAfter_15 : decode cL_validAfter 15 = .ok (.iconst 0, 1) := by decide +kernel
theorem dL_validAfter_16 : decode cL_validAfter 16 = .ok (.ireturn, 1) := by decide +kernel
set_option maxRecDepth 20000 in
theorem ggL_minutesUntilCheese_X11_minutesUntilCheese : GoodIn wsL_minutesUntilCheese wsX11_minutesUntilCheese := goodIn_ca (goodIn_r _ [6, 7, 8, 9, 10, 5, 11, 12, 13, 14, 15, 16, 17, 18, 19, 20, 21, 22, 23, 24, 25, 26, 27, 28, 29, 30, 31, 32, 33, 34, 35, 36, 37, 38, 39, 40, 41, 42, 43, 44, 45, 46, 47, 48, 49, 50, 51, 52, 53, 54, 55, 56, 57, 58, 59, 60, 61, 62, 63, 64, 65, 66, 67, 68, 69, 70, 71, 72, 73, 74, 75, 76, 77, 78, 79, 80, 81, 82, 83, 84, 85, 86, 87, 88, 89, 90, 91, 92, 93, 94, 95, 96, 97, 98, 99, 100, 101, 102, 103, 104, 105, 106, 107, 108, 109, 110, 111, 112, 113, 114, 115, 116, 117, 118, 119, 120, 121, 122, 123, 124, 125, 126, 127, 128, 129] (by decide +kernel) (by decide +kernel)) (goodIn_sub (fun _ h => List.mem_cons_of_mem _ (List.mem_append_right _ h)) (by decide +kernel))
set_option maxRecDepth 20000 in
theorem gL_minutesUntilCheese_X11_minutesUntilCheese : GoodIn wsL_minutesUntilCheese (wsV RL 116 RX11 yX11_minutesUntilCheese wsX11_minutesUntilCheese) := goodIn_app (goodIn_of _ (by decide +kernel)) ggL_minutesUntilCheese_X11_minutesUntilCheese
theorem dL_minutesUntilCheese_0 : decode cL_minutesUntilCheese 0 = .ok (.aload_n 2, 1) := by decide +kernel
theorem dL_minutesUntilCheese_1 : decode cL_minutesUntilCheese 1 = .ok (.iconst 0, 1) := by decide +kernel
theorem dL_minutesUntilCheese_2 : decode cL_minutesUntilCheese 2 = .ok (.aload_n 0, 1) := by decide +kernel
theorem dL_minutesUntilCheese_3 : decode cL_minutesUntilCheese 3 = .ok (.iload_n 1, 1) := by decide +kernel
theorem dL_minutesUntilCheese_4 : decode cL_minutesUntilCheese 4 = .ok (.invokevirtual 116, 3) := by decide +kernel
theorem dL_minutesUntilCheese_7 : decode cL_minutesUntilCheese 7 = .ok (.i2l, 1) := by decide +kernel
theorem dL_minutesUntilCheese_8 : decode cL_minutesUntilCheese 8 = .ok (.lastore, 1) := by decide +kernel
theorem dL_minutesUntilCheese_9 : decode cL_minutesUntilCheese 9 = .ok (.goto 6, 3) := by decide +kernel
theorem dL_minutesUntilCheese_12 : decode cL_minutesUntilCheese 12 = .ok (.astore_n 3, 1) := by decide +kernel
theorem dL_minutesUntilCheese_13 : decode cL_minutesUntilCheese 13 = .ok (.iconst 1, 1) := by decide +kernel
theorem dL_minutesUntilCheese_14 : decode cL_minutesUntilCheese 14 = .ok (.ireturn, 1) := by decide +kernel
theorem dL_minutesUntilCheese_15 : decode cL_minutesUntilCheese 15 = .ok (.iconst 0, 1) := by decide +kernel
theorem dL_minutesUntilCheese_16 : decode cL_minutesUntilCheese 16 = .ok (.ireturn, 1) := by decide +kernel
set_option maxRecDepth 20000 in
theorem ggL_bestTicket_X11_bestTicket : GoodIn wsL_bestTicket wsX11_bestTicket := goodIn_ca (goodIn_r _ [6, 7, 8, 9, 10, 5, 11, 12, 13, 14, 15, 16, 17, 18, 19, 20, 21, 22, 23, 24, 25, 26, 27, 28, 29, 30, 31, 32, 33, 34, 35, 36, 37, 38, 39, 40, 41, 42, 43, 44, 45, 46, 47, 48, 49, 50, 51, 52, 53, 54, 55, 56, 57, 58, 59, 60, 61, 62, 63, 64, 65, 66, 67, 68, 69, 70, 71, 72, 73, 74, 75, 76, 77, 78, 79, 80, 81, 82, 83, 84, 85, 86, 87, 88, 89, 90, 91] (by decide +kernel) (by decide +kernel)) (goodIn_sub (fun _ h => List.mem_cons_of_mem _ (List.mem_append_right _ h)) (by decide +kernel))
set_option maxRecDepth 20000 in
theorem gL_bestTicket_X11_bestTicket : GoodIn wsL_bestTicket (wsV RL 119 RX11 yX11_bestTicket wsX11_bestTicket) := goodIn_app (goodIn_of _ (by decide +kernel)) ggL_bestTicket_X11_bestTicket
theorem dL_bestTicket_0 : decode cL_bestTicket 0 = .ok (.aload_n 3, 1) := by decide +kernel
theorem dL_bestTicket_1 : decode cL_bestTicket 1 = .ok (.iconst 0, 1) := by decide +kernel
theorem dL_bestTicket_2 : decode cL_bestTicket 2 = .ok (.aload_n 0, 1) := by decide +kernel
theorem dL_bestTicket_3 : decode cL_bestTicket 3 = .ok (.iload_n 1, 1) := by decide +kernel
theorem dL_bestTicket_4 : decode cL_bestTicket 4 = .ok (.iload_n 2, 1) := by decide +kernel
theorem dL_bestTicket_5 : decode cL_bestTicket 5 = .ok (.invokevirtual 119, 3) := by decide +kernel
theorem dL_bestTicket_8 : decode cL_bestTicket 8 = .ok (.i2l, 1) := by decide +kernel
theorem dL_bestTicket_9 : decode cL_bestTicket 9 = .ok (.lastore, 1) := by decide +kernel
theorem dL_bestTicket_10 : decode cL_bestTicket 10 = .ok (.goto 7, 3) := by decide +kernel
theorem dL_bestTicket_13 : decode cL_bestTicket 13 = .ok (.astore 4, 2) := by decide +kernel
theorem dL_bestTicket_15 : decode cL_bestTicket 15 = .ok (.iconst 1, 1) := by decide +kernel
theorem dL_bestTicket_16 : decode cL_bestTicket 16 = .ok (.ireturn, 1) := by decide +kernel
theorem dL_bestTicket_17 : decode cL_bestTicket 17 = .ok (.iconst 0, 1) := by decide +kernel
theorem dL_bestTicket_18 : decode cL_bestTicket 18 = .ok (.ireturn, 1) := by decide +kernel
set_option maxRecDepth 20000 in
theorem ggL_login_X11_login : GoodIn wsL_login wsX11_login := goodIn_ca (goodIn_ca (goodIn_ca (goodIn_r _ [6, 7, 8, 9, 10, 5, 11, 12, 13, 14, 15, 16, 17, 18, 19, 20, 21, 22, 23, 24, 25, 26, 27, 28, 29, 30, 31, 32, 33, 34, 35, 36, 37, 38, 39, 40, 41, 42, 43, 44, 45, 46, 47, 48, 49, 50, 51, 52, 53, 54, 55, 56, 57, 58, 59, 60, 61, 62, 63, 64, 65, 66, 67, 68, 69, 70, 71, 72, 73, 74, 75, 76, 77, 78, 79, 80, 81, 82, 83, 84, 85, 86, 87, 88, 89, 90, 91, 92, 93, 94, 95, 96, 97, 98, 99, 100, 101, 102, 103, 104, 105, 106, 107, 108, 109, 110, 111, 112, 113, 114, 115, 116, 117, 118, 119, 120, 121, 122, 123, 124, 125, 126, 127, 128, 129, 130, 131, 132, 133, 134, 135, 136, 137, 138, 139, 140, 141, 142, 143, 144, 145, 146, 147, 148, 149, 150, 151, 152, 153, 154, 155, 156, 157, 158, 159, 160, 161, 162, 163, 164, 165, 166, 167, 168, 169, 170, 171, 172, 173, 174, 175, 176, 177, 178, 179, 180, 181, 182, 183, 184, 185, 186, 187, 188, 189, 190, 191, 192, 193, 194, 195, 196, 197, 198, 199, 200, 201, 202, 203, 204, 205, 206, 207, 208, 209, 210, 211, 212, 213, 214, 215, 216, 217, 218, 219, 220, 221, 222, 223, 224, 225, 226, 227, 228, 229, 230, 231, 232, 233, 234, 235, 236, 237] (by decide +kernel) (by decide +kernel)) (goodIn_sub (fun _ h => List.mem_cons_of_mem _ (List.mem_append_left _ (List.mem_append_left _ (List.mem_append_right _ h)))) (by decide +kernel))) (goodIn_sub (fun _ h => List.mem_cons_of_mem _ (List.mem_append_left _ (List.mem_append_right _ h))) (by decide +kernel))) (goodIn_sub (fun _ h => List.mem_cons_of_mem _ (List.mem_append_right _ h)) (by decide +kernel))
set_option maxRecDepth 20000 in
theorem gL_login_X11_login : GoodIn wsL_login (wsV RL 122 RX11 yX11_login wsX11_login) := goodIn_app (goodIn_of _ (by decide +kernel)) ggL_login_X11_login
theorem dL_login_0 : decode cL_login 0 = .ok (.aload 4, 2) := by decide +kernel
theorem dL_login_2 : decode cL_login 2 = .ok (.iconst 0, 1) := by decide +kernel
theorem dL_login_3 : decode cL_login 3 = .ok (.aload_n 0, 1) := by decide +kernel
theorem dL_login_4 : decode cL_login 4 = .ok (.iload_n 1, 1) := by decide +kernel
theorem dL_login_5 : decode cL_login 5 = .ok (.iload_n 2, 1) := by decide +kernel
theorem dL_login_6 : decode cL_login 6 = .ok (.iload_n 3, 1) := by decide +kernel
theorem dL_login_7 : decode cL_login 7 = .ok (.invokevirtual 122, 3) := by decide +kernel
theorem dL_login_10 : decode cL_login 10 = .ok (.i2l, 1) := by decide +kernel
theorem dL_login_11 : decode cL_login 11 = .ok (.lastore, 1) := by decide +kernel
theorem dL_login_12 : decode cL_login 12 = .ok (.goto 15, 3) := by decide +kernel
theorem dL_login_15 : decode cL_login 15 = .ok (.astore 5, 2) := by decide +kernel
theorem dL_login_17 : decode cL_login 17 = .ok (.iconst 1, 1) := by decide +kernel
theorem dL_login_18 : decode cL_login 18 = .ok (.ireturn, 1) := by decide +kernel
theorem dL_login_19 : decode cL_login 19 = .ok (.astore 5, 2) := by decide +kernel
theorem dL_login_21 : decode cL_login 21 = .ok (.iconst 2, 1) := by decide +kernel
theorem dL_login_22 : decode cL_login 22 = .ok (.ireturn, 1) := by decide +kernel
theorem dL_login_23 : decode cL_login 23 = .ok (.astore 5, 2) := by decide +kernel
theorem dL_login_25 : decode cL_login 25 = .ok (.iconst 3, 1) := by decide +kernel
theorem dL_login_26 : decode cL_login 26 = .ok (.ireturn, 1) := by decide +kernel
theorem dL_login_27 : decode cL_login 27 = .ok (.iconst 0, 1) := by decide +kernel
theorem dL_login_28 : decode cL_login 28 = .ok (.ireturn, 1) := by decide +kernel
set_option maxRecDepth 20000 in
theorem ggL_refer_X11_refer : GoodIn wsL_refer wsX11_refer := goodIn_ca (goodIn_ca (goodIn_ca (goodIn_r _ [6, 7, 8, 9, 10, 5, 11, 12, 13, 14, 15, 16, 17, 18, 19, 20, 21, 22, 23, 24, 25, 26, 27, 28, 29, 30, 31, 32, 33, 34, 35, 36, 37, 38, 39, 40, 41, 42, 43, 44, 45, 46, 47, 48, 49, 50, 51, 52, 53, 54, 55, 56, 57, 58, 59, 60, 61, 62, 63, 64, 65, 66, 67, 68, 69, 70, 71, 72, 73, 74, 75, 76, 77, 78, 79, 80, 81, 82, 83, 84, 85, 86, 87, 88, 89, 90, 91, 92, 93, 94, 95, 96, 97, 98, 99, 100, 101, 102, 103, 104, 105, 106, 107, 108, 109, 110, 111, 112, 113, 114, 115, 116, 117, 118, 119, 120, 121, 122, 123, 124, 125, 126, 127, 128, 129, 130, 131, 132, 133, 134, 135, 136, 137, 138, 139, 140, 141, 142, 143, 144, 145, 146, 147, 148, 149, 150, 151, 152, 153, 154, 155, 156, 157, 158, 159, 160, 161, 162, 163, 164, 165, 166, 167, 168, 169, 170, 171, 172, 173, 174, 175, 176, 177, 178, 179, 180, 181, 182, 183, 184, 185, 186, 187, 188, 189, 190, 191, 192, 193, 194, 195, 196, 197, 198, 199, 200, 201, 202, 203, 204, 205, 206, 207, 208, 209, 210, 211, 212, 213, 214, 215, 216, 217, 218, 219, 220, 221, 222, 223, 224, 225, 226, 227, 228, 229, 230, 231, 232, 233, 234, 235, 236, 237, 238, 239, 240, 241, 242, 243, 244, 245, 246, 247, 248, 249, 250, 251, 252, 253, 254, 255, 256, 257, 258, 259, 260, 261, 262, 263, 264, 265, 266, 267, 268, 269, 270, 271] (by decide +kernel) (by decide +kernel)) (goodIn_sub (fun _ h => List.mem_cons_of_mem _ (List.mem_append_left _ (List.mem_append_left _ (List.mem_append_right _ h)))) (by decide +kernel))) (goodIn_sub (fun _ h => List.mem_cons_of_mem _ (List.mem_append_left _ (List.mem_append_right _ h))) (by decide +kernel))) (goodIn_sub (fun _ h => List.mem_cons_of_mem _ (List.mem_append_right _ h)) (by decide +kernel))
set_option maxRecDepth 20000 in
theorem gL_refer_X11_refer : GoodIn wsL_refer (wsV RL 126 RX11 yX11_refer wsX11_refer) := goodIn_app (goodIn_of _ (by decide +kernel)) ggL_refer_X11_refer
theorem dL_refer_0 : decode cL_refer 0 = .ok (.aload_n 3, 1) := by decide +kernel
theorem dL_refer_1 : decode cL_refer 1 = .ok (.iconst 0, 1) := by decide +kernel
theorem dL_refer_2 : decode cL_refer 2 = .ok (.aload_n 0, 1) := by decide +kernel
theorem dL_refer_3 : decode cL_refer 3 = .ok (.iload_n 1, 1) := by decide +kernel
theorem dL_refer_4 : decode cL_refer 4 = .ok (.iload_n 2, 1) := by decide +kernel
theorem dL_refer_5 : decode cL_refer 5 = .ok (.invokevirtual 126, 3) := by decide +kernel
theorem dL_refer_8 : decode cL_refer 8 = .ok (.i2l, 1) := by decide +kernel
theorem dL_refer_9 : decode cL_refer 9 = .ok (.lastore, 1) := by decide +kernel
theorem dL_refer_10 : decode cL_refer 10 = .ok (.goto 15, 3) := by decide +kernel
theorem dL_refer_13 : decode cL_refer 13 = .ok (.astore 4, 2) := by decide +kernel
theorem dL_refer_15 : decode cL_refer 15 = .ok (.iconst 1, 1) := by decide +kernel
theorem dL_refer_16 : decode cL_refer 16 = .ok (.ireturn, 1) := by decide +kernel
theorem dL_refer_17 : decode cL_refer 17 = .ok (.astore 4, 2) := by decide +kernel
theorem dL_refer_19 : decode cL_refer 19 = .ok (.iconst 2, 1) := by decide +kernel
theorem dL_refer_20 : decode cL_refer 20 = .ok (.ireturn, 1) := by decide +kernel
theorem dL_refer_21 : decode cL_refer 21 = .ok (.astore 4, 2) := by decide +kernel
theorem dL_refer_23 : decode cL_refer 23 = .ok (.iconst 3, 1) := by decide +kernel
theorem dL_refer_24 : decode cL_refer 24 = .ok (.ireturn, 1) := by decide +kernel
theorem dL_refer_25 : decode cL_refer 25 = .ok (.iconst 0, 1) := by decide +kernel
theorem dL_refer_26 : decode cL_refer 26 = .ok (.ireturn, 1) := by decide +kernel
set_option maxRecDepth 20000 in
theorem ggL_request_X11_request : GoodIn wsL_request wsX11_request := goodIn_ca (goodIn_ca (goodIn_ca (goodIn_r _ [6, 7, 8, 9, 10, 5, 11, 12, 13, 14, 15, 16, 17, 18, 19, 20, 21, 22, 23, 24, 25, 26, 27, 28, 29, 30, 31, 32, 33, 34, 35, 36, 37, 38, 39, 40, 41, 42, 43, 44, 45, 46, 47, 48, 49, 50, 51, 52, 53, 54, 55, 56, 57, 58, 59, 60, 61, 62, 63, 64, 65, 66, 67, 68, 69, 70, 71, 72, 73, 74, 75, 76, 77, 78, 79, 80, 81, 82, 83, 84, 85, 86, 87, 88, 89, 90, 91, 92, 93, 94, 95, 96, 97, 98, 99, 100, 101, 102, 103, 104, 105, 106, 107, 108, 109, 110, 111, 112, 113, 114, 115, 116, 117, 118, 119, 120, 121, 122, 123, 124, 125, 126, 127, 128, 129, 130, 131, 132, 133, 134, 135, 136, 137, 138, 139, 140, 141, 142, 143, 144, 145, 146, 147, 148, 149, 150, 151, 152, 153, 154, 155, 156, 157, 158, 159, 160, 161, 162, 163, 164, 165, 166, 167, 168, 169, 170, 171, 172, 173, 174, 175, 176, 177, 178, 179, 180, 181, 182, 183, 184, 185, 186, 187, 188, 189, 190, 191, 192, 193, 194, 195, 196, 197, 198, 199, 200, 201, 202, 203, 204, 205, 206, 207, 208, 209, 210, 211, 212, 213, 214, 215, 216, 217, 218, 219, 220, 221, 222, 223, 224, 225, 226, 227, 228, 229, 230, 231, 232, 233, 234, 235, 236, 237, 238, 239, 240, 241, 242, 243, 244, 245, 246, 247, 248, 249, 250, 251, 252, 253, 254, 255, 256, 257, 258, 259, 260, 261, 262, 263, 264, 265, 266, 267, 268, 269] (by decide +kernel) (by decide +kernel)) (goodIn_sub (fun _ h => List.mem_cons_of_mem _ (List.mem_append_left _ (List.mem_append_left _ (List.mem_append_right _ h)))) (by decide +kernel))) (goodIn_sub (fun _ h => List.mem_cons_of_mem _ (List.mem_append_left _ (List.mem_append_right _ h))) (by decide +kernel))) (goodIn_sub (fun _ h => List.mem_cons_of_mem _ (List.mem_append_right _ h)) (by decide +kernel))
set_option maxRecDepth 20000 in
theorem gL_request_X11_request : GoodIn wsL_request (wsV RL 129 RX11 yX11_request wsX11_request) := goodIn_app (goodIn_of _ (by decide +kernel)) ggL_request_X11_request
theorem dL_request_0 : decode cL_request 0 = .ok (.aload_n 3, 1) := by decide +kernel
theorem dL_request_1 : decode cL_request 1 = .ok (.iconst 0, 1) := by decide +kernel
theorem dL_request_2 : decode cL_request 2 = .ok (.aload_n 0, 1) := by decide +kernel
theorem dL_request_3 : decode cL_request 3 = .ok (.iload_n 1, 1) := by decide +kernel
theorem dL_request_4 : decode cL_request 4 = .ok (.iload_n 2, 1) := by decide +kernel
theorem dL_request_5 : decode cL_request 5 = .ok (.invokevirtual 129, 3) := by decide +kernel
theorem dL_request_8 : decode cL_request 8 = .ok (.i2l, 1) := by decide +kernel
theorem dL_request_9 : decode cL_request 9 = .ok (.lastore, 1) := by decide +kernel
theorem dL_request_10 : decode cL_request 10 = .ok (.goto 15, 3) := by decide +kernel
theorem dL_request_13 : decode cL_request 13 = .ok (.astore 4, 2) := by decide +kernel
theorem dL_request_15 : decode cL_request 15 = .ok (.iconst 1, 1) := by decide +kernel
theorem dL_request_16 : decode cL_request 16 = .ok (.ireturn, 1) := by decide +kernel
theorem dL_request_17 : decode cL_request 17 = .ok (.astore 4, 2) := by decide +kernel
theorem dL_request_19 : decode cL_request 19 = .ok (.iconst 2, 1) := by decide +kernel
theorem dL_request_20 : decode cL_request 20 = .ok (.ireturn, 1) := by decide +kernel
theorem dL_request_21 : decode cL_request 21 = .ok (.astore 4, 2) := by decide +kernel
theorem dL_request_23 : decode cL_request 23 = .ok (.iconst 3, 1) := by decide +kernel
theorem dL_request_24 : decode cL_request 24 = .ok (.ireturn, 1) := by decide +kernel
theorem dL_request_25 : decode cL_request 25 = .ok (.iconst 0, 1) := by decide +kernel
theorem dL_request_26 : decode cL_request 26 = .ok (.ireturn, 1) := by decide +kernel
set_option maxRecDepth 20000 in
theorem ggL_renew_X11_renew : GoodIn wsL_renew wsX11_renew := goodIn_ca (goodIn_ca (goodIn_r _ [6, 7, 8, 9, 10, 5, 11, 12, 13, 14, 15, 16, 17, 18, 19, 20, 21, 22, 23, 24, 25, 26, 27, 28, 29, 30, 31, 32, 33, 34, 35, 36, 37, 38, 39, 40, 41, 42, 43, 44, 45, 46, 47, 48, 49, 50, 51, 52, 53, 54, 55, 56, 57, 58, 59, 60, 61, 62, 63, 64, 65, 66, 67, 68, 69, 70, 71, 72, 73, 74, 75, 76, 77, 78, 79, 80, 81, 82, 83, 84, 85, 86, 87, 88, 89, 90, 91, 92, 93, 94, 95, 96, 97, 98, 99, 100, 101, 102, 103, 104, 105, 106, 107, 108, 109, 110, 111, 112, 113, 114, 115, 116, 117, 118, 119, 120, 121, 122, 123, 124, 125, 126, 127, 128, 129, 130, 131, 132, 133, 134, 135, 136, 137, 138, 139, 140, 141, 142, 143, 144, 145, 146, 147, 148, 149, 150, 151, 152, 153, 154, 155, 156, 157, 158, 159, 160, 161, 162, 163, 164, 165, 166, 167, 168, 169, 170, 171, 172, 173, 174, 175, 176, 177, 178, 179, 180, 181, 182, 183, 184, 185, 186, 187, 188, 189, 190, 191, 192, 193, 194, 195, 196, 197, 198, 199, 200, 201, 202, 203, 204, 205, 206, 207, 208, 209, 210, 211, 212, 213, 214, 215, 216, 217, 218, 219, 220, 221, 222] (by decide +kernel) (by decide +kernel)) (goodIn_sub (fun _ h => List.mem_cons_of_mem _ (List.mem_append_left _ (List.mem_append_right _ h))) (by decide +kernel))) (goodIn_sub (fun _ h => List.mem_cons_of_mem _ (List.mem_append_right _ h)) (by decide +kernel))
set_option maxRecDepth 20000 in
theorem gL_renew_X11_renew : GoodIn wsL_renew (wsV RL 132 RX11 yX11_renew wsX11_renew) := goodIn_app (goodIn_of _ (by decide +kernel)) ggL_renew_X11_renew
theorem dL_renew_0 : decode cL_renew 0 = .ok (.aload_n 2, 1) := by decide +kernel
theorem dL_renew_1 : decode cL_renew 1 = .ok (.iconst 0, 1) := by decide +kernel
theorem dL_renew_2 : decode cL_renew 2 = .ok (.aload_n 0, 1) := by decide +kernel
theorem dL_renew_3 : decode cL_renew 3 = .ok (.iload_n 1, 1) := by decide +kernel
theorem dL_renew_4 : decode cL_renew 4 = .ok (.invokevirtual 132, 3) := by decide +kernel
theorem dL_renew_7 : decode cL_renew 7 = .ok (.i2l, 1) := by decide +kernel
theorem dL_renew_8 : decode cL_renew 8 = .ok (.lastore, 1) := by decide +kernel
theorem dL_renew_9 : decode cL_renew 9 = .ok (.goto 9, 3) := by decide +kernel
theorem dL_renew_12 : decode cL_renew 12 = .ok (.astore_n 3, 1) := by decide +kernel
theorem dL_renew_13 : decode cL_renew 13 = .ok (.iconst 1, 1) := by decide +kernel
theorem dL_renew_14 : decode cL_renew 14 = .ok (.ireturn, 1) := by decide +kernel
theorem dL_renew_15 : decode cL_renew 15 = .ok (.astore_n 3, 1) := by decide +kernel
theorem dL_renew_16 : decode cL_renew 16 = .ok (.iconst 2, 1) := by decide +kernel
theorem dL_renew_17 : decode cL_renew 17 = .ok (.ireturn, 1) := by decide +kernel
theorem dL_renew_18 : decode cL_renew 18 = .ok (.iconst 0, 1) := by decide +kernel
theorem dL_renew_19 : decode cL_renew 19 = .ok (.ireturn, 1) := by decide +kernel
set_option maxRecDepth 20000 in
theorem ggL_cheese_X11_cheese : GoodIn wsL_cheese wsX11_cheese := goodIn_ca (goodIn_ca (goodIn_r _ [6, 7, 8, 9, 10, 5, 11, 12, 13, 14, 15, 16, 17, 18, 19, 20, 21, 22, 23, 24, 25, 26, 27, 28, 29, 30, 31, 32, 33, 34, 35, 36, 37, 38, 39, 40, 41, 42, 43, 44, 45, 46, 47, 48, 49, 50, 51, 52, 53, 54, 55, 56, 57, 58, 59, 60, 61, 62, 63, 64, 65, 66, 67, 68, 69, 70, 71, 72, 73, 74, 75, 76, 77, 78, 79, 80, 81, 82, 83, 84, 85, 86, 87, 88, 89, 90, 91, 92, 93, 94, 95, 96, 97, 98, 99, 100, 101, 102, 103, 104, 105, 106, 107, 108, 109, 110, 111, 112, 113, 114, 115, 116, 117, 118, 119, 120, 121, 122, 123, 124, 125, 126, 127, 128, 129, 130, 131, 132, 133, 134, 135, 136, 137, 138, 139, 140, 141, 142, 143, 144, 145, 146, 147, 148, 149, 150, 151, 152, 153, 154, 155, 156, 157, 158, 159, 160, 161, 162, 163, 164, 165, 166, 167, 168, 169, 170, 171, 172, 173, 174, 175, 176, 177, 178, 179, 180, 181, 182, 183, 184, 185, 186, 187, 188, 189, 190, 191, 192, 193, 194, 195, 196, 197, 198, 199, 200, 201, 202, 203, 204, 205, 206, 207, 208, 209, 210, 211, 212, 213, 214, 215, 216, 217, 218, 219, 220, 221, 222, 223, 224, 225, 226, 227, 228, 229, 230, 231, 232, 233, 234, 235, 236, 237, 238, 239, 240, 241, 242, 243, 244, 245, 246, 247, 248, 249, 250, 251, 252, 253, 254, 255, 256, 257, 258, 259, 260, 261, 262, 263] (by decide +kernel) (by decide +kernel)) (goodIn_sub (fun _ h => List.mem_cons_of_mem _ (List.mem_append_left _ (List.mem_append_right _ h))) (by decide +kernel))) (goodIn_sub (fun _ h => List.mem_cons_of_mem _ (List.mem_append_right _ h)) (by decide +kernel))
set_option maxRecDepth 20000 in
theorem gL_cheese_X11_cheese : GoodIn wsL_cheese (wsV RL 135 RX11 yX11_cheese wsX11_cheese) := goodIn_app (goodIn_of _ (by decide +kernel)) ggL_cheese_X11_cheese
theorem dL_cheese_0 : decode cL_cheese 0 = .ok (.aload_n 2, 1) := by decide +kernel
theorem dL_cheese_1 : decode cL_cheese 1 = .ok (.iconst 0, 1) := by decide +kernel
theorem dL_cheese_2 : decode cL_cheese 2 = .ok (.aload_n 0, 1) := by decide +kernel
theorem dL_cheese_3 : decode cL_cheese 3 = .ok (.iload_n 1, 1) := by decide +kernel
theorem dL_cheese_4 : decode cL_cheese 4 = .ok (.invokevirtual 135, 3) := by decide +kernel
theorem dL_cheese_7 : decode cL_cheese 7 = .ok (.i2l, 1) := by decide +kernel
theorem dL_cheese_8 : decode cL_cheese 8 = .ok (.lastore, 1) := by decide +kernel
theorem dL_cheese_9 : decode cL_cheese 9 = .ok (.goto 9, 3) := by decide +kernel
theorem dL_cheese_12 : decode cL_cheese 12 = .ok (.astore_n 3, 1) := by decide +kernel
theorem dL_cheese_13 : decode cL_cheese 13 = .ok (.iconst 1, 1) := by decide +kernel
theorem dL_cheese_14 : decode cL_cheese 14 = .ok (.ireturn, 1) := by decide +kernel
theorem dL_cheese_15 : decode cL_cheese 15 = .ok (.astore_n 3, 1) := by decide +kernel
theorem dL_cheese_16 : decode cL_cheese 16 = .ok (.iconst 2, 1) := by decide +kernel
theorem dL_cheese_17 : decode cL_cheese 17 = .ok (.ireturn, 1) := by decide +kernel
theorem dL_cheese_18 : decode cL_cheese 18 = .ok (.iconst 0, 1) := by decide +kernel
theorem dL_cheese_19 : decode cL_cheese 19 = .ok (.ireturn, 1) := by decide +kernel
set_option maxRecDepth 20000 in
theorem ggL_drop_X11_drop : GoodIn wsL_drop wsX11_drop := goodIn_ca (goodIn_r _ [6, 7, 8, 9, 10, 5, 11, 12, 13, 14, 15, 16, 17, 18, 19, 20, 21, 22, 23, 24, 25, 26, 27, 28, 29, 30, 31, 32, 33, 34, 35, 36, 37, 38, 39, 40, 41, 42, 43, 44, 45, 46, 47, 48, 49, 50, 51, 52, 53, 54, 55, 56, 57, 58, 59, 60, 61, 62, 63, 64, 65, 66, 67, 68, 69, 70, 71, 72, 73, 74, 75, 76, 77, 78, 79, 80, 81, 82, 83, 84, 85, 86, 87, 88, 89, 90, 91, 92, 93, 94, 95, 96, 97, 98, 99, 100, 101, 102, 103, 104, 105, 106, 107, 108, 109, 110, 111, 112, 113, 114, 115, 116, 117, 118, 119, 120, 121, 122, 123, 124, 125, 126, 127, 128, 129, 130, 131, 132, 133, 134, 135, 136, 137, 138, 139, 140, 141, 142, 143, 144, 145, 146, 147, 148, 149, 150, 151, 152, 153, 154, 155, 156, 157, 158, 159, 160, 161, 162, 163, 164, 165, 166, 167, 168, 169, 170, 171, 172, 173, 174, 175, 176, 177, 178, 179, 180, 181, 182, 183, 184, 185, 186, 187, 188, 189] (by decide +kernel) (by decide +kernel)) (goodIn_sub (fun _ h => List.mem_cons_of_mem _ (List.mem_append_right _ h)) (by decide +kernel))
set_option maxRecDepth 20000 in
theorem gL_drop_X11_drop : GoodIn wsL_drop (wsV RL 138 RX11 yX11_drop wsX11_drop) := goodIn_app (goodIn_of _ (by decide +kernel)) ggL_drop_X11_drop
theorem dL_drop_0 : decode cL_drop 0 = .ok (.aload_n 2, 1) := by decide +kernel
theorem dL_drop_1 : decode cL_drop 1 = .ok (.iconst 0, 1) := by decide +kernel
theorem dL_drop_2 : decode cL_drop 2 = .ok (.aload_n 0, 1) := by decide +kernel
theorem dL_drop_3 : decode cL_drop 3 = .ok (.iload_n 1, 1) := by decide +kernel
theorem dL_drop_4 : decode cL_drop 4 = .ok (.invokevirtual 138, 3) := by decide +kernel
theorem dL_drop_7 : decode cL_drop 7 = .ok (.i2l, 1) := by decide +kernel
theorem dL_drop_8 : decode cL_drop 8 = .ok (.lastore, 1) := by decide +kernel
theorem dL_drop_9 : decode cL_drop 9 = .ok (.goto 6, 3) := by decide +kernel
theorem dL_drop_12 : decode cL_drop 12 = .ok (.astore_n 3, 1) := by decide +kernel
theorem dL_drop_13 : decode cL_drop 13 = .ok (.iconst 1, 1) := by decide +kernel
theorem dL_drop_14 : decode cL_drop 14 = .ok (.ireturn, 1) := by decide +kernel
theorem dL_drop_15 : decode cL_drop 15 = .ok (.iconst 0, 1) := by decide +kernel
theorem dL_drop_16 : decode cL_drop 16 = .ok (.ireturn, 1) := by decide +kernel
set_option maxRecDepth 20000 in
theorem ggL_setPassword_X11_setPassword : GoodIn wsL_setPassword wsX11_setPassword := goodIn_ca (goodIn_ca (goodIn_r _ [6, 7, 8, 9, 10, 5, 11, 12, 13, 14, 15, 16, 17, 18, 19, 20, 21, 22, 23, 24, 25, 26, 27, 28, 29, 30, 31, 32, 33, 34, 35, 36, 37, 38, 39, 40, 41, 42, 43, 44, 45, 46, 47, 48, 49, 50, 51, 52, 53, 54, 55, 56, 57, 58, 59, 60, 61, 62, 63, 64, 65, 66, 67, 68, 69, 70, 71, 72, 73, 74, 75, 76, 77, 78, 79, 80, 81, 82, 83, 84, 85, 86, 87, 88, 89, 90, 91, 92, 93, 94, 95, 96, 97, 98, 99, 100, 101, 102, 103, 104, 105, 106, 107, 108, 109, 110, 111, 112, 113, 114, 115, 116, 117, 118, 119, 120, 121, 122, 123, 124, 125, 126, 127, 128, 129, 130, 131, 132, 133, 134, 135, 136, 137, 138, 139, 140, 141, 142, 143, 144, 145, 146, 147, 148, 149, 150, 151, 152, 153, 154, 155, 156, 157, 158, 159, 160, 161, 162, 163, 164, 165, 166, 167, 168, 169, 170, 171, 172, 173, 174, 175, 176, 177, 178, 179, 180, 181, 182, 183, 184, 185] (by decide +kernel) (by decide +kernel)) (goodIn_sub (fun _ h => List.mem_cons_of_mem _ (List.mem_append_left _ (List.mem_append_right _ h))) (by decide +kernel))) (goodIn_sub (fun _ h => List.mem_cons_of_mem _ (List.mem_append_right _ h)) (by decide +kernel))
set_option maxRecDepth 20000 in
theorem gL_setPassword_X11_setPassword : GoodIn wsL_setPassword (wsV RL 141 RX11 yX11_setPassword wsX11_setPassword) := goodIn_app (goodIn_of _ (by decide +kernel)) ggL_setPassword_X11_setPassword
theorem dL_setPassword_0 : decode cL_setPassword 0 = .ok (.aload_n 3, 1) := by decide +kernel
theorem dL_setPassword_1 : decode cL_setPassword 1 = .ok (.iconst 0, 1) := by decide +kernel
theorem dL_setPassword_2 : decode cL_setPassword 2 = .ok (.aload_n 0, 1) := by decide +kernel
theorem dL_setPassword_3 : decode cL_setPassword 3 = .ok (.iload_n 1, 1) := by decide +kernel
theorem dL_setPassword_4 : decode cL_setPassword 4 = .ok (.iload_n 2, 1) := by decide +kernel
theorem dL_setPassword_5 : decode cL_setPassword 5 = .ok (.invokevirtual 141, 3) := by decide +kernel
theorem dL_setPassword_8 : decode cL_setPassword 8 = .ok (.i2l, 1) := by decide +kernel
theorem dL_setPassword_9 : decode cL_setPassword 9 = .ok (.lastore, 1) := by decide +kernel
theorem dL_setPassword_10 : decode cL_setPassword 10 = .ok (.goto 11, 3) := by decide +kernel
theorem dL_setPassword_13 : decode cL_setPassword 13 = .ok (.astore 4, 2) := by decide +kernel
theorem dL_setPassword_15 : decode cL_setPassword 15 = .ok (.iconst 1, 1) := by decide +kernel
theorem dL_setPassword_16 : decode cL_setPassword 16 = .ok (.ireturn, 1) := by decide +kernel
theorem dL_setPassword_17 : decode cL_setPassword 17 = .ok (.astore 4, 2) := by decide +kernel
theorem dL_setPassword_19 : decode cL_setPassword 19 = .ok (.iconst 2, 1) := by decide +kernel
theorem dL_setPassword_20 : decode cL_setPassword 20 = .ok (.ireturn, 1) := by decide +kernel
theorem dL_setPassword_21 : decode cL_setPassword 21 = .ok (.iconst 0, 1) := by decide +kernel
theorem dL_setPassword_22 : decode cL_setPassword 22 = .ok (.ireturn, 1) := by decide +kernel
set_option maxRecDepth 20000 in
theorem ggL_setClock_X11_setClock : GoodIn wsL_setClock wsX11_setClock := goodIn_ca (goodIn_ca (goodIn_r _ [6, 7, 8, 9, 10, 11, 12, 5, 13, 14, 15, 16, 17, 18, 19, 20, 21, 22, 23, 24, 25, 26, 27, 28, 29, 30, 31, 32, 33, 34, 35, 36, 37, 38, 39, 40, 41, 42, 43, 44, 45, 46, 47, 48, 49, 50, 51, 52, 53, 54, 55, 56, 57, 58, 59, 60, 61, 62, 63, 64, 65, 66, 67, 68, 69, 70, 71, 72, 73, 74, 75, 76, 77, 78, 79, 80, 81, 82, 83, 84, 85, 86, 87, 88, 89, 90, 91, 92, 93, 94, 95, 96, 97, 98, 99, 100, 101, 102, 103, 104, 105, 106, 107, 108, 109, 110, 111, 112, 113, 114, 115, 116, 117, 118, 119, 120, 121, 122, 123, 124, 125, 126, 127, 128, 129, 130, 131, 132, 133, 134, 135, 136, 137, 138, 139, 140, 141, 142, 143, 144, 145, 146, 147, 148, 149, 150, 151, 152, 153, 154, 155, 156, 157, 158, 159, 160, 161, 162, 163, 164, 165, 166, 167, 168, 169, 170, 171, 172, 173, 174, 175, 176, 177, 178, 179, 180, 181] (by decide +kernel) (by decide +kernel)) (goodIn_sub (fun _ h => List.mem_cons_of_mem _ (List.mem_append_left _ (List.mem_append_right _ h))) (by decide +kernel))) (goodIn_sub (fun _ h => List.mem_cons_of_mem _ (List.mem_append_right _ h)) (by decide +kernel))
set_option maxRecDepth 20000 in
theorem gL_setClock_X11_setClock : GoodIn wsL_setClock (wsV RL 144 RX11 yX11_setClock wsX11_setClock) := goodIn_app (goodIn_of _ (by decide +kernel)) ggL_setClock_X11_setClock
theorem dL_setClock_0 : decode cL_setClock 0 = .ok (.aload_n 3, 1) := by decide +kernel
theorem dL_setClock_1 : decode cL_setClock 1 = .ok (.iconst 0, 1) := by decide +kernel
theorem dL_setClock_2 : decode cL_setClock 2 = .ok (.aload_n 0, 1) := by decide +kernel
theorem dL_setClock_3 : decode cL_setClock 3 = .ok (.iload_n 1, 1) := by decide +kernel
theorem dL_setClock_4 : decode cL_setClock 4 = .ok (.iload_n 2, 1) := by decide +kernel
theorem dL_setClock_5 : decode cL_setClock 5 = .ok (.invokevirtual 144, 3) := by decide +kernel
theorem dL_setClock_8 : decode cL_setClock 8 = .ok (.i2l, 1) := by decide +kernel
theorem dL_setClock_9 : decode cL_setClock 9 = .ok (.lastore, 1) := by decide +kernel
theorem dL_setClock_10 : decode cL_setClock 10 = .ok (.goto 11, 3) := by decide +kernel
theorem dL_setClock_13 : decode cL_setClock 13 = .ok (.astore 4, 2) := by decide +kernel
theorem dL_setClock_15 : decode cL_setClock 15 = .ok (.iconst 1, 1) := by decide +kernel
theorem dL_setClock_16 : decode cL_setClock 16 = .ok (.ireturn, 1) := by decide +kernel
theorem dL_setClock_17 : decode cL_setClock 17 = .ok (.astore 4, 2) := by decide +kernel
theorem dL_setClock_19 : decode cL_setClock 19 = .ok (.iconst 2, 1) := by decide +kernel
theorem dL_setClock_20 : decode cL_setClock 20 = .ok (.ireturn, 1) := by decide +kernel
theorem dL_setClock_21 : decode cL_setClock 21 = .ok (.iconst 0, 1) := by decide +kernel
theorem dL_setClock_22 : decode cL_setClock 22 = .ok (.ireturn, 1) := by decide +kernel
set_option maxRecDepth 20000 in
theorem ggL_pass_X11_pass : GoodIn wsL_pass wsX11_pass := goodIn_ca (goodIn_r _ [6, 7, 8, 9, 10, 11, 12, 5, 13, 14, 15, 16, 17, 18, 19, 20, 21, 22, 23, 24, 25, 26, 27, 28, 29, 30, 31, 32, 33, 34, 35, 36, 37, 38, 39, 40, 41, 42, 43, 44, 45, 46, 47, 48, 49, 50, 51, 52, 53, 54, 55, 56, 57, 58, 59, 60, 61, 62, 63, 64, 65, 66, 67, 68, 69, 70, 71, 72, 73, 74, 75, 76, 77, 78, 79, 80, 81, 82, 83, 84, 85, 86, 87, 88, 89, 90, 91, 92, 93, 94, 95, 96, 97, 98, 99, 100, 101, 102, 103, 104, 105, 106, 107, 108, 109, 110, 111, 112, 113, 114, 115, 116, 117, 118, 119, 120, 121, 122, 123, 124, 125, 126, 127, 128, 129, 130, 131, 132, 133, 134, 135, 136, 137, 138, 139, 140, 141, 142, 143, 144, 145, 146, 147, 148, 149, 150, 151, 152, 153, 154, 155, 156, 157, 158, 159, 160, 161, 162, 163, 164, 165, 166, 167, 168, 169, 170, 171, 172, 173, 174, 175, 176, 177, 178, 179, 180, 181, 182, 183, 184, 185, 186, 187, 188, 189, 190, 191, 192, 193, 194, 195, 196, 197, 198, 199, 200, 201] (by decide +kernel) (by decide +kernel)) (goodIn_sub (fun _ h => List.mem_cons_of_mem _ (List.mem_append_right _ h)) (by decide +kernel))
set_option maxRecDepth 20000 in
theorem gL_pass_X11_pass : GoodIn wsL_pass (wsV RL 147 RX11 yX11_pass wsX11_pass) := goodIn_app (goodIn_of _ (by decide +kernel)) ggL_pass_X11_pass
theorem dL_pass_0 : decode cL_pass 0 = .ok (.aload_n 2, 1) := by decide +kernel
theorem dL_pass_1 : decode cL_pass 1 = .ok (.iconst 0, 1) := by decide +kernel
theorem dL_pass_2 : decode cL_pass 2 = .ok (.aload_n 0, 1) := by decide +kernel
theorem dL_pass_3 : decode cL_pass 3 = .ok (.iload_n 1, 1) := by decide +kernel
theorem dL_pass_4 : decode cL_pass 4 = .ok (.invokevirtual 147, 3) := by decide +kernel
theorem dL_pass_7 : decode cL_pass 7 = .ok (.i2l, 1) := by decide +kernel
theorem dL_pass_8 : decode cL_pass 8 = .ok (.lastore, 1) := by decide +kernel
theorem dL_pass_9 : decode cL_pass 9 = .ok (.goto 6, 3) := by decide +kernel
theorem dL_pass_12 : decode cL_pass 12 = .ok (.astore_n 3, 1) := by decide +kernel
theorem dL_pass_13 : decode cL_pass 13 = .ok (.iconst 1, 1) := by decide +kernel
theorem dL_pass_14 : decode cL_pass 14 = .ok (.ireturn, 1) := by decide +kernel
theorem dL_pass_15 : decode cL_pass 15 = .ok (.iconst 0, 1) := by decide +kernel
theorem dL_pass_16 : decode cL_pass 16 = .ok (.ireturn, 1) := by decide +kernel
set_option maxRecDepth 20000 in
theorem ggL_writeTicket_X11_writeTicket : GoodIn wsL_writeTicket wsX11_writeTicket := goodIn_ca (goodIn_r _ [6, 7, 8, 9, 10, 11, 5, 12, 13, 14, 15, 16, 17, 18, 19, 20, 21, 22, 23, 24, 25, 26, 27, 28, 29, 30, 31, 32, 33, 34, 35, 36, 37, 38, 39, 40, 41, 42, 43, 44, 45, 46, 47, 48, 49, 50, 51, 52, 53, 54, 55, 56, 57, 58, 59, 60, 61, 62, 63, 64, 65, 66, 67, 68, 69, 70, 71, 72, 73, 74, 75, 76, 77, 78, 79, 80, 81, 82, 83, 84, 85, 86, 87, 88, 89, 90, 91, 92, 93, 94, 95, 96, 97, 98, 99, 100, 101, 102, 103, 104, 105, 106, 107, 108, 109, 110, 111, 112, 113, 114, 115, 116, 117, 118, 119, 120] (by decide +kernel) (by decide +kernel)) (goodIn_sub (fun _ h => List.mem_cons_of_mem _ (List.mem_append_right _ h)) (by decide +kernel))
set_option maxRecDepth 20000 in
theorem gL_writeTicket_X11_writeTicket : GoodIn wsL_writeTicket (wsV RL 150 RX11 yX11_writeTicket wsX11_writeTicket) := goodIn_app (goodIn_of _ (by decide +kernel)) ggL_writeTicket_X11_writeTicket
theorem dL_writeTicket_0 : decode cL_writeTicket 0 = .ok (.aload_n 2, 1) := by decide +kernel
theorem dL_writeTicket_1 : decode cL_writeTicket 1 = .ok (.iconst 0, 1) := by decide +kernel
theorem dL_writeTicket_2 : decode cL_writeTicket 2 = .ok (.aload_n 0, 1) := by decide +kernel
theorem dL_writeTicket_3 : decode cL_writeTicket 3 = .ok (.iload_n 1, 1) := by decide +kernel
theorem dL_writeTicket_4 : decode cL_writeTicket 4 = .ok (.invokevirtual 150, 3) := by decide +kernel
theorem dL_writeTicket_7 : decode cL_writeTicket 7 = .ok (.i2l, 1) := by decide +kernel
theorem dL_writeTicket_8 : decode cL_writeTicket 8 = .ok (.lastore, 1) := by decide +kernel
theorem dL_writeTicket_9 : decode cL_writeTicket 9 = .ok (.goto 6, 3) := by decide +kernel
theorem dL_writeTicket_12 : decode cL_writeTicket 12 = .ok (.astore_n 3, 1) := by decide +kernel
theorem dL_writeTicket_13 : decode cL_writeTicket 13 = .ok (.iconst 1, 1) := by decide +kernel
theorem dL_writeTicket_14 : decode cL_writeTicket 14 = .ok (.ireturn, 1) := by decide +kernel
theorem dL_writeTicket_15 : decode cL_writeTicket 15 = .ok (.iconst 0, 1) := by decide +kernel
theorem dL_writeTicket_16 : decode cL_writeTicket 16 = .ok (.ireturn, 1) := by decide +kernel
set_option maxRecDepth 20000 in
theorem ggL_outputByte_X11_outputByte : GoodIn wsL_outputByte wsX11_outputByte := goodIn_ca (goodIn_r _ [6, 7, 8, 9, 10, 11, 12, 13, 14, 15, 16, 17, 18, 19, 20, 21, 22, 23, 24, 25, 26, 27, 28, 29, 30] (by decide +kernel) (by decide +kernel)) (goodIn_sub (fun _ h => List.mem_cons_of_mem _ (List.mem_append_right _ h)) (by decide +kernel))
set_option maxRecDepth 20000 in
theorem gL_outputByte_X11_outputByte : GoodIn wsL_outputByte (wsV RL 153 RX11 yX11_outputByte wsX11_outputByte) := goodIn_app (goodIn_of _ (by decide +kernel)) ggL_outputByte_X11_outputByte
theorem dL_outputByte_0 : decode cL_outputByte 0 = .ok (.aload_n 2, 1) := by decide +kernel
theorem dL_outputByte_1 : decode cL_outputByte 1 = .ok (.iconst 0, 1) := by decide +kernel
theorem dL_outputByte_2 : decode cL_outputByte 2 = .ok (.aload_n 0, 1) := by decide +kernel
theorem dL_outputByte_3 : decode cL_outputByte 3 = .ok (.iload_n 1, 1) := by decide +kernel
theorem dL_outputByte_4 : decode cL_outputByte 4 = .ok (.invokevirtual 153, 3) := by decide +kernel
theorem dL_outputByte_7 : decode cL_outputByte 7 = .ok (.i2l, 1) := by decide +kernel
theorem dL_outputByte_8 : decode cL_outputByte 8 = .ok (.lastore, 1) := by decide +kernel
theorem dL_outputByte_9 : decode cL_outputByte 9 = .ok (.goto 6, 3) := by decide +kernel
theorem dL_outputByte_12 : decode cL_outputByte 12 = .ok (.astore_n 3, 1) := by decide +kernel
theorem dL_outputByte_13 : decode cL_outputByte 13 = .ok (.iconst 1, 1) := by decide +kernel
theorem dL_outputByte_14 : decode cL_outputByte 14 = .ok (.ireturn, 1) := by decide +kernel
theorem dL_outputByte_15 : decode cL_outputByte 15 = .ok (.iconst 0, 1) := by decide +kernel
theorem dL_outputByte_16 : decode cL_outputByte 16 = .ok (.ireturn, 1) := by decide +kernel
set_option maxRecDepth 20000 in
theorem ggL_save_X11_save : GoodIn wsL_save wsX11_save := goodIn_ca (goodIn_r _ [6, 7, 8, 9, 10, 11, 5, 12, 13, 14, 15, 16, 17, 18, 19, 20, 21, 22, 23, 24, 25, 26, 27, 28, 29, 30, 31, 32, 33, 34, 35, 36, 37, 38, 39, 40, 41, 42, 43, 44, 45, 46, 47, 48, 49, 50, 51, 52, 53, 54, 55, 56, 57, 58, 59, 60, 61, 62, 63, 64, 65, 66, 67, 68, 69, 70, 71, 72, 73, 74, 75, 76, 77, 78, 79, 80, 81, 82, 83, 84, 85, 86, 87, 88, 89, 90, 91, 92, 93, 94, 95, 96, 97, 98, 99, 100, 101, 102, 103, 104, 105, 106, 107, 108, 109, 110, 111, 112, 113, 114, 115, 116, 117, 118, 119, 120, 121, 122, 123, 124, 125, 126, 127, 128, 129, 130, 131, 132, 133, 134, 135, 136, 137, 138, 139, 140, 141, 142, 143, 144, 145, 146, 147, 148, 149, 150, 151, 152, 153, 154, 155, 156, 157] (by decide +kernel) (by decide +kernel)) (goodIn_sub (fun _ h => List.mem_cons_of_mem _ (List.mem_append_right _ h)) (by decide +kernel))
set_option maxRecDepth 20000 in
theorem gL_save_X11_save : GoodIn wsL_save (wsV RL 156 RX11 yX11_save wsX11_save) := goodIn_app (goodIn_of _ (by decide +kernel)) ggL_save_X11_save
theorem dL_save_0 : decode cL_save 0 = .ok (.aload_n 2, 1) := by decide +kernel
theorem dL_save_1 : decode cL_save 1 = .ok (.iconst 0, 1) := by decide +kernel
theorem dL_save_2 : decode cL_save 2 = .ok (.aload_n 0, 1) := by decide +kernel
theorem dL_save_3 : decode cL_save 3 = .ok (.iload_n 1, 1) := by decide +kernel
theorem dL_save_4 : decode cL_save 4 = .ok (.invokevirtual 156, 3) := by decide +kernel
theorem dL_save_7 : decode cL_save 7 = .ok (.i2l, 1) := by decide +kernel
theorem dL_save_8 : decode cL_save 8 = .ok (.lastore, 1) := by decide +kernel
theorem dL_save_9 : decode cL_save 9 = .ok (.goto 6, 3) := by decide +kernel
theorem dL_save_12 : decode cL_save 12 = .ok (.astore_n 3, 1) := by decide +kernel
theorem dL_save_13 : decode cL_save 13 = .ok (.iconst 1, 1) := by decide +kernel
theorem dL_save_14 : decode cL_save 14 = .ok (.ireturn, 1) := by decide +kernel
theorem dL_save_15 : decode cL_save 15 = .ok (.iconst 0, 1) := by decide +kernel
theorem dL_save_16 : decode cL_save 16 = .ok (.ireturn, 1) := by decide +kernel
set_option maxRecDepth 20000 in
theorem ggL_restore_X11_restore : GoodIn wsL_restore wsX11_restore := goodIn_ca (goodIn_ca (goodIn_r _ [6, 7, 8, 9, 10, 11, 12, 13, 5, 14, 15, 16, 17, 18, 19, 20, 21, 22, 23, 24, 25, 26, 27, 28, 29, 30, 31, 32, 33, 34, 35, 36, 37, 38, 39, 40, 41, 42, 43, 44, 45, 46, 47, 48, 49, 50, 51, 52, 53, 54, 55, 56, 57, 58, 59, 60, 61, 62, 63, 64, 65, 66, 67, 68, 69, 70, 71, 72, 73, 74, 75, 76, 77, 78, 79, 80, 81, 82, 83, 84, 85, 86, 87, 88, 89, 90, 91, 92, 93, 94, 95, 96, 97, 98, 99, 100, 101, 102, 103, 104, 105, 106, 107, 108, 109, 110, 111, 112, 113, 114, 115, 116, 117, 118, 119, 120, 121, 122, 123, 124, 125, 126, 127, 128, 129, 130, 131, 132, 133, 134, 135, 136, 137, 138, 139, 140, 141, 142, 143, 144, 145, 146, 147, 148, 149, 150, 151, 152, 153, 154, 155, 156, 157, 158, 159, 160, 161, 162, 163, 164, 165, 166, 167, 168, 169, 170, 171, 172, 173, 174, 175] (by decide +kernel) (by decide +kernel)) (goodIn_sub (fun _ h => List.mem_cons_of_mem _ (List.mem_append_left _ (List.mem_append_right _ h))) (by decide +kernel))) (goodIn_sub (fun _ h => List.mem_cons_of_mem _ (List.mem_append_right _ h)) (by decide +kernel))
set_option maxRecDepth 20000 in
theorem gL_restore_X11_restore : GoodIn wsL_restore (wsV RL 159 RX11 yX11_restore wsX11_restore) := goodIn_app (goodIn_of _ (by decide +kernel)) ggL_restore_X11_restore
theorem dL_restore_0 : decode cL_restore 0 = .ok (.aload_n 2, 1) := by decide +kernel
theorem dL_restore_1 : decode cL_restore 1 = .ok (.iconst 0, 1) := by decide +kernel
theorem dL_restore_2 : decode cL_restore 2 = .ok (.aload_n 0, 1) := by decide +kernel
theorem dL_restore_3 : decode cL_restore 3 = .ok (.iload_n 1, 1) := by decide +kernel
theorem dL_restore_4 : decode cL_restore 4 = .ok (.invokevirtual 159, 3) := by decide +kernel
theorem dL_restore_7 : decode cL_restore 7 = .ok (.i2l, 1) := by decide +kernel
theorem dL_restore_8 : decode cL_restore 8 = .ok (.lastore, 1) := by decide +kernel
theorem dL_restore_9 : decode cL_restore 9 = .ok (.goto 9, 3) := by decide +kernel
theorem dL_restore_12 : decode cL_restore 12 = .ok (.astore_n 3, 1) := by decide +kernel
theorem dL_restore_13 : decode cL_restore 13 = .ok (.iconst 1, 1) := by decide +kernel
theorem dL_restore_14 : decode cL_restore 14 = .ok (.ireturn, 1) := by decide +kernel
theorem dL_restore_15 : decode cL_restore 15 = .ok (.astore_n 3, 1) := by decide +kernel
theorem dL_restore_16 : decode cL_restore 16 = .ok (.iconst 2, 1) := by decide +kernel
theorem dL_restore_17 : decode cL_restore 17 = .ok (.ireturn, 1) := by decide +kernel
theorem dL_restore_18 : decode cL_restore 18 = .ok (.iconst 0, 1) := by decide +kernel
theorem dL_restore_19 : decode cL_restore 19 = .ok (.ireturn, 1) := by decide +kernel
set_option maxRecDepth 20000 in
theorem ggL_undo_X11_undo : GoodIn wsL_undo wsX11_undo := goodIn_ca (goodIn_r _ [6, 7, 8, 9, 10, 11, 12, 13, 14, 15, 16, 17, 18, 19, 20, 21, 22, 23, 24, 25, 26, 27, 28, 29, 30, 31, 32, 33, 34, 35, 36, 37, 38, 39, 40, 41, 42, 43, 44, 45, 46, 47, 48, 49, 50, 51, 52, 53, 54, 55, 56, 57, 58, 59, 60, 61, 62, 63, 64, 65, 66, 67, 68, 69, 70, 71, 72, 73, 74, 75, 76, 77, 78, 79, 80, 81, 82, 83, 84, 85, 86, 87, 88, 89, 90, 91, 92, 93, 94, 95, 96, 97, 98, 99, 100, 101, 102, 103, 104] (by decide +kernel) (by decide +kernel)) (goodIn_sub (fun _ h => List.mem_cons_of_mem _ (List.mem_append_right _ h)) (by decide +kernel))
set_option maxRecDepth 20000 in
theorem gL_undo_X11_undo : GoodIn wsL_undo (wsV RL 162 RX11 yX11_undo wsX11_undo) := goodIn_app (goodIn_of _ (by decide +kernel)) ggL_undo_X11_undo
theorem dL_undo_0 : decode cL_undo 0 = .ok (.aload_n 1, 1) := by decide +kernel
theorem dL_undo_1 : decode cL_undo 1 = .ok (.iconst 0, 1) := by decide +kernel
theorem dL_undo_2 : decode cL_undo 2 = .ok (.aload_n 0, 1) := by decide +kernel
theorem dL_undo_3 : decode cL_undo 3 = .ok (.invokevirtual 162, 3) := by decide +kernel
theorem dL_undo_6 : decode cL_undo 6 = .ok (.i2l, 1) := by decide +kernel
theorem dL_undo_7 : decode cL_undo 7 = .ok (.lastore, 1) := by decide +kernel
theorem dL_undo_8 : decode cL_undo 8 = .ok (.goto 6, 3) := by decide +kernel
theorem dL_undo_11 : decode cL_undo 11 = .ok (.astore_n 2, 1) := by decide +kernel
theorem dL_undo_12 : decode cL_undo 12 = .ok (.iconst 1, 1) := by decide +kernel
theorem dL_undo_13 : decode cL_undo 13 = .ok (.ireturn, 1) := by decide +kernel
theorem dL_undo_14 : decode cL_undo 14 = .ok (.iconst 0, 1) := by decide +kernel
theorem dL_undo_15 : decode cL_undo 15 = .ok (.ireturn, 1) := by decide +kernel
set_option maxRecDepth 20000 in
theorem ggL_law_X11_init : GoodIn wsL_law wsX11_init := goodIn_r _ [9, 10, 11, 12, 13, 14, 15, 16, 17, 18, 19, 20, 21, 22, 23, 24, 25, 26, 27, 28, 29, 30, 31, 32, 33, 34, 35, 36, 37, 38, 39, 40, 41, 42, 43, 44, 45, 46, 47, 48, 49, 50, 51, 52, 53, 54, 55, 56, 57, 58, 59, 60, 61, 62, 63, 64, 65, 66, 67, 68, 69, 70, 71, 72, 73, 74, 75, 76, 77, 78, 79, 80, 81, 82, 83, 84, 85, 86, 87, 88, 89, 90, 91, 92, 93, 94, 95, 96, 97, 98, 99, 100, 101, 102, 103, 104, 105, 106, 107, 108, 109, 110, 111, 112, 113, 114, 115, 116, 117, 118, 119, 120, 121, 122, 123, 124, 125, 126, 127, 128, 129, 130, 131, 132, 133, 134, 135, 136, 137, 138, 139, 140, 141, 142, 143, 144, 145, 146, 147, 148, 149, 150, 151, 152, 153, 154, 155, 156, 157, 158, 159, 160, 161, 162, 163, 164, 165, 166, 167, 168, 169, 170, 171, 172, 173, 174, 175, 176, 177, 178, 179, 180, 181, 182, 183, 184, 185, 186, 187, 188, 189, 190, 191, 192, 193, 194, 195, 196, 197, 198, 199, 200, 201, 202, 203, 204, 205, 206, 207, 208, 209, 210, 211, 212, 213, 214, 215, 216, 217, 218, 219, 220, 221, 222, 223, 224, 225, 226, 227, 228, 229, 230, 231, 232, 233, 234, 235, 236, 237, 238, 239, 240, 241, 242, 243, 244, 245, 246, 247, 248, 249, 250, 251, 252, 253, 254, 255, 256, 257, 258, 259, 260, 261, 262, 263, 264, 265, 266, 267, 268, 269, 270, 271, 272, 273, 274, 275, 276, 277, 278, 279, 280, 281, 282, 283, 284, 285, 286, 287, 288, 289, 290, 291, 292, 293, 294, 295, 296, 297, 298, 299, 300, 301, 302, 303, 304, 305, 306, 307, 308, 309, 310, 311, 312, 313, 314, 315, 316, 317, 318, 319, 320, 321, 322, 323, 324, 325, 326, 327, 328, 329, 330, 331, 332, 333, 334, 335, 336, 337, 338, 339, 340, 341, 342, 343, 344, 345, 346, 347, 348, 349, 350, 351, 352, 353, 354, 355, 356, 357, 358, 359, 360, 361, 362, 363, 364, 365, 366, 367, 368, 369, 370, 371, 372, 373, 374, 375, 376, 377, 378, 379, 380, 381, 382, 383, 384, 385, 386, 387, 388, 389, 390, 391, 392, 393, 394, 395, 396, 397, 398, 399, 400, 401, 402, 403, 404, 405, 406, 407, 408, 409, 410, 411, 412, 413, 414, 415, 416, 417, 418, 419, 420, 421, 422, 423, 424, 425, 426, 427, 428, 429, 430, 431, 432, 433, 434, 435, 436, 437, 438, 439, 440, 441, 442, 443, 444, 445, 446, 447, 448, 449, 450, 451, 452, 453, 454, 455, 456, 457, 458, 459, 460, 461, 462, 463, 464, 465, 466, 467, 468, 469, 470, 471, 472, 473, 474, 475, 476, 477, 478, 479, 480, 481, 482, 483, 484, 485, 486, 487, 488, 489, 490, 491, 492, 493, 494, 495, 496, 497, 498, 499, 500, 501, 502, 503, 504, 505, 506, 507, 508, 509, 510, 511, 512, 513, 514, 515, 516, 517, 518, 519, 520, 521, 522, 523, 524, 525, 526, 527, 528, 529, 530, 531, 532, 533, 534, 535, 536, 537, 538, 539, 540, 541, 542, 543, 544, 545, 546, 547, 548, 549, 550, 551, 552, 553, 554, 555, 556, 557, 558, 559, 560, 561, 562, 563, 564, 565, 566, 567, 568, 569, 570, 571, 572, 573, 574, 575, 576, 577, 578, 579, 580, 581, 582, 583, 584, 585, 586, 587, 588, 589, 590, 591, 592, 593, 594, 595, 596, 597, 598, 599, 1850, 1851, 1820, 1821, 1822, 1823, 1824, 1825, 1826, 1827, 1852, 1853, 1854, 1855, 1856, 1857, 1858, 1859, 1860, 1861, 1862, 1863, 1864, 1865, 1866, 1867, 1868, 1869, 1870, 1871, 1872, 1873, 1874, 1875, 1876, 1877, 1878, 1879, 1880, 1881, 1882, 1883, 1884, 1885, 1886, 1887, 1888, 1889, 1890, 1891, 1892, 1893, 1894] (by decide +kernel) (by decide +kernel)
set_option maxRecDepth 20000 in
theorem gL_law_X11_init : GoodIn wsL_law (wsX11_init) := ggL_law_X11_init
