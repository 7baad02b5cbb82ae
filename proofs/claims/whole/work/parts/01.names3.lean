theorem dX5_whyNoRequest_55 : decode cX5_whyNoRequest 55 = .ok (.iload_n 1, 1) := by decide +kernel
theorem dX5_whyNoRequest_56 : decode cX5_whyNoRequest 56 = .ok (.invokevirtual 108, 3) := by decide +kernel
theorem dX5_whyNoRequest_59 : decode cX5_whyNoRequest 59 = .ok (.ifCond .eq 5, 3) := by decide +kernel
theorem dX5_whyNoRequest_62 : decode cX5_whyNoRequest 62 = .ok (.iconst 4, 1) := by decide +kernel
theorem dX5_whyNoRequest_63 : decode cX5_whyNoRequest 63 = .ok (.ireturn, 1) := by decide +kernel
theorem dX5_whyNoRequest_64 : decode cX5_whyNoRequest 64 = .ok (.aload_n 0, 1) := by decide +kernel
theorem dX5_whyNoRequest_65 : decode cX5_whyNoRequest 65 = .ok (.getfield 35, 3) := by decide +kernel
theorem dX5_whyNoRequest_68 : decode cX5_whyNoRequest 68 = .ok (.invokevirtual 97, 3) := by decide +kernel
theorem dX5_whyNoRequest_71 : decode cX5_whyNoRequest 71 = .ok (.ifCond .eq 7, 3) := by decide +kernel
theorem dX5_whyNoRequest_74 : decode cX5_whyNoRequest 74 = .ok (.iconst 5, 1) := by decide +kernel
theorem dX5_whyNoRequest_75 : decode cX5_whyNoRequest 75 = .ok (.goto 4, 3) := by decide +kernel
theorem dX5_whyNoRequest_78 : decode cX5_whyNoRequest 78 = .ok (.iconst 0, 1) := by decide +kernel
theorem dX5_whyNoRequest_79 : decode cX5_whyNoRequest 79 = .ok (.ireturn, 1) := by decide +kernel
set_option maxRecDepth 20000 in
theorem ggX5_whyNoRenewal_X7_canBeRenewed : GoodIn wsX5_whyNoRenewal wsX7_canBeRenewed := goodIn_r _ [7, 8, 9, 10, 11, 12, 13, 14, 15, 16, 45, 46, 47, 48, 49, 50, 51, 52, 53, 54, 55, 56, 57, 58, 59, 60, 61, 62, 63, 64, 65, 66, 67, 68] (by decide +kernel) (by decide +kernel)
set_option maxRecDepth 20000 in
theorem gX5_whyNoRenewal_X7_canBeRenewed : GoodIn wsX5_whyNoRenewal (wsV RX5 113 RX7 yX7_canBeRenewed wsX7_canBeRenewed) := goodIn_app (goodIn_of _ (by decide +kernel)) ggX5_whyNoRenewal_X7_canBeRenewed
set_option maxRecDepth 20000 in
theorem ggX5_whyNoRenewal_X7_isAlive : GoodIn wsX5_whyNoRenewal wsX7_isAlive := goodIn_r _ [20, 8, 9, 10, 11, 12, 13, 14, 15, 16, 45, 46, 47, 48, 49, 50, 51, 52, 53, 54, 55, 56, 57, 58, 59, 60, 61, 62, 63, 64, 65, 66, 67, 68] (by decide +kernel) (by decide +kernel)
set_option maxRecDepth 20000 in
theorem gX5_whyNoRenewal_X7_isAlive : GoodIn wsX5_whyNoRenewal (wsV RX5 101 RX7 yX7_isAlive wsX7_isAlive) := goodIn_app (goodIn_of _ (by decide +kernel)) ggX5_whyNoRenewal_X7_isAlive
set_option maxRecDepth 20000 in
theorem ggX5_whyNoRenewal_X5_renewedEnd : GoodIn wsX5_whyNoRenewal wsX5_renewedEnd := goodIn_r _ [25, 1, 2, 26, 27, 28, 29, 30, 31, 9, 10, 11, 12, 13, 14, 15, 16, 32, 33, 34, 35, 36, 37, 38, 39, 40, 41, 42, 43, 44, 45, 46, 47, 48, 49, 50, 51, 52, 53, 54, 55, 56, 57, 58, 59, 60, 61, 62, 63, 64, 65, 66, 67, 68] (by decide +kernel) (by decide +kernel)
set_option maxRecDepth 20000 in
theorem gX5_whyNoRenewal_X5_renewedEnd : GoodIn wsX5_whyNoRenewal (wsV RX5 116 RX5 yX5_renewedEnd wsX5_renewedEnd) := goodIn_app (goodIn_of _ (by decide +kernel)) ggX5_whyNoRenewal_X5_renewedEnd
set_option maxRecDepth 20000 in
theorem ggX5_whyNoRenewal_X6_get : GoodIn wsX5_whyNoRenewal wsX6_get := goodIn_r _ [13, 14, 15, 16, 45, 46, 47, 48, 49, 50, 51, 52, 53, 54, 55, 56, 57, 58, 59, 60, 61, 62, 63, 64, 65, 66, 67, 68] (by decide +kernel) (by decide +kernel)
set_option maxRecDepth 20000 in
theorem gX5_whyNoRenewal_X6_get_u93X7 : GoodIn wsX5_whyNoRenewal (va_wsU RX5 93 RX7 "TicketGate$Table" ⟨"TicketGate$Tickets", "get", "(II)I"⟩ yX6_get wsX6_get) := goodIn_app (goodIn_of _ (by decide +kernel)) ggX5_whyNoRenewal_X6_get
theorem dX5_whyNoRenewal_0 : decode cX5_whyNoRenewal 0 = .ok (.aload_n 0, 1) := by decide +kernel
theorem dX5_whyNoRenewal_1 : decode cX5_whyNoRenewal 1 = .ok (.getfield 35, 3) := by decide +kernel
theorem dX5_whyNoRenewal_4 : decode cX5_whyNoRenewal 4 = .ok (.iload_n 1, 1) := by decide +kernel
theorem dX5_whyNoRenewal_5 : decode cX5_whyNoRenewal 5 = .ok (.invokevirtual 113, 3) := by decide +kernel
theorem dX5_whyNoRenewal_8 : decode cX5_whyNoRenewal 8 = .ok (.ifCond .ne 5, 3) := by decide +kernel
theorem dX5_whyNoRenewal_11 : decode cX5_whyNoRenewal 11 = .ok (.iconst 1, 1) := by decide +kernel
theorem dX5_whyNoRenewal_12 : decode cX5_whyNoRenewal 12 = .ok (.ireturn, 1) := by decide +kernel
theorem dX5_whyNoRenewal_13 : decode cX5_whyNoRenewal 13 = .ok (.aload_n 0, 1) := by decide +kernel
theorem dX5_whyNoRenewal_14 : decode cX5_whyNoRenewal 14 = .ok (.getfield 35, 3) := by decide +kernel
theorem dX5_whyNoRenewal_17 : decode cX5_whyNoRenewal 17 = .ok (.iload_n 1, 1) := by decide +kernel
theorem dX5_whyNoRenewal_18 : decode cX5_whyNoRenewal 18 = .ok (.aload_n 0, 1) := by decide +kernel
theorem dX5_whyNoRenewal_19 : decode cX5_whyNoRenewal 19 = .ok (.getfield 53, 3) := by decide +kernel
theorem dX5_whyNoRenewal_22 : decode cX5_whyNoRenewal 22 = .ok (.invokevirtual 101, 3) := by decide +kernel
theorem dX5_whyNoRenewal_25 : decode cX5_whyNoRenewal 25 = .ok (.ifCond .ne 5, 3) := by decide +kernel
theorem dX5_whyNoRenewal_28 : decode cX5_whyNoRenewal 28 = .ok (.iconst 2, 1) := by decide +kernel
theorem dX5_whyNoRenewal_29 : decode cX5_whyNoRenewal 29 = .ok (.ireturn, 1) := by decide +kernel
theorem dX5_whyNoRenewal_30 : decode cX5_whyNoRenewal 30 = .ok (.aload_n 0, 1) := by decide +kernel
theorem dX5_whyNoRenewal_31 : decode cX5_whyNoRenewal 31 = .ok (.iload_n 1, 1) := by decide +kernel
theorem dX5_whyNoRenewal_32 : decode cX5_whyNoRenewal 32 = .ok (.invokevirtual 116, 3) := by decide +kernel
theorem dX5_whyNoRenewal_35 : decode cX5_whyNoRenewal 35 = .ok (.aload_n 0, 1) := by decide +kernel
theorem dX5_whyNoRenewal_36 : decode cX5_whyNoRenewal 36 = .ok (.getfield 35, 3) := by decide +kernel
theorem dX5_whyNoRenewal_39 : decode cX5_whyNoRenewal 39 = .ok (.iload_n 1, 1) := by decide +kernel
theorem dX5_whyNoRenewal_40 : decode cX5_whyNoRenewal 40 = .ok (.bipush 6, 2) := by decide +kernel
theorem dX5_whyNoRenewal_42 : decode cX5_whyNoRenewal 42 = .ok (.invokevirtual 93, 3) := by decide +kernel
theorem dX5_whyNoRenewal_45 : decode cX5_whyNoRenewal 45 = .ok (.if_icmp .le 7, 3) := by decide +kernel
theorem dX5_whyNoRenewal_48 : decode cX5_whyNoRenewal 48 = .ok (.iconst 0, 1) := by decide +kernel
theorem dX5_whyNoRenewal_49 : decode cX5_whyNoRenewal 49 = .ok (.goto 4, 3) := by decide +kernel
theorem dX5_whyNoRenewal_52 : decode cX5_whyNoRenewal 52 = .ok (.iconst 3, 1) := by decide +kernel
theorem dX5_whyNoRenewal_53 : decode cX5_whyNoRenewal 53 = .ok (.ireturn, 1) := by decide +kernel
set_option maxRecDepth 20000 in
theorem ggX5_whyNoCheese_X6_get : GoodIn wsX5_whyNoCheese wsX6_get := goodIn_r _ [12, 13, 14, 15, 68, 69, 70, 71, 72, 73, 74, 75, 76, 77, 78, 79, 80, 81, 82, 83, 84, 85, 86, 87, 88, 89, 90, 91] (by decide +kernel) (by decide +kernel)
set_option maxRecDepth 20000 in
theorem gX5_whyNoCheese_X6_get_u93X7 : GoodIn wsX5_whyNoCheese (va_wsU RX5 93 RX7 "TicketGate$Table" ⟨"TicketGate$Tickets", "get", "(II)I"⟩ yX6_get wsX6_get) := goodIn_app (goodIn_of _ (by decide +kernel)) ggX5_whyNoCheese_X6_get
set_option maxRecDepth 20000 in
theorem ggX5_whyNoCheese_X7_isAlive : GoodIn wsX5_whyNoCheese wsX7_isAlive := goodIn_r _ [20, 21, 8, 9, 10, 11, 12, 13, 14, 15, 68, 69, 70, 71, 72, 73, 74, 75, 76, 77, 78, 79, 80, 81, 82, 83, 84, 85, 86, 87, 88, 89, 90, 91] (by decide +kernel) (by decide +kernel)
set_option maxRecDepth 20000 in
theorem gX5_whyNoCheese_X7_isAlive : GoodIn wsX5_whyNoCheese (wsV RX5 101 RX7 yX7_isAlive wsX7_isAlive) := goodIn_app (goodIn_of _ (by decide +kernel)) ggX5_whyNoCheese_X7_isAlive
set_option maxRecDepth 20000 in
theorem ggX5_whyNoCheese_X5_isSkewed : GoodIn wsX5_whyNoCheese wsX5_isSkewed := goodIn_r _ [26, 2, 5, 7, 8, 9, 10, 11, 12, 13, 14, 15, 27, 28, 29, 25, 30, 4, 31, 32, 33, 34, 35, 36, 37, 38, 39, 40, 41, 58, 59, 60, 61, 62, 63, 64, 65, 66, 67, 68, 69, 70, 71, 72, 73, 74, 75, 76, 77, 78, 79, 80, 81, 82, 83, 84, 85, 86, 87, 88, 89, 90, 91] (by decide +kernel) (by decide +kernel)
set_option maxRecDepth 20000 in
theorem gX5_whyNoCheese_X5_isSkewed : GoodIn wsX5_whyNoCheese (wsV RX5 108 RX5 yX5_isSkewed wsX5_isSkewed) := goodIn_app (goodIn_of _ (by decide +kernel)) ggX5_whyNoCheese_X5_isSkewed
set_option maxRecDepth 20000 in
theorem gX5_whyNoCheese_X6_get_u83X8 : GoodIn wsX5_whyNoCheese (va_wsU RX5 83 RX8 "TicketGate$Table" ⟨"TicketGate$Users", "get", "(II)I"⟩ yX6_get wsX6_get) := goodIn_app (goodIn_of _ (by decide +kernel)) ggX5_whyNoCheese_X6_get
set_option maxRecDepth 20000 in
theorem ggX5_whyNoCheese_X9_knows : GoodIn wsX5_whyNoCheese wsX9_knows := goodIn_r _ [46, 47, 48, 49, 50, 11, 51, 14, 52, 53, 54, 10, 12, 13, 15, 68, 69, 70, 71, 72, 73, 74, 75, 76, 77, 78, 79, 80, 81, 82, 83, 84, 85, 86, 87, 88, 89, 90, 91] (by decide +kernel) (by decide +kernel)
set_option maxRecDepth 20000 in
theorem gX5_whyNoCheese_X9_knows : GoodIn wsX5_whyNoCheese (wsV RX5 119 RX9 yX9_knows wsX9_knows) := goodIn_app (goodIn_of _ (by decide +kernel)) ggX5_whyNoCheese_X9_knows
set_option maxRecDepth 20000 in
theorem gX5_whyNoCheese_X6_get_u112X3 : GoodIn wsX5_whyNoCheese (va_wsU RX5 112 RX3 "TicketGate$Table" ⟨"TicketGate$Services", "get", "(II)I"⟩ yX6_get wsX6_get) := goodIn_app (goodIn_of _ (by decide +kernel)) ggX5_whyNoCheese_X6_get
theorem dX5_whyNoCheese_0 : decode cX5_whyNoCheese 0 = .ok (.aload_n 0, 1) := by decide +kernel
theorem dX5_whyNoCheese_1 : decode cX5_whyNoCheese 1 = .ok (.getfield 53, 3) := by decide +kernel
theorem dX5_whyNoCheese_4 : decode cX5_whyNoCheese 4 = .ok (.iload_n 2, 1) := by decide +kernel
theorem dX5_whyNoCheese_5 : decode cX5_whyNoCheese 5 = .ok (.iadd, 1) := by decide +kernel
theorem dX5_whyNoCheese_6 : decode cX5_whyNoCheese 6 = .ok (.istore_n 3, 1) := by decide +kernel
theorem dX5_whyNoCheese_7 : decode cX5_whyNoCheese 7 = .ok (.aload_n 0, 1) := by decide +kernel
theorem dX5_whyNoCheese_8 : decode cX5_whyNoCheese 8 = .ok (.getfield 35, 3) := by decide +kernel
theorem dX5_whyNoCheese_11 : decode cX5_whyNoCheese 11 = .ok (.iload_n 1, 1) := by decide +kernel
theorem dX5_whyNoCheese_12 : decode cX5_whyNoCheese 12 = .ok (.iconst 2, 1) := by decide +kernel
theorem dX5_whyNoCheese_13 : decode cX5_whyNoCheese 13 = .ok (.invokevirtual 93, 3) := by decide +kernel
theorem dX5_whyNoCheese_16 : decode cX5_whyNoCheese 16 = .ok (.istore 4, 2) := by decide +kernel
theorem dX5_whyNoCheese_18 : decode cX5_whyNoCheese 18 = .ok (.aload_n 0, 1) := by decide +kernel
theorem dX5_whyNoCheese_19 : decode cX5_whyNoCheese 19 = .ok (.getfield 35, 3) := by decide +kernel
theorem dX5_whyNoCheese_22 : decode cX5_whyNoCheese 22 = .ok (.iload_n 1, 1) := by decide +kernel
theorem dX5_whyNoCheese_23 : decode cX5_whyNoCheese 23 = .ok (.iconst 4, 1) := by decide +kernel
theorem dX5_whyNoCheese_24 : decode cX5_whyNoCheese 24 = .ok (.invokevirtual 93, 3) := by decide +kernel
theorem dX5_whyNoCheese_27 : decode cX5_whyNoCheese 27 = .ok (.istore 5, 2) := by decide +kernel
theorem dX5_whyNoCheese_29 : decode cX5_whyNoCheese 29 = .ok (.aload_n 0, 1) := by decide +kernel
theorem dX5_whyNoCheese_30 : decode cX5_whyNoCheese 30 = .ok (.getfield 35, 3) := by decide +kernel
theorem dX5_whyNoCheese_33 : decode cX5_whyNoCheese 33 = .ok (.iload_n 1, 1) := by decide +kernel
theorem dX5_whyNoCheese_34 : decode cX5_whyNoCheese 34 = .ok (.iconst 1, 1) := by decide +kernel
theorem dX5_whyNoCheese_35 : decode cX5_whyNoCheese 35 = .ok (.invokevirtual 93, 3) := by decide +kernel
theorem dX5_whyNoCheese_38 : decode cX5_whyNoCheese 38 = .ok (.iconst 1, 1) := by decide +kernel
theorem dX5_whyNoCheese_39 : decode cX5_whyNoCheese 39 = .ok (.if_icmp .eq 5, 3) := by decide +kernel
theorem dX5_whyNoCheese_42 : decode cX5_whyNoCheese 42 = .ok (.iconst 1, 1) := by decide +kernel
theorem dX5_whyNoCheese_43 : decode cX5_whyNoCheese 43 = .ok (.ireturn, 1) := by decide +kernel
theorem dX5_whyNoCheese_44 : decode cX5_whyNoCheese 44 = .ok (.aload_n 0, 1) := by decide +kernel
theorem dX5_whyNoCheese_45 : decode cX5_whyNoCheese 45 = .ok (.getfield 35, 3) := by decide +kernel
theorem dX5_whyNoCheese_48 : decode cX5_whyNoCheese 48 = .ok (.iload_n 1, 1) := by decide +kernel
theorem dX5_whyNoCheese_49 : decode cX5_whyNoCheese 49 = .ok (.iload_n 3, 1) := by decide +kernel
theorem dX5_whyNoCheese_50 : decode cX5_whyNoCheese 50 = .ok (.invokevirtual 101, 3) := by decide +kernel
theorem dX5_whyNoCheese_53 : decode cX5_whyNoCheese 53 = .ok (.ifCond .ne 5, 3) := by decide +kernel
theorem dX5_whyNoCheese_56 : decode cX5_whyNoCheese 56 = .ok (.iconst 2, 1) := by decide +kernel
theorem dX5_whyNoCheese_57 : decode cX5_whyNoCheese 57 = .ok (.ireturn, 1) := by decide +kernel
theorem dX5_whyNoCheese_58 : decode cX5_whyNoCheese 58 = .ok (.aload_n 0, 1) := by decide +kernel
theorem dX5_whyNoCheese_59 : decode cX5_whyNoCheese 59 = .ok (.iload_n 1, 1) := by decide +kernel
theorem dX5_whyNoCheese_60 : decode cX5_whyNoCheese 60 = .ok (.invokevirtual 108, 3) := by decide +kernel
theorem dX5_whyNoCheese_63 : decode cX5_whyNoCheese 63 = .ok (.ifCond .eq 5, 3) := by decide +kernel
theorem dX5_whyNoCheese_66 : decode cX5_whyNoCheese 66 = .ok (.iconst 3, 1) := by decide +kernel
theorem dX5_whyNoCheese_67 : decode cX5_whyNoCheese 67 = .ok (.ireturn, 1) := by decide +kernel
theorem dX5_whyNoCheese_68 : decode cX5_whyNoCheese 68 = .ok (.aload_n 0, 1) := by decide +kernel
theorem dX5_whyNoCheese_69 : decode cX5_whyNoCheese 69 = .ok (.getfield 42, 3) := by decide +kernel
theorem dX5_whyNoCheese_72 : decode cX5_whyNoCheese 72 = .ok (.iload 4, 2) := by decide +kernel
theorem dX5_whyNoCheese_74 : decode cX5_whyNoCheese 74 = .ok (.iload 5, 2) := by decide +kernel
theorem dX5_whyNoCheese_76 : decode cX5_whyNoCheese 76 = .ok (.iload_n 3, 1) := by decide +kernel
theorem dX5_whyNoCheese_77 : decode cX5_whyNoCheese 77 = .ok (.aload_n 0, 1) := by decide +kernel
theorem dX5_whyNoCheese_78 : decode cX5_whyNoCheese 78 = .ok (.getfield 21, 3) := by decide +kernel
theorem dX5_whyNoCheese_81 : decode cX5_whyNoCheese 81 = .ok (.iload 4, 2) := by decide +kernel
theorem dX5_whyNoCheese_83 : decode cX5_whyNoCheese 83 = .ok (.iconst 3, 1) := by decide +kernel
theorem dX5_whyNoCheese_84 : decode cX5_whyNoCheese 84 = .ok (.invokevirtual 83, 3) := by decide +kernel
theorem dX5_whyNoCheese_87 : decode cX5_whyNoCheese 87 = .ok (.iadd, 1) := by decide +kernel
theorem dX5_whyNoCheese_88 : decode cX5_whyNoCheese 88 = .ok (.iload_n 3, 1) := by decide +kernel
theorem dX5_whyNoCheese_89 : decode cX5_whyNoCheese 89 = .ok (.aload_n 0, 1) := by decide +kernel
theorem dX5_whyNoCheese_90 : decode cX5_whyNoCheese 90 = .ok (.getfield 57, 3) := by decide +kernel
theorem dX5_whyNoCheese_93 : decode cX5_whyNoCheese 93 = .ok (.isub, 1) := by decide +kernel
theorem dX5_whyNoCheese_94 : decode cX5_whyNoCheese 94 = .ok (.invokevirtual 119, 3) := by decide +kernel
theorem dX5_whyNoCheese_97 : decode cX5_whyNoCheese 97 = .ok (.ifCond .eq 5, 3) := by decide +kernel
theorem dX5_whyNoCheese_100 : decode cX5_whyNoCheese 100 = .ok (.iconst 4, 1) := by decide +kernel
theorem dX5_whyNoCheese_101 : decode cX5_whyNoCheese 101 = .ok (.ireturn, 1) := by decide +kernel
theorem dX5_whyNoCheese_102 : decode cX5_whyNoCheese 102 = .ok (.aload_n 0, 1) := by decide +kernel
theorem dX5_whyNoCheese_103 : decode cX5_whyNoCheese 103 = .ok (.getfield 28, 3) := by decide +kernel
theorem dX5_whyNoCheese_106 : decode cX5_whyNoCheese 106 = .ok (.iload 5, 2) := by decide +kernel
theorem dX5_whyNoCheese_108 : decode cX5_whyNoCheese 108 = .ok (.iconst 2, 1) := by decide +kernel
theorem dX5_whyNoCheese_109 : decode cX5_whyNoCheese 109 = .ok (.invokevirtual 112, 3) := by decide +kernel
theorem dX5_whyNoCheese_112 : decode cX5_whyNoCheese 112 = .ok (.ifCond .ne 7, 3) := by decide +kernel
theorem dX5_whyNoCheese_115 : decode cX5_whyNoCheese 115 = .ok (.iconst 5, 1) := by decide +kernel
theorem dX5_whyNoCheese_116 : decode cX5_whyNoCheese 116 = .ok (.goto 4, 3) := by decide +kernel
theorem dX5_whyNoCheese_119 : decode cX5_whyNoCheese 119 = .ok (.iconst 0, 1) := by decide +kernel
theorem dX5_whyNoCheese_120 : decode cX5_whyNoCheese 120 = .ok (.ireturn, 1) := by decide +kernel
set_option maxRecDepth 20000 in
theorem ggX5_makeLogin_X6_get : GoodIn wsX5_makeLogin wsX6_get := goodIn_r _ [9, 10, 11, 12, 64, 65, 66, 67, 68, 69, 70, 71, 72, 73, 74, 75, 76, 77, 78, 79, 80, 81, 82, 83, 84, 85, 86, 87] (by decide +kernel) (by decide +kernel)
set_option maxRecDepth 20000 in
theorem gX5_makeLogin_X6_get_u83X8 : GoodIn wsX5_makeLogin (va_wsU RX5 83 RX8 "TicketGate$Table" ⟨"TicketGate$Users", "get", "(II)I"⟩ yX6_get wsX6_get) := goodIn_app (goodIn_of _ (by decide +kernel)) ggX5_makeLogin_X6_get
set_option maxRecDepth 20000 in
theorem ggX5_makeLogin_X5_makeTicket : GoodIn wsX5_makeLogin wsX5_makeTicket := goodIn_r _ [17, 3, 18, 19, 20, 21, 22, 23, 8, 24, 11, 25, 26, 27, 28, 29, 30, 10, 12, 31, 32, 33, 16, 34, 35, 54, 55, 56, 57, 58, 59, 60, 61, 62, 63, 64, 65, 66, 67, 68, 69, 70, 71, 72, 73, 74, 75, 76, 77, 78, 79, 80, 81, 82, 83, 84, 85, 86, 87] (by decide +kernel) (by decide +kernel)
set_option maxRecDepth 20000 in
theorem gX5_makeLogin_X5_makeTicket : GoodIn wsX5_makeLogin (wsV RX5 123 RX5 yX5_makeTicket wsX5_makeTicket) := goodIn_app (goodIn_of _ (by decide +kernel)) ggX5_makeLogin_X5_makeTicket
set_option maxRecDepth 20000 in
theorem ggX5_makeLogin_X5_setLife : GoodIn wsX5_makeLogin wsX5_setLife := goodIn_r _ [39, 3, 19, 40, 41, 42, 43, 44, 45, 46, 47, 48, 49, 50, 7, 8, 9, 10, 11, 12, 51, 52, 53, 26, 27, 28, 29, 30, 54, 55, 56, 57, 58, 59, 60, 61, 62, 63, 64, 65, 66, 67, 68, 69, 70, 71, 72, 73, 74, 75, 76, 77, 78, 79, 80, 81, 82, 83, 84, 85, 86, 87] (by decide +kernel) (by decide +kernel)
set_option maxRecDepth 20000 in
theorem gX5_makeLogin_X5_setLife : GoodIn wsX5_makeLogin (wsV RX5 128 RX5 yX5_setLife wsX5_setLife) := goodIn_app (goodIn_of _ (by decide +kernel)) ggX5_makeLogin_X5_setLife
set_option maxRecDepth 20000 in
theorem gX5_makeLogin_X6_get_u93X7 : GoodIn wsX5_makeLogin (va_wsU RX5 93 RX7 "TicketGate$Table" ⟨"TicketGate$Tickets", "get", "(II)I"⟩ yX6_get wsX6_get) := goodIn_app (goodIn_of _ (by decide +kernel)) ggX5_makeLogin_X6_get
theorem dX5_makeLogin_0 : decode cX5_makeLogin 0 = .ok (.aload_n 0, 1) := by decide +kernel
theorem dX5_makeLogin_1 : decode cX5_makeLogin 1 = .ok (.iload_n 1, 1) := by decide +kernel
theorem dX5_makeLogin_2 : decode cX5_makeLogin 2 = .ok (.aload_n 0, 1) := by decide +kernel
theorem dX5_makeLogin_3 : decode cX5_makeLogin 3 = .ok (.getfield 21, 3) := by decide +kernel
theorem dX5_makeLogin_6 : decode cX5_makeLogin 6 = .ok (.iload_n 1, 1) := by decide +kernel
theorem dX5_makeLogin_7 : decode cX5_makeLogin 7 = .ok (.iconst 1, 1) := by decide +kernel
theorem dX5_makeLogin_8 : decode cX5_makeLogin 8 = .ok (.invokevirtual 83, 3) := by decide +kernel
theorem dX5_makeLogin_11 : decode cX5_makeLogin 11 = .ok (.iconst (-1), 1) := by decide +kernel
theorem dX5_makeLogin_12 : decode cX5_makeLogin 12 = .ok (.invokevirtual 123, 3) := by decide +kernel
theorem dX5_makeLogin_15 : decode cX5_makeLogin 15 = .ok (.istore_n 3, 1) := by decide +kernel
theorem dX5_makeLogin_16 : decode cX5_makeLogin 16 = .ok (.aload_n 0, 1) := by decide +kernel
theorem dX5_makeLogin_17 : decode cX5_makeLogin 17 = .ok (.iload_n 3, 1) := by decide +kernel
theorem dX5_makeLogin_18 : decode cX5_makeLogin 18 = .ok (.iload_n 2, 1) := by decide +kernel
theorem dX5_makeLogin_19 : decode cX5_makeLogin 19 = .ok (.ldc 127, 2) := by decide +kernel
theorem dX5_makeLogin_21 : decode cX5_makeLogin 21 = .ok (.ldc 127, 2) := by decide +kernel
theorem dX5_makeLogin_23 : decode cX5_makeLogin 23 = .ok (.invokevirtual 128, 3) := by decide +kernel
theorem dX5_makeLogin_26 : decode cX5_makeLogin 26 = .ok (.aload_n 0, 1) := by decide +kernel
theorem dX5_makeLogin_27 : decode cX5_makeLogin 27 = .ok (.getfield 35, 3) := by decide +kernel
theorem dX5_makeLogin_30 : decode cX5_makeLogin 30 = .ok (.iload_n 3, 1) := by decide +kernel
theorem dX5_makeLogin_31 : decode cX5_makeLogin 31 = .ok (.iconst 0, 1) := by decide +kernel
theorem dX5_makeLogin_32 : decode cX5_makeLogin 32 = .ok (.invokevirtual 93, 3) := by decide +kernel
theorem dX5_makeLogin_35 : decode cX5_makeLogin 35 = .ok (.ireturn, 1) := by decide +kernel
set_option maxRecDepth 20000 in
theorem ggX5_makeReferral_X6_get : GoodIn wsX5_makeReferral wsX6_get := goodIn_r _ [7, 8, 9, 10, 69, 70, 71, 72, 73, 74, 75, 76, 77, 78, 79, 80, 81, 82, 83, 84, 85, 86, 87, 88, 89, 90, 91, 92] (by decide +kernel) (by decide +kernel)
set_option maxRecDepth 20000 in
theorem gX5_makeReferral_X6_get_u93X7 : GoodIn wsX5_makeReferral (va_wsU RX5 93 RX7 "TicketGate$Table" ⟨"TicketGate$Tickets", "get", "(II)I"⟩ yX6_get wsX6_get) := goodIn_app (goodIn_of _ (by decide +kernel)) ggX5_makeReferral_X6_get
set_option maxRecDepth 20000 in
theorem ggX5_makeReferral_X5_makeTicket : GoodIn wsX5_makeReferral wsX5_makeTicket := goodIn_r _ [15, 1, 16, 17, 18, 19, 20, 21, 6, 22, 9, 23, 24, 25, 26, 27, 28, 8, 10, 29, 30, 31, 14, 32, 33, 59, 60, 61, 62, 63, 64, 65, 66, 67, 68, 69, 70, 71, 72, 73, 74, 75, 76, 77, 78, 79, 80, 81, 82, 83, 84, 85, 86, 87, 88, 89, 90, 91, 92] (by decide +kernel) (by decide +kernel)
set_option maxRecDepth 20000 in
theorem gX5_makeReferral_X5_makeTicket : GoodIn wsX5_makeReferral (wsV RX5 123 RX5 yX5_makeTicket wsX5_makeTicket) := goodIn_app (goodIn_of _ (by decide +kernel)) ggX5_makeReferral_X5_makeTicket
set_option maxRecDepth 20000 in
theorem ggX5_makeReferral_X5_inheritLife : GoodIn wsX5_makeReferral wsX5_inheritLife := goodIn_r _ [37, 1, 2, 3, 4, 5, 6, 7, 8, 9, 10, 38, 39, 40, 41, 42, 43, 44, 45, 46, 14, 47, 17, 48, 49, 50, 51, 52, 53, 54, 55, 56, 57, 58, 24, 25, 26, 27, 28, 59, 60, 61, 62, 63, 64, 65, 66, 67, 68, 69, 70, 71, 72, 73, 74, 75, 76, 77, 78, 79, 80, 81, 82, 83, 84, 85, 86, 87, 88, 89, 90, 91, 92] (by decide +kernel) (by decide +kernel)
set_option maxRecDepth 20000 in
theorem gX5_makeReferral_X5_inheritLife : GoodIn wsX5_makeReferral (wsV RX5 132 RX5 yX5_inheritLife wsX5_inheritLife) := goodIn_app (goodIn_of _ (by decide +kernel)) ggX5_makeReferral_X5_inheritLife
theorem dX5_makeReferral_0 : decode cX5_makeReferral 0 = .ok (.aload_n 0, 1) := by decide +kernel
theorem dX5_makeReferral_1 : decode cX5_makeReferral 1 = .ok (.aload_n 0, 1) := by decide +kernel
theorem dX5_makeReferral_2 : decode cX5_makeReferral 2 = .ok (.getfield 35, 3) := by decide +kernel
theorem dX5_makeReferral_5 : decode cX5_makeReferral 5 = .ok (.iload_n 1, 1) := by decide +kernel
theorem dX5_makeReferral_6 : decode cX5_makeReferral 6 = .ok (.iconst 2, 1) := by decide +kernel
theorem dX5_makeReferral_7 : decode cX5_makeReferral 7 = .ok (.invokevirtual 93, 3) := by decide +kernel
theorem dX5_makeReferral_10 : decode cX5_makeReferral 10 = .ok (.iload_n 2, 1) := by decide +kernel
theorem dX5_makeReferral_11 : decode cX5_makeReferral 11 = .ok (.iconst (-1), 1) := by decide +kernel
theorem dX5_makeReferral_12 : decode cX5_makeReferral 12 = .ok (.invokevirtual 123, 3) := by decide +kernel
theorem dX5_makeReferral_15 : decode cX5_makeReferral 15 = .ok (.istore_n 3, 1) := by decide +kernel
theorem dX5_makeReferral_16 : decode cX5_makeReferral 16 = .ok (.aload_n 0, 1) := by decide +kernel
theorem dX5_makeReferral_17 : decode cX5_makeReferral 17 = .ok (.iload_n 3, 1) := by decide +kernel
theorem dX5_makeReferral_18 : decode cX5_makeReferral 18 = .ok (.iload_n 1, 1) := by decide +kernel
theorem dX5_makeReferral_19 : decode cX5_makeReferral 19 = .ok (.invokevirtual 132, 3) := by decide +kernel
theorem dX5_makeReferral_22 : decode cX5_makeReferral 22 = .ok (.aload_n 0, 1) := by decide +kernel
theorem dX5_makeReferral_23 : decode cX5_makeReferral 23 = .ok (.getfield 35, 3) := by decide +kernel
theorem dX5_makeReferral_26 : decode cX5_makeReferral 26 = .ok (.iload_n 3, 1) := by decide +kernel
theorem dX5_makeReferral_27 : decode cX5_makeReferral 27 = .ok (.iconst 0, 1) := by decide +kernel
theorem dX5_makeReferral_28 : decode cX5_makeReferral 28 = .ok (.invokevirtual 93, 3) := by decide +kernel
theorem dX5_makeReferral_31 : decode cX5_makeReferral 31 = .ok (.ireturn, 1) := by decide +kernel
set_option maxRecDepth 20000 in
theorem ggX5_makeRequest_X6_get : GoodIn wsX5_makeRequest wsX6_get := goodIn_r _ [7, 8, 9, 10, 69, 70, 71, 72, 73, 74, 75, 76, 77, 78, 79, 80, 81, 82, 83, 84, 85, 86, 87, 88, 89, 90, 91, 92] (by decide +kernel) (by decide +kernel)
set_option maxRecDepth 20000 in
theorem gX5_makeRequest_X6_get_u93X7 : GoodIn wsX5_makeRequest (va_wsU RX5 93 RX7 "TicketGate$Table" ⟨"TicketGate$Tickets", "get", "(II)I"⟩ yX6_get wsX6_get) := goodIn_app (goodIn_of _ (by decide +kernel)) ggX5_makeRequest_X6_get
set_option maxRecDepth 20000 in
theorem ggX5_makeRequest_X5_makeTicket : GoodIn wsX5_makeRequest wsX5_makeTicket := goodIn_r _ [15, 1, 16, 17, 18, 19, 20, 21, 6, 22, 9, 23, 24, 25, 26, 27, 28, 8, 10, 29, 30, 31, 14, 32, 33, 59, 60, 61, 62, 63, 64, 65, 66, 67, 68, 69, 70, 71, 72, 73, 74, 75, 76, 77, 78, 79, 80, 81, 82, 83, 84, 85, 86, 87, 88, 89, 90, 91, 92] (by decide +kernel) (by decide +kernel)
set_option maxRecDepth 20000 in
theorem gX5_makeRequest_X5_makeTicket : GoodIn wsX5_makeRequest (wsV RX5 123 RX5 yX5_makeTicket wsX5_makeTicket) := goodIn_app (goodIn_of _ (by decide +kernel)) ggX5_makeRequest_X5_makeTicket
set_option maxRecDepth 20000 in
theorem ggX5_makeRequest_X5_inheritLife : GoodIn wsX5_makeRequest wsX5_inheritLife := goodIn_r _ [37, 1, 2, 3, 4, 5, 6, 7, 8, 9, 10, 38, 39, 40, 41, 42, 43, 44, 45, 46, 14, 47, 17, 48, 49, 50, 51, 52, 53, 54, 55, 56, 57, 58, 24, 25, 26, 27, 28, 59, 60, 61, 62, 63, 64, 65, 66, 67, 68, 69, 70, 71, 72, 73, 74, 75, 76, 77, 78, 79, 80, 81, 82, 83, 84, 85, 86, 87, 88, 89, 90, 91, 92] (by decide +kernel) (by decide +kernel)
set_option maxRecDepth 20000 in
theorem gX5_makeRequest_X5_inheritLife : GoodIn wsX5_makeRequest (wsV RX5 132 RX5 yX5_inheritLife wsX5_inheritLife) := goodIn_app (goodIn_of _ (by decide +kernel)) ggX5_makeRequest_X5_inheritLife
theorem dX5_makeRequest_0 : decode cX5_makeRequest 0 = .ok (.aload_n 0, 1) := by decide +kernel
theorem dX5_makeRequest_1 : decode cX5_makeRequest 1 = .ok (.getfield 35, 3) := by decide +kernel
theorem dX5_makeRequest_4 : decode cX5_makeRequest 4 = .ok (.iload_n 1, 1) := by decide +kernel
theorem dX5_makeRequest_5 : decode cX5_makeRequest 5 = .ok (.iconst 3, 1) := by decide +kernel
theorem dX5_makeRequest_6 : decode cX5_makeRequest 6 = .ok (.invokevirtual 93, 3) := by decide +kernel
theorem dX5_makeRequest_9 : decode cX5_makeRequest 9 = .ok (.istore_n 3, 1) := by decide +kernel
theorem dX5_makeRequest_10 : decode cX5_makeRequest 10 = .ok (.aload_n 0, 1) := by decide +kernel
theorem dX5_makeRequest_11 : decode cX5_makeRequest 11 = .ok (.aload_n 0, 1) := by decide +kernel
theorem dX5_makeRequest_12 : decode cX5_makeRequest 12 = .ok (.getfield 35, 3) := by decide +kernel
theorem dX5_makeRequest_15 : decode cX5_makeRequest 15 = .ok (.iload_n 1, 1) := by decide +kernel
theorem dX5_makeRequest_16 : decode cX5_makeRequest 16 = .ok (.iconst 2, 1) := by decide +kernel
theorem dX5_makeRequest_17 : decode cX5_makeRequest 17 = .ok (.invokevirtual 93, 3) := by decide +kernel
theorem dX5_makeRequest_20 : decode cX5_makeRequest 20 = .ok (.iload_n 3, 1) := by decide +kernel
theorem dX5_makeRequest_21 : decode cX5_makeRequest 21 = .ok (.iload_n 2, 1) := by decide +kernel
theorem dX5_makeRequest_22 : decode cX5_makeRequest 22 = .ok (.invokevirtual 123, 3) := by decide +kernel
theorem dX5_makeRequest_25 : decode cX5_makeRequest 25 = .ok (.istore 4, 2) := by decide +kernel
theorem dX5_makeRequest_27 : decode cX5_makeRequest 27 = .ok (.aload_n 0, 1) := by decide +kernel
theorem dX5_makeRequest_28 : decode cX5_makeRequest 28 = .ok (.iload 4, 2) := by decide +kernel
theorem dX5_makeRequest_30 : decode cX5_makeRequest 30 = .ok (.iload_n 1, 1) := by decide +kernel
theorem dX5_makeRequest_31 : decode cX5_makeRequest 31 = .ok (.invokevirtual 132, 3) := by decide +kernel
theorem dX5_makeRequest_34 : decode cX5_makeRequest 34 = .ok (.aload_n 0, 1) := by decide +kernel
theorem dX5_makeRequest_35 : decode cX5_makeRequest 35 = .ok (.getfield 35, 3) := by decide +kernel
theorem dX5_makeRequest_38 : decode cX5_makeRequest 38 = .ok (.iload 4, 2) := by decide +kernel
theorem dX5_makeRequest_40 : decode cX5_makeRequest 40 = .ok (.iconst 0, 1) := by decide +kernel
theorem dX5_makeRequest_41 : decode cX5_makeRequest 41 = .ok (.invokevirtual 93, 3) := by decide +kernel
theorem dX5_makeRequest_44 : decode cX5_makeRequest 44 = .ok (.ireturn, 1) := by decide +kernel
set_option maxRecDepth 20000 in
theorem ggX5_makeRenewal_X5_renewedEnd : GoodIn wsX5_makeRenewal wsX5_renewedEnd := goodIn_r _ [6, 1, 7, 8, 9, 10, 11, 12, 13, 14, 15, 16, 17, 18, 19, 20, 21, 22, 23, 24, 35, 36, 37, 38, 39, 40, 41, 42, 43, 44, 45, 46, 47, 48, 49, 50, 51, 52, 53, 54, 55, 56, 57, 58, 59, 60, 61, 62, 63, 64, 65, 66, 67, 68] (by decide +kernel) (by decide +kernel)
set_option maxRecDepth 20000 in
theorem gX5_makeRenewal_X5_renewedEnd : GoodIn wsX5_makeRenewal (wsV RX5 116 RX5 yX5_renewedEnd wsX5_renewedEnd) := goodIn_app (goodIn_of _ (by decide +kernel)) ggX5_makeRenewal_X5_renewedEnd
set_option maxRecDepth 20000 in
theorem ggX5_makeRenewal_X6_set : GoodIn wsX5_makeRenewal wsX6_set := goodIn_r _ [29, 19, 20, 21, 45, 46, 47, 48, 49, 50, 51, 52, 53, 54, 55, 56, 57, 58, 59, 60, 61, 62, 63, 64, 65, 66, 67, 68] (by decide +kernel) (by decide +kernel)
set_option maxRecDepth 20000 in
theorem gX5_makeRenewal_X6_set_u136X7 : GoodIn wsX5_makeRenewal (va_wsU RX5 136 RX7 "TicketGate$Table" ⟨"TicketGate$Tickets", "set", "(III)V"⟩ yX6_set wsX6_set) := goodIn_app (goodIn_of _ (by decide +kernel)) ggX5_makeRenewal_X6_set
set_option maxRecDepth 20000 in
theorem ggX5_makeRenewal_X5_drawKey : GoodIn wsX5_makeRenewal wsX5_drawKey := goodIn_r _ [33, 34, 35, 36, 37, 38, 39, 40, 41, 42, 43, 44] (by decide +kernel) (by decide +kernel)
set_option maxRecDepth 20000 in
theorem gX5_makeRenewal_X5_drawKey : GoodIn wsX5_makeRenewal (wsV RX5 140 RX5 yX5_drawKey wsX5_drawKey) := goodIn_app (goodIn_of _ (by decide +kernel)) ggX5_makeRenewal_X5_drawKey
theorem dX5_makeRenewal_0 : decode cX5_makeRenewal 0 = .ok (.aload_n 0, 1) := by decide +kernel
theorem dX5_makeRenewal_1 : decode cX5_makeRenewal 1 = .ok (.iload_n 1, 1) := by decide +kernel
theorem dX5_makeRenewal_2 : decode cX5_makeRenewal 2 = .ok (.invokevirtual 116, 3) := by decide +kernel
theorem dX5_makeRenewal_5 : decode cX5_makeRenewal 5 = .ok (.istore_n 2, 1) := by decide +kernel
theorem dX5_makeRenewal_6 : decode cX5_makeRenewal 6 = .ok (.aload_n 0, 1) := by decide +kernel
theorem dX5_makeRenewal_7 : decode cX5_makeRenewal 7 = .ok (.getfield 35, 3) := by decide +kernel
theorem dX5_makeRenewal_10 : decode cX5_makeRenewal 10 = .ok (.iload_n 1, 1) := by decide +kernel
theorem dX5_makeRenewal_11 : decode cX5_makeRenewal 11 = .ok (.bipush 6, 2) := by decide +kernel
theorem dX5_makeRenewal_13 : decode cX5_makeRenewal 13 = .ok (.iload_n 2, 1) := by decide +kernel
theorem dX5_makeRenewal_14 : decode cX5_makeRenewal 14 = .ok (.invokevirtual 136, 3) := by decide +kernel
theorem dX5_makeRenewal_17 : decode cX5_makeRenewal 17 = .ok (.aload_n 0, 1) := by decide +kernel
theorem dX5_makeRenewal_18 : decode cX5_makeRenewal 18 = .ok (.getfield 35, 3) := by decide +kernel
theorem dX5_makeRenewal_21 : decode cX5_makeRenewal 21 = .ok (.iload_n 1, 1) := by decide +kernel
theorem dX5_makeRenewal_22 : decode cX5_makeRenewal 22 = .ok (.bipush 8, 2) := by decide +kernel
theorem dX5_makeRenewal_24 : decode cX5_makeRenewal 24 = .ok (.aload_n 0, 1) := by decide +kernel
theorem dX5_makeRenewal_25 : decode cX5_makeRenewal 25 = .ok (.invokevirtual 140, 3) := by decide +kernel
theorem dX5_makeRenewal_28 : decode cX5_makeRenewal 28 = .ok (.invokevirtual 136, 3) := by decide +kernel
theorem dX5_makeRenewal_31 : decode cX5_makeRenewal 31 = .ok (.iload_n 2, 1) := by decide +kernel
theorem dX5_makeRenewal_32 : decode cX5_makeRenewal 32 = .ok (.ireturn, 1) := by decide +kernel
set_option maxRecDepth 20000 in
theorem ggX5_giveCheese_X6_get : GoodIn wsX5_giveCheese wsX6_get := goodIn_r _ [11, 12, 13, 14, 63, 64, 65, 66, 67, 68, 69, 70, 71, 72, 73, 74, 75, 76, 77, 78, 79, 80, 81, 82, 83, 84, 85, 86] (by decide +kernel) (by decide +kernel)
set_option maxRecDepth 20000 in
theorem gX5_giveCheese_X6_get_u93X7 : GoodIn wsX5_giveCheese (va_wsU RX5 93 RX7 "TicketGate$Table" ⟨"TicketGate$Tickets", "get", "(II)I"⟩ yX6_get wsX6_get) := goodIn_app (goodIn_of _ (by decide +kernel)) ggX5_giveCheese_X6_get
set_option maxRecDepth 20000 in
theorem gX5_giveCheese_X6_get_u83X8 : GoodIn wsX5_giveCheese (va_wsU RX5 83 RX8 "TicketGate$Table" ⟨"TicketGate$Users", "get", "(II)I"⟩ yX6_get wsX6_get) := goodIn_app (goodIn_of _ (by decide +kernel)) ggX5_giveCheese_X6_get
set_option maxRecDepth 20000 in
theorem ggX5_giveCheese_X9_addUse : GoodIn wsX5_giveCheese wsX9_addUse := goodIn_r _ [22, 23, 24, 25, 26, 10, 27, 13, 28, 29, 30, 31, 32, 33, 12, 14, 34, 35, 36, 37, 38, 39, 40, 41, 42, 43, 63, 64, 65, 66, 67, 68, 69, 70, 71, 72, 73, 74, 75, 76, 77, 78, 79, 80, 81, 82, 83, 84, 85, 86] (by decide +kernel) (by decide +kernel)
set_option maxRecDepth 20000 in
theorem gX5_giveCheese_X9_addUse : GoodIn wsX5_giveCheese (wsV RX5 144 RX9 yX9_addUse wsX9_addUse) := goodIn_app (goodIn_of _ (by decide +kernel)) ggX5_giveCheese_X9_addUse
set_option maxRecDepth 20000 in
theorem gX5_giveCheese_X6_get_u112X3 : GoodIn wsX5_giveCheese (va_wsU RX5 112 RX3 "TicketGate$Table" ⟨"TicketGate$Services", "get", "(II)I"⟩ yX6_get wsX6_get) := goodIn_app (goodIn_of _ (by decide +kernel)) ggX5_giveCheese_X6_get
set_option maxRecDepth 20000 in
theorem ggX5_giveCheese_X6_set : GoodIn wsX5_giveCheese wsX6_set := goodIn_r _ [43, 12, 13, 14, 63, 64, 65, 66, 67, 68, 69, 70, 71, 72, 73, 74, 75, 76, 77, 78, 79, 80, 81, 82, 83, 84, 85, 86] (by decide +kernel) (by decide +kernel)
set_option maxRecDepth 20000 in
theorem gX5_giveCheese_X6_set_u148X3 : GoodIn wsX5_giveCheese (va_wsU RX5 148 RX3 "TicketGate$Table" ⟨"TicketGate$Services", "set", "(III)V"⟩ yX6_set wsX6_set) := goodIn_app (goodIn_of _ (by decide +kernel)) ggX5_giveCheese_X6_set
set_option maxRecDepth 20000 in
theorem gX5_giveCheese_X6_set_u149X8 : GoodIn wsX5_giveCheese (va_wsU RX5 149 RX8 "TicketGate$Table" ⟨"TicketGate$Users", "set", "(III)V"⟩ yX6_set wsX6_set) := goodIn_app (goodIn_of _ (by decide +kernel)) ggX5_giveCheese_X6_set
theorem dX5_giveCheese_0 : decode cX5_giveCheese 0 = .ok (.aload_n 0, 1) := by decide +kernel
theorem dX5_giveCheese_1 : decode cX5_giveCheese 1 = .ok (.getfield 35, 3) := by decide +kernel
theorem dX5_giveCheese_4 : decode cX5_giveCheese 4 = .ok (.iload_n 1, 1) := by decide +kernel
theorem dX5_giveCheese_5 : decode cX5_giveCheese 5 = .ok (.iconst 2, 1) := by decide +kernel
theorem dX5_giveCheese_6 : decode cX5_giveCheese 6 = .ok (.invokevirtual 93, 3) := by decide +kernel
theorem dX5_giveCheese_9 : decode cX5_giveCheese 9 = .ok (.istore_n 2, 1) := by decide +kernel
theorem dX5_giveCheese_10 : decode cX5_giveCheese 10 = .ok (.aload_n 0, 1) := by decide +kernel
theorem dX5_giveCheese_11 : decode cX5_giveCheese 11 = .ok (.getfield 35, 3) := by decide +kernel
theorem dX5_giveCheese_14 : decode cX5_giveCheese 14 = .ok (.iload_n 1, 1) := by decide +kernel
theorem dX5_giveCheese_15 : decode cX5_giveCheese 15 = .ok (.iconst 4, 1) := by decide +kernel
theorem dX5_giveCheese_16 : decode cX5_giveCheese 16 = .ok (.invokevirtual 93, 3) := by decide +kernel
theorem dX5_giveCheese_19 : decode cX5_giveCheese 19 = .ok (.istore_n 3, 1) := by decide +kernel
theorem dX5_giveCheese_20 : decode cX5_giveCheese 20 = .ok (.aload_n 0, 1) := by decide +kernel
theorem dX5_giveCheese_21 : decode cX5_giveCheese 21 = .ok (.getfield 21, 3) := by decide +kernel
theorem dX5_giveCheese_24 : decode cX5_giveCheese 24 = .ok (.iload_n 2, 1) := by decide +kernel
theorem dX5_giveCheese_25 : decode cX5_giveCheese 25 = .ok (.iconst 4, 1) := by decide +kernel
theorem dX5_giveCheese_26 : decode cX5_giveCheese 26 = .ok (.invokevirtual 83, 3) := by decide +kernel
theorem dX5_giveCheese_29 : decode cX5_giveCheese 29 = .ok (.iconst 1, 1) := by decide +kernel
theorem dX5_giveCheese_30 : decode cX5_giveCheese 30 = .ok (.iadd, 1) := by decide +kernel
theorem dX5_giveCheese_31 : decode cX5_giveCheese 31 = .ok (.istore 4, 2) := by decide +kernel
theorem dX5_giveCheese_33 : decode cX5_giveCheese 33 = .ok (.aload_n 0, 1) := by decide +kernel
theorem dX5_giveCheese_34 : decode cX5_giveCheese 34 = .ok (.getfield 42, 3) := by decide +kernel
theorem dX5_giveCheese_37 : decode cX5_giveCheese 37 = .ok (.iload_n 2, 1) := by decide +kernel
theorem dX5_giveCheese_38 : decode cX5_giveCheese 38 = .ok (.iload_n 3, 1) := by decide +kernel
theorem dX5_giveCheese_39 : decode cX5_giveCheese 39 = .ok (.aload_n 0, 1) := by decide +kernel
theorem dX5_giveCheese_40 : decode cX5_giveCheese 40 = .ok (.getfield 53, 3) := by decide +kernel
theorem dX5_giveCheese_43 : decode cX5_giveCheese 43 = .ok (.aload_n 0, 1) := by decide +kernel
theorem dX5_giveCheese_44 : decode cX5_giveCheese 44 = .ok (.getfield 21, 3) := by decide +kernel
theorem dX5_giveCheese_47 : decode cX5_giveCheese 47 = .ok (.iload_n 2, 1) := by decide +kernel
theorem dX5_giveCheese_48 : decode cX5_giveCheese 48 = .ok (.iconst 3, 1) := by decide +kernel
theorem dX5_giveCheese_49 : decode cX5_giveCheese 49 = .ok (.invokevirtual 83, 3) := by decide +kernel
theorem dX5_giveCheese_52 : decode cX5_giveCheese 52 = .ok (.iadd, 1) := by decide +kernel
theorem dX5_giveCheese_53 : decode cX5_giveCheese 53 = .ok (.aload_n 0, 1) := by decide +kernel
theorem dX5_giveCheese_54 : decode cX5_giveCheese 54 = .ok (.getfield 53, 3) := by decide +kernel
theorem dX5_giveCheese_57 : decode cX5_giveCheese 57 = .ok (.invokevirtual 144, 3) := by decide +kernel
theorem dX5_giveCheese_60 : decode cX5_giveCheese 60 = .ok (.aload_n 0, 1) := by decide +kernel
theorem dX5_giveCheese_61 : decode cX5_giveCheese 61 = .ok (.getfield 28, 3) := by decide +kernel
theorem dX5_giveCheese_64 : decode cX5_giveCheese 64 = .ok (.iload_n 3, 1) := by decide +kernel
theorem dX5_giveCheese_65 : decode cX5_giveCheese 65 = .ok (.iconst 2, 1) := by decide +kernel
theorem dX5_giveCheese_66 : decode cX5_giveCheese 66 = .ok (.aload_n 0, 1) := by decide +kernel
theorem dX5_giveCheese_67 : decode cX5_giveCheese 67 = .ok (.getfield 28, 3) := by decide +kernel
theorem dX5_giveCheese_70 : decode cX5_giveCheese 70 = .ok (.iload_n 3, 1) := by decide +kernel
theorem dX5_giveCheese_71 : decode cX5_giveCheese 71 = .ok (.iconst 2, 1) := by decide +kernel
theorem dX5_giveCheese_72 : decode cX5_giveCheese 72 = .ok (.invokevirtual 112, 3) := by decide +kernel
theorem dX5_giveCheese_75 : decode cX5_giveCheese 75 = .ok (.iconst 1, 1) := by decide +kernel
theorem dX5_giveCheese_76 : decode cX5_giveCheese 76 = .ok (.isub, 1) := by decide +kernel
theorem dX5_giveCheese_77 : decode cX5_giveCheese 77 = .ok (.invokevirtual 148, 3) := by decide +kernel
theorem dX5_giveCheese_80 : decode cX5_giveCheese 80 = .ok (.aload_n 0, 1) := by decide +kernel
theorem dX5_giveCheese_81 : decode cX5_giveCheese 81 = .ok (.getfield 21, 3) := by decide +kernel
theorem dX5_giveCheese_84 : decode cX5_giveCheese 84 = .ok (.iload_n 2, 1) := by decide +kernel
theorem dX5_giveCheese_85 : decode cX5_giveCheese 85 = .ok (.iconst 4, 1) := by decide +kernel
theorem dX5_giveCheese_86 : decode cX5_giveCheese 86 = .ok (.iload 4, 2) := by decide +kernel
theorem dX5_giveCheese_88 : decode cX5_giveCheese 88 = .ok (.invokevirtual 149, 3) := by decide +kernel
theorem dX5_giveCheese_91 : decode cX5_giveCheese 91 = .ok (.iload 4, 2) := by decide +kernel
theorem dX5_giveCheese_93 : decode cX5_giveCheese 93 = .ok (.ireturn, 1) := by decide +kernel
set_option maxRecDepth 20000 in
theorem ggX5_letPass_X9_forgetBefore : GoodIn wsX5_letPass wsX9_forgetBefore := goodIn_r _ [8, 9, 10, 11, 12, 13, 14, 15, 16, 17, 18, 19, 20, 21, 22, 23, 24, 25, 26, 27, 38, 39, 40, 41, 42, 43, 44, 45, 46, 47, 48, 49, 50, 51, 52, 53, 54, 55, 56, 57, 58, 59, 60, 61] (by decide +kernel) (by decide +kernel)
set_option maxRecDepth 20000 in
theorem gX5_letPass_X9_forgetBefore : GoodIn wsX5_letPass (wsV RX5 150 RX9 yX9_forgetBefore wsX9_forgetBefore) := goodIn_app (goodIn_of _ (by decide +kernel)) ggX5_letPass_X9_forgetBefore
theorem dX5_letPass_0 : decode cX5_letPass 0 = .ok (.aload_n 0, 1) := by decide +kernel
theorem dX5_letPass_1 : decode cX5_letPass 1 = .ok (.dup, 1) := by decide +kernel
theorem dX5_letPass_2 : decode cX5_letPass 2 = .ok (.getfield 53, 3) := by decide +kernel
theorem dX5_letPass_5 : decode cX5_letPass 5 = .ok (.iload_n 1, 1) := by decide +kernel
theorem dX5_letPass_6 : decode cX5_letPass 6 = .ok (.iadd, 1) := by decide +kernel
theorem dX5_letPass_7 : decode cX5_letPass 7 = .ok (.putfield 53, 3) := by decide +kernel
theorem dX5_letPass_10 : decode cX5_letPass 10 = .ok (.aload_n 0, 1) := by decide +kernel
theorem dX5_letPass_11 : decode cX5_letPass 11 = .ok (.getfield 42, 3) := by decide +kernel
theorem dX5_letPass_14 : decode cX5_letPass 14 = .ok (.aload_n 0, 1) := by decide +kernel
theorem dX5_letPass_15 : decode cX5_letPass 15 = .ok (.getfield 53, 3) := by decide +kernel
theorem dX5_letPass_18 : decode cX5_letPass 18 = .ok (.aload_n 0, 1) := by decide +kernel
theorem dX5_letPass_19 : decode cX5_letPass 19 = .ok (.getfield 57, 3) := by decide +kernel
theorem dX5_letPass_22 : decode cX5_letPass 22 = .ok (.isub, 1) := by decide +kernel
theorem dX5_letPass_23 : decode cX5_letPass 23 = .ok (.invokevirtual 150, 3) := by decide +kernel
theorem dX5_letPass_26 : decode cX5_letPass 26 = .ok (.return_, 1) := by decide +kernel
set_option maxRecDepth 20000 in
theorem ggX5_renewedEnd_X6_get : GoodIn wsX5_renewedEnd wsX6_get := goodIn_r _ [13, 14, 15, 16, 30, 31, 32, 33, 34, 35, 36, 37, 38, 39, 40, 41, 42, 43, 44, 45, 46, 47, 48, 49, 50, 51, 52, 53] (by decide +kernel) (by decide +kernel)
set_option maxRecDepth 20000 in
theorem gX5_renewedEnd_X6_get_u93X7 : GoodIn wsX5_renewedEnd (va_wsU RX5 93 RX7 "TicketGate$Table" ⟨"TicketGate$Tickets", "get", "(II)I"⟩ yX6_get wsX6_get) := goodIn_app (goodIn_of _ (by decide +kernel)) ggX5_renewedEnd_X6_get
set_option maxRecDepth 20000 in
theorem gX5_renewedEnd_X6_get_u86X2 : GoodIn wsX5_renewedEnd (va_wsU RX5 86 RX2 "TicketGate$Table" ⟨"TicketGate$Realms", "get", "(II)I"⟩ yX6_get wsX6_get) := goodIn_app (goodIn_of _ (by decide +kernel)) ggX5_renewedEnd_X6_get
theorem dX5_renewedEnd_0 : decode cX5_renewedEnd 0 = .ok (.aload_n 0, 1) := by decide +kernel
theorem dX5_renewedEnd_1 : decode cX5_renewedEnd 1 = .ok (.getfield 35, 3) := by decide +kernel
theorem dX5_renewedEnd_4 : decode cX5_renewedEnd 4 = .ok (.iload_n 1, 1) := by decide +kernel
theorem dX5_renewedEnd_5 : decode cX5_renewedEnd 5 = .ok (.iconst 3, 1) := by decide +kernel
theorem dX5_renewedEnd_6 : decode cX5_renewedEnd 6 = .ok (.invokevirtual 93, 3) := by decide +kernel
theorem dX5_renewedEnd_9 : decode cX5_renewedEnd 9 = .ok (.istore_n 2, 1) := by decide +kernel
theorem dX5_renewedEnd_10 : decode cX5_renewedEnd 10 = .ok (.aload_n 0, 1) := by decide +kernel
theorem dX5_renewedEnd_11 : decode cX5_renewedEnd 11 = .ok (.getfield 53, 3) := by decide +kernel
theorem dX5_renewedEnd_14 : decode cX5_renewedEnd 14 = .ok (.aload_n 0, 1) := by decide +kernel
theorem dX5_renewedEnd_15 : decode cX5_renewedEnd 15 = .ok (.getfield 12, 3) := by decide +kernel
theorem dX5_renewedEnd_18 : decode cX5_renewedEnd 18 = .ok (.iload_n 2, 1) := by decide +kernel
theorem dX5_renewedEnd_19 : decode cX5_renewedEnd 19 = .ok (.iconst 1, 1) := by decide +kernel
theorem dX5_renewedEnd_20 : decode cX5_renewedEnd 20 = .ok (.invokevirtual 86, 3) := by decide +kernel
theorem dX5_renewedEnd_23 : decode cX5_renewedEnd 23 = .ok (.iadd, 1) := by decide +kernel
theorem dX5_renewedEnd_24 : decode cX5_renewedEnd 24 = .ok (.istore_n 3, 1) := by decide +kernel
theorem dX5_renewedEnd_25 : decode cX5_renewedEnd 25 = .ok (.iload_n 3, 1) := by decide +kernel
theorem dX5_renewedEnd_26 : decode cX5_renewedEnd 26 = .ok (.aload_n 0, 1) := by decide +kernel
theorem dX5_renewedEnd_27 : decode cX5_renewedEnd 27 = .ok (.getfield 35, 3) := by decide +kernel
theorem dX5_renewedEnd_30 : decode cX5_renewedEnd 30 = .ok (.iload_n 1, 1) := by decide +kernel
theorem dX5_renewedEnd_31 : decode cX5_renewedEnd 31 = .ok (.bipush 7, 2) := by decide +kernel
theorem dX5_renewedEnd_33 : decode cX5_renewedEnd 33 = .ok (.invokevirtual 93, 3) := by decide +kernel
theorem dX5_renewedEnd_36 : decode cX5_renewedEnd 36 = .ok (.invokestatic 154, 3) := by decide +kernel
theorem dX5_renewedEnd_39 : decode cX5_renewedEnd 39 = .ok (.ireturn, 1) := by decide +kernel
theorem dX5_drawKey_0 : decode cX5_drawKey 0 = .ok (.aload_n 0, 1) := by decide +kernel
theorem dX5_drawKey_1 : decode cX5_drawKey 1 = .ok (.bipush 21, 2) := by decide +kernel
theorem dX5_drawKey_3 : decode cX5_drawKey 3 = .ok (.aload_n 0, 1) := by decide +kernel
theorem dX5_drawKey_4 : decode cX5_drawKey 4 = .ok (.getfield 60, 3) := by decide +kernel
theorem dX5_drawKey_7 : decode cX5_drawKey 7 = .ok (.imul, 1) := by decide +kernel
theorem dX5_drawKey_8 : decode cX5_drawKey 8 = .ok (.bipush 7, 2) := by decide +kernel
theorem dX5_drawKey_10 : decode cX5_drawKey 10 = .ok (.iadd, 1) := by decide +kernel
theorem dX5_drawKey_11 : decode cX5_drawKey 11 = .ok (.sipush 1024, 3) := by decide +kernel
theorem dX5_drawKey_14 : decode cX5_drawKey 14 = .ok (.irem, 1) := by decide +kernel
theorem dX5_drawKey_15 : decode cX5_drawKey 15 = .ok (.putfield 60, 3) := by decide +kernel
theorem dX5_drawKey_18 : decode cX5_drawKey 18 = .ok (.aload_n 0, 1) := by decide +kernel
theorem dX5_drawKey_19 : decode cX5_drawKey 19 = .ok (.getfield 60, 3) := by decide +kernel
theorem dX5_drawKey_22 : decode cX5_drawKey 22 = .ok (.ireturn, 1) := by decide +kernel
set_option maxRecDepth 20000 in
theorem ggX5_makeTicket_X6_addRow : GoodIn wsX5_makeTicket wsX6_addRow := goodIn_r _ [9, 10, 11, 35, 36, 37, 38, 39, 40, 41, 42, 43, 44, 45, 46, 47, 48, 49, 50, 51, 52, 53, 54, 55, 56, 57, 58] (by decide +kernel) (by decide +kernel)
set_option maxRecDepth 20000 in
theorem gX5_makeTicket_X6_addRow_u157X7 : GoodIn wsX5_makeTicket (va_wsU RX5 157 RX7 "TicketGate$Table" ⟨"TicketGate$Tickets", "addRow", "()I"⟩ yX6_addRow wsX6_addRow) := goodIn_app (goodIn_of _ (by decide +kernel)) ggX5_makeTicket_X6_addRow
set_option maxRecDepth 20000 in
theorem ggX5_makeTicket_X6_set : GoodIn wsX5_makeTicket wsX6_set := goodIn_r _ [16, 17, 10, 18, 35, 36, 37, 38, 39, 40, 41, 42, 43, 44, 45, 46, 47, 48, 49, 50, 51, 52, 53, 54, 55, 56, 57, 58] (by decide +kernel) (by decide +kernel)
set_option maxRecDepth 20000 in
theorem gX5_makeTicket_X6_set_u136X7 : GoodIn wsX5_makeTicket (va_wsU RX5 136 RX7 "TicketGate$Table" ⟨"TicketGate$Tickets", "set", "(III)V"⟩ yX6_set wsX6_set) := goodIn_app (goodIn_of _ (by decide +kernel)) ggX5_makeTicket_X6_set
set_option maxRecDepth 20000 in
theorem ggX5_makeTicket_X5_drawKey : GoodIn wsX5_makeTicket wsX5_drawKey := goodIn_r _ [23, 24, 25, 26, 27, 28, 29, 30, 31, 32, 33, 34] (by decide +kernel) (by decide +kernel)
set_option maxRecDepth 20000 in
theorem gX5_makeTicket_X5_drawKey : GoodIn wsX5_makeTicket (wsV RX5 140 RX5 yX5_drawKey wsX5_drawKey) := goodIn_app (goodIn_of _ (by decide +kernel)) ggX5_makeTicket_X5_drawKey
theorem dX5_makeTicket_0 : decode cX5_makeTicket 0 = .ok (.aload_n 0, 1) := by decide +kernel
theorem dX5_makeTicket_1 : decode cX5_makeTicket 1 = .ok (.getfield 35, 3) := by decide +kernel
theorem dX5_makeTicket_4 : decode cX5_makeTicket 4 = .ok (.invokevirtual 157, 3) := by decide +kernel
theorem dX5_makeTicket_7 : decode cX5_makeTicket 7 = .ok (.istore 4, 2) := by decide +kernel
theorem dX5_makeTicket_9 : decode cX5_makeTicket 9 = .ok (.aload_n 0, 1) := by decide +kernel
theorem dX5_makeTicket_10 : decode cX5_makeTicket 10 = .ok (.getfield 35, 3) := by decide +kernel
theorem dX5_makeTicket_13 : decode cX5_makeTicket 13 = .ok (.iload 4, 2) := by decide +kernel
theorem dX5_makeTicket_15 : decode cX5_makeTicket 15 = .ok (.iconst 0, 1) := by decide +kernel
theorem dX5_makeTicket_16 : decode cX5_makeTicket 16 = .ok (.aload_n 0, 1) := by decide +kernel
theorem dX5_makeTicket_17 : decode cX5_makeTicket 17 = .ok (.getfield 63, 3) := by decide +kernel
theorem dX5_makeTicket_20 : decode cX5_makeTicket 20 = .ok (.invokevirtual 136, 3) := by decide +kernel
theorem dX5_makeTicket_23 : decode cX5_makeTicket 23 = .ok (.aload_n 0, 1) := by decide +kernel
theorem dX5_makeTicket_24 : decode cX5_makeTicket 24 = .ok (.getfield 35, 3) := by decide +kernel
theorem dX5_makeTicket_27 : decode cX5_makeTicket 27 = .ok (.iload 4, 2) := by decide +kernel
theorem dX5_makeTicket_29 : decode cX5_makeTicket 29 = .ok (.iconst 1, 1) := by decide +kernel
theorem dX5_makeTicket_30 : decode cX5_makeTicket 30 = .ok (.iload_n 3, 1) := by decide +kernel
theorem dX5_makeTicket_31 : decode cX5_makeTicket 31 = .ok (.iconst (-1), 1) := by decide +kernel
theorem dX5_makeTicket_32 : decode cX5_makeTicket 32 = .ok (.if_icmp .ne 7, 3) := by decide +kernel
theorem dX5_makeTicket_35 : decode cX5_makeTicket 35 = .ok (.iconst 0, 1) := by decide +kernel
theorem dX5_makeTicket_36 : decode cX5_makeTicket 36 = .ok (.goto 4, 3) := by decide +kernel
theorem dX5_makeTicket_39 : decode cX5_makeTicket 39 = .ok (.iconst 1, 1) := by decide +kernel
theorem dX5_makeTicket_40 : decode cX5_makeTicket 40 = .ok (.invokevirtual 136, 3) := by decide +kernel
theorem dX5_makeTicket_43 : decode cX5_makeTicket 43 = .ok (.aload_n 0, 1) := by decide +kernel
theorem dX5_makeTicket_44 : decode cX5_makeTicket 44 = .ok (.getfield 35, 3) := by decide +kernel
theorem dX5_makeTicket_47 : decode cX5_makeTicket 47 = .ok (.iload 4, 2) := by decide +kernel
theorem dX5_makeTicket_49 : decode cX5_makeTicket 49 = .ok (.iconst 2, 1) := by decide +kernel
theorem dX5_makeTicket_50 : decode cX5_makeTicket 50 = .ok (.iload_n 1, 1) := by decide +kernel
theorem dX5_makeTicket_51 : decode cX5_makeTicket 51 = .ok (.invokevirtual 136, 3) := by decide +kernel
theorem dX5_makeTicket_54 : decode cX5_makeTicket 54 = .ok (.aload_n 0, 1) := by decide +kernel
theorem dX5_makeTicket_55 : decode cX5_makeTicket 55 = .ok (.getfield 35, 3) := by decide +kernel
theorem dX5_makeTicket_58 : decode cX5_makeTicket 58 = .ok (.iload 4, 2) := by decide +kernel
theorem dX5_makeTicket_60 : decode cX5_makeTicket 60 = .ok (.iconst 3, 1) := by decide +kernel
theorem dX5_makeTicket_61 : decode cX5_makeTicket 61 = .ok (.iload_n 2, 1) := by decide +kernel
theorem dX5_makeTicket_62 : decode cX5_makeTicket 62 = .ok (.invokevirtual 136, 3) := by decide +kernel
theorem dX5_makeTicket_65 : decode cX5_makeTicket 65 = .ok (.aload_n 0, 1) := by decide +kernel
theorem dX5_makeTicket_66 : decode cX5_makeTicket 66 = .ok (.getfield 35, 3) := by decide +kernel
theorem dX5_makeTicket_69 : decode cX5_makeTicket 69 = .ok (.iload 4, 2) := by decide +kernel
theorem dX5_makeTicket_71 : decode cX5_makeTicket 71 = .ok (.iconst 4, 1) := by decide +kernel
theorem dX5_makeTicket_72 : decode cX5_makeTicket 72 = .ok (.iload_n 3, 1) := by decide +kernel
theorem dX5_makeTicket_73 : decode cX5_makeTicket 73 = .ok (.invokevirtual 136, 3) := by decide +kernel
theorem dX5_makeTicket_76 : decode cX5_makeTicket 76 = .ok (.aload_n 0, 1) := by decide +kernel
theorem dX5_makeTicket_77 : decode cX5_makeTicket 77 = .ok (.getfield 35, 3) := by decide +kernel
theorem dX5_makeTicket_80 : decode cX5_makeTicket 80 = .ok (.iload 4, 2) := by decide +kernel
theorem dX5_makeTicket_82 : decode cX5_makeTicket 82 = .ok (.iconst 5, 1) := by decide +kernel
theorem dX5_makeTicket_83 : decode cX5_makeTicket 83 = .ok (.aload_n 0, 1) := by decide +kernel
theorem dX5_makeTicket_84 : decode cX5_makeTicket 84 = .ok (.getfield 53, 3) := by decide +kernel
theorem dX5_makeTicket_87 : decode cX5_makeTicket 87 = .ok (.invokevirtual 136, 3) := by decide +kernel
theorem dX5_makeTicket_90 : decode cX5_makeTicket 90 = .ok (.aload_n 0, 1) := by decide +kernel
theorem dX5_makeTicket_91 : decode cX5_makeTicket 91 = .ok (.getfield 35, 3) := by decide +kernel
theorem dX5_makeTicket_94 : decode cX5_makeTicket 94 = .ok (.iload 4, 2) := by decide +kernel
theorem dX5_makeTicket_96 : decode cX5_makeTicket 96 = .ok (.bipush 8, 2) := by decide +kernel
theorem dX5_makeTicket_98 : decode cX5_makeTicket 98 = .ok (.aload_n 0, 1) := by decide +kernel
theorem dX5_makeTicket_99 : decode cX5_makeTicket 99 = .ok (.invokevirtual 140, 3) := by decide +kernel
theorem dX5_makeTicket_102 : decode cX5_makeTicket 102 = .ok (.invokevirtual 136, 3) := by decide +kernel
theorem dX5_makeTicket_105 : decode cX5_makeTicket 105 = .ok (.aload_n 0, 1) := by decide +kernel
theorem dX5_makeTicket_106 : decode cX5_makeTicket 106 = .ok (.dup, 1) := by decide +kernel
theorem dX5_makeTicket_107 : decode cX5_makeTicket 107 = .ok (.getfield 63, 3) := by decide +kernel
theorem dX5_makeTicket_110 : decode cX5_makeTicket 110 = .ok (.iconst 1, 1) := by decide +kernel
theorem dX5_makeTicket_111 : decode cX5_makeTicket 111 = .ok (.iadd, 1) := by decide +kernel
theorem dX5_makeTicket_112 : decode cX5_makeTicket 112 = .ok (.putfield 63, 3) := by decide +kernel
theorem dX5_makeTicket_115 : decode cX5_makeTicket 115 = .ok (.iload 4, 2) := by decide +kernel
theorem dX5_makeTicket_117 : decode cX5_makeTicket 117 = .ok (.ireturn, 1) := by decide +kernel
set_option maxRecDepth 20000 in
theorem ggX5_inheritLife_X6_get : GoodIn wsX5_inheritLife wsX6_get := goodIn_r _ [7, 8, 9, 10, 49, 50, 51, 52, 53, 54, 55, 56, 57, 58, 59, 60, 61, 62, 63, 64, 65, 66, 67, 68, 69, 70, 71, 72] (by decide +kernel) (by decide +kernel)
set_option maxRecDepth 20000 in
theorem gX5_inheritLife_X6_get_u93X7 : GoodIn wsX5_inheritLife (va_wsU RX5 93 RX7 "TicketGate$Table" ⟨"TicketGate$Tickets", "get", "(II)I"⟩ yX6_get wsX6_get) := goodIn_app (goodIn_of _ (by decide +kernel)) ggX5_inheritLife_X6_get
set_option maxRecDepth 20000 in
theorem ggX5_inheritLife_X7_canBeRenewed : GoodIn wsX5_inheritLife wsX7_canBeRenewed := goodIn_r _ [15, 16, 3, 4, 5, 6, 7, 8, 9, 10, 49, 50, 51, 52, 53, 54, 55, 56, 57, 58, 59, 60, 61, 62, 63, 64, 65, 66, 67, 68, 69, 70, 71, 72] (by decide +kernel) (by decide +kernel)
set_option maxRecDepth 20000 in
theorem gX5_inheritLife_X7_canBeRenewed : GoodIn wsX5_inheritLife (wsV RX5 113 RX7 yX7_canBeRenewed wsX7_canBeRenewed) := goodIn_app (goodIn_of _ (by decide +kernel)) ggX5_inheritLife_X7_canBeRenewed
set_option maxRecDepth 20000 in
theorem ggX5_inheritLife_X5_setLife : GoodIn wsX5_inheritLife wsX5_setLife := goodIn_r _ [21, 1, 22, 23, 24, 25, 26, 27, 28, 29, 30, 2, 3, 4, 5, 6, 7, 8, 9, 10, 31, 32, 33, 34, 35, 36, 37, 38, 39, 40, 41, 42, 43, 44, 45, 46, 47, 48, 49, 50, 51, 52, 53, 54, 55, 56, 57, 58, 59, 60, 61, 62, 63, 64, 65, 66, 67, 68, 69, 70, 71, 72] (by decide +kernel) (by decide +kernel)
set_option maxRecDepth 20000 in
theorem gX5_inheritLife_X5_setLife : GoodIn wsX5_inheritLife (wsV RX5 128 RX5 yX5_setLife wsX5_setLife) := goodIn_app (goodIn_of _ (by decide +kernel)) ggX5_inheritLife_X5_setLife
theorem dX5_inheritLife_0 : decode cX5_inheritLife 0 = .ok (.aload_n 0, 1) := by decide +kernel
theorem dX5_inheritLife_1 : decode cX5_inheritLife 1 = .ok (.getfield 35, 3) := by decide +kernel
theorem dX5_inheritLife_4 : decode cX5_inheritLife 4 = .ok (.iload_n 2, 1) := by decide +kernel
theorem dX5_inheritLife_5 : decode cX5_inheritLife 5 = .ok (.bipush 6, 2) := by decide +kernel
theorem dX5_inheritLife_7 : decode cX5_inheritLife 7 = .ok (.invokevirtual 93, 3) := by decide +kernel
theorem dX5_inheritLife_10 : decode cX5_inheritLife 10 = .ok (.istore_n 3, 1) := by decide +kernel
theorem dX5_inheritLife_11 : decode cX5_inheritLife 11 = .ok (.aload_n 0, 1) := by decide +kernel
theorem dX5_inheritLife_12 : decode cX5_inheritLife 12 = .ok (.iload_n 1, 1) := by decide +kernel
theorem dX5_inheritLife_13 : decode cX5_inheritLife 13 = .ok (.aload_n 0, 1) := by decide +kernel
theorem dX5_inheritLife_14 : decode cX5_inheritLife 14 = .ok (.getfield 35, 3) := by decide +kernel
theorem dX5_inheritLife_17 : decode cX5_inheritLife 17 = .ok (.iload_n 2, 1) := by decide +kernel
theorem dX5_inheritLife_18 : decode cX5_inheritLife 18 = .ok (.invokevirtual 113, 3) := by decide +kernel
theorem dX5_inheritLife_21 : decode cX5_inheritLife 21 = .ok (.iload_n 3, 1) := by decide +kernel
theorem dX5_inheritLife_22 : decode cX5_inheritLife 22 = .ok (.aload_n 0, 1) := by decide +kernel
theorem dX5_inheritLife_23 : decode cX5_inheritLife 23 = .ok (.getfield 35, 3) := by decide +kernel
theorem dX5_inheritLife_26 : decode cX5_inheritLife 26 = .ok (.iload_n 2, 1) := by decide +kernel
theorem dX5_inheritLife_27 : decode cX5_inheritLife 27 = .ok (.bipush 7, 2) := by decide +kernel
theorem dX5_inheritLife_29 : decode cX5_inheritLife 29 = .ok (.invokevirtual 93, 3) := by decide +kernel
theorem dX5_inheritLife_32 : decode cX5_inheritLife 32 = .ok (.invokevirtual 128, 3) := by decide +kernel
theorem dX5_inheritLife_35 : decode cX5_inheritLife 35 = .ok (.return_, 1) := by decide +kernel
set_option maxRecDepth 20000 in
theorem ggX5_setLife_X6_get : GoodIn wsX5_setLife wsX6_get := goodIn_r _ [16, 17, 18, 19, 38, 39, 40, 41, 42, 43, 44, 45, 46, 47, 48, 49, 50, 51, 52, 53, 54, 55, 56, 57, 58, 59, 60, 61] (by decide +kernel) (by decide +kernel)
set_option maxRecDepth 20000 in
theorem gX5_setLife_X6_get_u93X7 : GoodIn wsX5_setLife (va_wsU RX5 93 RX7 "TicketGate$Table" ⟨"TicketGate$Tickets", "get", "(II)I"⟩ yX6_get wsX6_get) := goodIn_app (goodIn_of _ (by decide +kernel)) ggX5_setLife_X6_get
set_option maxRecDepth 20000 in
theorem gX5_setLife_X6_get_u86X2 : GoodIn wsX5_setLife (va_wsU RX5 86 RX2 "TicketGate$Table" ⟨"TicketGate$Realms", "get", "(II)I"⟩ yX6_get wsX6_get) := goodIn_app (goodIn_of _ (by decide +kernel)) ggX5_setLife_X6_get
set_option maxRecDepth 20000 in
theorem ggX5_setLife_X6_set : GoodIn wsX5_setLife wsX6_set := goodIn_r _ [27, 17, 18, 19, 38, 39, 40, 41, 42, 43, 44, 45, 46, 47, 48, 49, 50, 51, 52, 53, 54, 55, 56, 57, 58, 59, 60, 61] (by decide +kernel) (by decide +kernel)
set_option maxRecDepth 20000 in
theorem gX5_setLife_X6_set_u136X7 : GoodIn wsX5_setLife (va_wsU RX5 136 RX7 "TicketGate$Table" ⟨"TicketGate$Tickets", "set", "(III)V"⟩ yX6_set wsX6_set) := goodIn_app (goodIn_of _ (by decide +kernel)) ggX5_setLife_X6_set
theorem dX5_setLife_0 : decode cX5_setLife 0 = .ok (.aload_n 0, 1) := by decide +kernel
theorem dX5_setLife_1 : decode cX5_setLife 1 = .ok (.getfield 35, 3) := by decide +kernel
theorem dX5_setLife_4 : decode cX5_setLife 4 = .ok (.iload_n 1, 1) := by decide +kernel
theorem dX5_setLife_5 : decode cX5_setLife 5 = .ok (.iconst 3, 1) := by decide +kernel
theorem dX5_setLife_6 : decode cX5_setLife 6 = .ok (.invokevirtual 93, 3) := by decide +kernel
theorem dX5_setLife_9 : decode cX5_setLife 9 = .ok (.istore 5, 2) := by decide +kernel
theorem dX5_setLife_11 : decode cX5_setLife 11 = .ok (.aload_n 0, 1) := by decide +kernel
theorem dX5_setLife_12 : decode cX5_setLife 12 = .ok (.getfield 53, 3) := by decide +kernel
theorem dX5_setLife_15 : decode cX5_setLife 15 = .ok (.aload_n 0, 1) := by decide +kernel
theorem dX5_setLife_16 : decode cX5_setLife 16 = .ok (.getfield 12, 3) := by decide +kernel
theorem dX5_setLife_19 : decode cX5_setLife 19 = .ok (.iload 5, 2) := by decide +kernel
theorem dX5_setLife_21 : decode cX5_setLife 21 = .ok (.iconst 1, 1) := by decide +kernel
theorem dX5_setLife_22 : decode cX5_setLife 22 = .ok (.invokevirtual 86, 3) := by decide +kernel
theorem dX5_setLife_25 : decode cX5_setLife 25 = .ok (.iadd, 1) := by decide +kernel
theorem dX5_setLife_26 : decode cX5_setLife 26 = .ok (.iload_n 3, 1) := by decide +kernel
theorem dX5_setLife_27 : decode cX5_setLife 27 = .ok (.invokestatic 154, 3) := by decide +kernel
theorem dX5_setLife_30 : decode cX5_setLife 30 = .ok (.istore 6, 2) := by decide +kernel
theorem dX5_setLife_32 : decode cX5_setLife 32 = .ok (.aload_n 0, 1) := by decide +kernel
theorem dX5_setLife_33 : decode cX5_setLife 33 = .ok (.getfield 53, 3) := by decide +kernel
theorem dX5_setLife_36 : decode cX5_setLife 36 = .ok (.aload_n 0, 1) := by decide +kernel
theorem dX5_setLife_37 : decode cX5_setLife 37 = .ok (.getfield 12, 3) := by decide +kernel
theorem dX5_setLife_40 : decode cX5_setLife 40 = .ok (.iload 5, 2) := by decide +kernel
theorem dX5_setLife_42 : decode cX5_setLife 42 = .ok (.iconst 2, 1) := by decide +kernel
theorem dX5_setLife_43 : decode cX5_setLife 43 = .ok (.invokevirtual 86, 3) := by decide +kernel
theorem dX5_setLife_46 : decode cX5_setLife 46 = .ok (.iadd, 1) := by decide +kernel
theorem dX5_setLife_47 : decode cX5_setLife 47 = .ok (.iload 4, 2) := by decide +kernel
theorem dX5_setLife_49 : decode cX5_setLife 49 = .ok (.invokestatic 154, 3) := by decide +kernel
theorem dX5_setLife_52 : decode cX5_setLife 52 = .ok (.istore 7, 2) := by decide +kernel
theorem dX5_setLife_54 : decode cX5_setLife 54 = .ok (.aload_n 0, 1) := by decide +kernel
theorem dX5_setLife_55 : decode cX5_setLife 55 = .ok (.getfield 35, 3) := by decide +kernel
theorem dX5_setLife_58 : decode cX5_setLife 58 = .ok (.iload_n 1, 1) := by decide +kernel
theorem dX5_setLife_59 : decode cX5_setLife 59 = .ok (.bipush 6, 2) := by decide +kernel
theorem dX5_setLife_61 : decode cX5_setLife 61 = .ok (.iload 6, 2) := by decide +kernel
theorem dX5_setLife_63 : decode cX5_setLife 63 = .ok (.invokevirtual 136, 3) := by decide +kernel
theorem dX5_setLife_66 : decode cX5_setLife 66 = .ok (.aload_n 0, 1) := by decide +kernel
theorem dX5_setLife_67 : decode cX5_setLife 67 = .ok (.getfield 35, 3) := by decide +kernel
theorem dX5_setLife_70 : decode cX5_setLife 70 = .ok (.iload_n 1, 1) := by decide +kernel
theorem dX5_setLife_71 : decode cX5_setLife 71 = .ok (.bipush 7, 2) := by decide +kernel
theorem dX5_setLife_73 : decode cX5_setLife 73 = .ok (.iload_n 2, 1) := by decide +kernel
theorem dX5_setLife_74 : decode cX5_setLife 74 = .ok (.ifCond .eq 13, 3) := by decide +kernel
theorem dX5_setLife_77 : decode cX5_setLife 77 = .ok (.iload 6, 2) := by decide +kernel
theorem dX5_setLife_79 : decode cX5_setLife 79 = .ok (.iload 7, 2) := by decide +kernel
theorem dX5_setLife_81 : decode cX5_setLife 81 = .ok (.invokestatic 160, 3) := by decide +kernel
theorem dX5_setLife_84 : decode cX5_setLife 84 = .ok (.goto 5, 3) := by decide +kernel
theorem dX5_setLife_87 : decode cX5_setLife 87 = .ok (.iload 6, 2) := by decide +kernel
theorem dX5_setLife_89 : decode cX5_setLife 89 = .ok (.invokevirtual 136, 3) := by decide +kernel
theorem dX5_setLife_92 : decode cX5_setLife 92 = .ok (.aload_n 0, 1) := by decide +kernel
theorem dX5_setLife_93 : decode cX5_setLife 93 = .ok (.getfield 35, 3) := by decide +kernel
theorem dX5_setLife_96 : decode cX5_setLife 96 = .ok (.iload_n 1, 1) := by decide +kernel
theorem dX5_setLife_97 : decode cX5_setLife 97 = .ok (.bipush 9, 2) := by decide +kernel
theorem dX5_setLife_99 : decode cX5_setLife 99 = .ok (.iload_n 2, 1) := by decide +kernel
theorem dX5_setLife_100 : decode cX5_setLife 100 = .ok (.ifCond .eq 7, 3) := by decide +kernel
theorem dX5_setLife_103 : decode cX5_setLife 103 = .ok (.iconst 1, 1) := by decide +kernel
theorem dX5_setLife_104 : decode cX5_setLife 104 = .ok (.goto 4, 3) := by decide +kernel
theorem dX5_setLife_107 : decode cX5_setLife 107 = .ok (.iconst 0, 1) := by decide +kernel
theorem dX5_setLife_108 : decode cX5_setLife 108 = .ok (.invokevirtual 136, 3) := by decide +kernel
theorem dX5_setLife_111 : decode cX5_setLife 111 = .ok (.return_, 1) := by decide +kernel
theorem dX6_init_0 : decode cX6_init 0 = .ok (.aload_n 0, 1) := by decide +kernel
theorem dX6_init_1 : decode cX6_init 1 = .ok (.invokespecial 3, 3) := by decide +kernel
theorem dX6_init_4 : decode cX6_init 4 = .ok (.aload_n 0, 1) := by decide +kernel
theorem dX6_init_5 : decode cX6_init 5 = .ok (.iload_n 1, 1) := by decide +kernel
theorem dX6_init_6 : decode cX6_init 6 = .ok (.putfield 9, 3) := by decide +kernel
theorem dX6_init_9 : decode cX6_init 9 = .ok (.aload_n 0, 1) := by decide +kernel
theorem dX6_init_10 : decode cX6_init 10 = .ok (.iload_n 2, 1) := by decide +kernel
theorem dX6_init_11 : decode cX6_init 11 = .ok (.putfield 15, 3) := by decide +kernel
theorem dX6_init_14 : decode cX6_init 14 = .ok (.aload_n 0, 1) := by decide +kernel
theorem dX6_init_15 : decode cX6_init 15 = .ok (.iconst 0, 1) := by decide +kernel
theorem dX6_init_16 : decode cX6_init 16 = .ok (.iload_n 1, 1) := by decide +kernel
theorem dX6_init_17 : decode cX6_init 17 = .ok (.iload_n 2, 1) := by decide +kernel
theorem dX6_init_18 : decode cX6_init 18 = .ok (.imul, 1) := by decide +kernel
theorem dX6_init_19 : decode cX6_init 19 = .ok (.invokestatic 18, 3) := by decide +kernel
theorem dX6_init_22 : decode cX6_init 22 = .ok (.newarray .int, 2) := by decide +kernel
theorem dX6_init_24 : decode cX6_init 24 = .ok (.putfield 24, 3) := by decide +kernel
theorem dX6_init_27 : decode cX6_init 27 = .ok (.return_, 1) := by decide +kernel
theorem dX6_size_0 : decode cX6_size 0 = .ok (.aload_n 0, 1) := by decide +kernel
theorem dX6_size_1 : decode cX6_size 1 = .ok (.getfield 28, 3) := by decide +kernel
theorem dX6_size_4 : decode cX6_size 4 = .ok (.ireturn, 1) := by decide +kernel
theorem dX6_isFull_0 : decode cX6_isFull 0 = .ok (.aload_n 0, 1) := by decide +kernel
theorem dX6_isFull_1 : decode cX6_isFull 1 = .ok (.getfield 28, 3) := by decide +kernel
theorem dX6_isFull_4 : decode cX6_isFull 4 = .ok (.aload_n 0, 1) := by decide +kernel
theorem dX6_isFull_5 : decode cX6_isFull 5 = .ok (.getfield 9, 3) := by decide +kernel
theorem dX6_isFull_8 : decode cX6_isFull 8 = .ok (.if_icmp .lt 7, 3) := by decide +kernel
theorem dX6_isFull_11 : decode cX6_isFull 11 = .ok (.iconst 1, 1) := by decide +kernel
theorem dX6_isFull_12 : decode cX6_isFull 12 = .ok (.goto 4, 3) := by decide +kernel
theorem dX6_isFull_15 : decode cX6_isFull 15 = .ok (.iconst 0, 1) := by decide +kernel
theorem dX6_isFull_16 : decode cX6_isFull 16 = .ok (.ireturn, 1) := by decide +kernel
theorem dX6_has_0 : decode cX6_has 0 = .ok (.iload_n 1, 1) := by decide +kernel
theorem dX6_has_1 : decode cX6_has 1 = .ok (.ifCond .lt 15, 3) := by decide +kernel
theorem dX6_has_4 : decode cX6_has 4 = .ok (.iload_n 1, 1) := by decide +kernel
theorem dX6_has_5 : decode cX6_has 5 = .ok (.aload_n 0, 1) := by decide +kernel
theorem dX6_has_6 : decode cX6_has 6 = .ok (.getfield 28, 3) := by decide +kernel
theorem dX6_has_9 : decode cX6_has 9 = .ok (.if_icmp .ge 7, 3) := by decide +kernel
theorem dX6_has_12 : decode cX6_has 12 = .ok (.iconst 1, 1) := by decide +kernel
theorem dX6_has_13 : decode cX6_has 13 = .ok (.goto 4, 3) := by decide +kernel
theorem dX6_has_16 : decode cX6_has 16 = .ok (.iconst 0, 1) := by decide +kernel
theorem dX6_has_17 : decode cX6_has 17 = .ok (.ireturn, 1) := by decide +kernel
theorem dX6_get_0 : decode cX6_get 0 = .ok (.iload_n 1, 1) := by decide +kernel
theorem dX6_get_1 : decode cX6_get 1 = .ok (.aload_n 0, 1) := by decide +kernel
theorem dX6_get_2 : decode cX6_get 2 = .ok (.getfield 15, 3) := by decide +kernel
theorem dX6_get_5 : decode cX6_get 5 = .ok (.imul, 1) := by decide +kernel
theorem dX6_get_6 : decode cX6_get 6 = .ok (.iload_n 2, 1) := by decide +kernel
theorem dX6_get_7 : decode cX6_get 7 = .ok (.iadd, 1) := by decide +kernel
theorem dX6_get_8 : decode cX6_get 8 = .ok (.istore_n 3, 1) := by decide +kernel
theorem dX6_get_9 : decode cX6_get 9 = .ok (.iload_n 1, 1) := by decide +kernel
theorem dX6_get_10 : decode cX6_get 10 = .ok (.ifCond .lt 28, 3) := by decide +kernel
theorem dX6_get_13 : decode cX6_get 13 = .ok (.iload_n 1, 1) := by decide +kernel
theorem dX6_get_14 : decode cX6_get 14 = .ok (.aload_n 0, 1) := by decide +kernel
theorem dX6_get_15 : decode cX6_get 15 = .ok (.getfield 28, 3) := by decide +kernel
theorem dX6_get_18 : decode cX6_get 18 = .ok (.if_icmp .ge 20, 3) := by decide +kernel
theorem dX6_get_21 : decode cX6_get 21 = .ok (.iload_n 3, 1) := by decide +kernel
theorem dX6_get_22 : decode cX6_get 22 = .ok (.ifCond .lt 16, 3) := by decide +kernel
theorem dX6_get_25 : decode cX6_get 25 = .ok (.iload_n 3, 1) := by decide +kernel
theorem dX6_get_26 : decode cX6_get 26 = .ok (.aload_n 0, 1) := by decide +kernel
theorem dX6_get_27 : decode cX6_get 27 = .ok (.getfield 24, 3) := by decide +kernel
theorem dX6_get_30 : decode cX6_get 30 = .ok (.arraylength, 1) := by decide +kernel
theorem dX6_get_31 : decode cX6_get 31 = .ok (.if_icmp .ge 7, 3) := by decide +kernel
theorem dX6_get_34 : decode cX6_get 34 = .ok (.iconst 1, 1) := by decide +kernel
theorem dX6_get_35 : decode cX6_get 35 = .ok (.goto 4, 3) := by decide +kernel
theorem dX6_get_38 : decode cX6_get 38 = .ok (.iconst 0, 1) := by decide +kernel
theorem dX6_get_39 : decode cX6_get 39 = .ok (.istore 4, 2) := by decide +kernel
theorem dX6_get_41 : decode cX6_get 41 = .ok (.iload 4, 2) := by decide +kernel
theorem dX6_get_43 : decode cX6_get 43 = .ok (.ifCond .eq 12, 3) := by decide +kernel
theorem dX6_get_46 : decode cX6_get 46 = .ok (.aload_n 0, 1) := by decide +kernel
theorem dX6_get_47 : decode cX6_get 47 = .ok (.getfield 24, 3) := by decide +kernel
theorem dX6_get_50 : decode cX6_get 50 = .ok (.iload_n 3, 1) := by decide +kernel
theorem dX6_get_51 : decode cX6_get 51 = .ok (.iaload, 1) := by decide +kernel
theorem dX6_get_52 : decode cX6_get 52 = .ok (.goto 4, 3) := by decide +kernel
theorem dX6_get_55 : decode cX6_get 55 = .ok (.iconst 0, 1) := by decide +kernel
theorem dX6_get_56 : decode cX6_get 56 = .ok (.ireturn, 1) := by decide +kernel
theorem dX6_set_0 : decode cX6_set 0 = .ok (.iload_n 1, 1) := by decide +kernel
theorem dX6_set_1 : decode cX6_set 1 = .ok (.aload_n 0, 1) := by decide +kernel
theorem dX6_set_2 : decode cX6_set 2 = .ok (.getfield 15, 3) := by decide +kernel
theorem dX6_set_5 : decode cX6_set 5 = .ok (.imul, 1) := by decide +kernel
theorem dX6_set_6 : decode cX6_set 6 = .ok (.iload_n 2, 1) := by decide +kernel
theorem dX6_set_7 : decode cX6_set 7 = .ok (.iadd, 1) := by decide +kernel
theorem dX6_set_8 : decode cX6_set 8 = .ok (.istore 4, 2) := by decide +kernel
theorem dX6_set_10 : decode cX6_set 10 = .ok (.iload_n 1, 1) := by decide +kernel
theorem dX6_set_11 : decode cX6_set 11 = .ok (.ifCond .lt 34, 3) := by decide +kernel
theorem dX6_set_14 : decode cX6_set 14 = .ok (.iload_n 1, 1) := by decide +kernel
theorem dX6_set_15 : decode cX6_set 15 = .ok (.aload_n 0, 1) := by decide +kernel
theorem dX6_set_16 : decode cX6_set 16 = .ok (.getfield 28, 3) := by decide +kernel
theorem dX6_set_19 : decode cX6_set 19 = .ok (.if_icmp .ge 26, 3) := by decide +kernel
theorem dX6_set_22 : decode cX6_set 22 = .ok (.iload 4, 2) := by decide +kernel
theorem dX6_set_24 : decode cX6_set 24 = .ok (.ifCond .lt 21, 3) := by decide +kernel
theorem dX6_set_27 : decode cX6_set 27 = .ok (.iload 4, 2) := by decide +kernel
theorem dX6_set_29 : decode cX6_set 29 = .ok (.aload_n 0, 1) := by decide +kernel
theorem dX6_set_30 : decode cX6_set 30 = .ok (.getfield 24, 3) := by decide +kernel
theorem dX6_set_33 : decode cX6_set 33 = .ok (.arraylength, 1) := by decide +kernel
theorem dX6_set_34 : decode cX6_set 34 = .ok (.if_icmp .ge 11, 3) := by decide +kernel
theorem dX6_set_37 : decode cX6_set 37 = .ok (.aload_n 0, 1) := by decide +kernel
theorem dX6_set_38 : decode cX6_set 38 = .ok (.getfield 24, 3) := by decide +kernel
theorem dX6_set_41 : decode cX6_set 41 = .ok (.iload 4, 2) := by decide +kernel
theorem dX6_set_43 : decode cX6_set 43 = .ok (.iload_n 3, 1) := by decide +kernel
theorem dX6_set_44 : decode cX6_set 44 = .ok (.iastore, 1) := by decide +kernel
theorem dX6_set_45 : decode cX6_set 45 = .ok (.return_, 1) := by decide +kernel
theorem dX6_addRow_0 : decode cX6_addRow 0 = .ok (.aload_n 0, 1) := by decide +kernel
theorem dX6_addRow_1 : decode cX6_addRow 1 = .ok (.getfield 28, 3) := by decide +kernel
theorem dX6_addRow_4 : decode cX6_addRow 4 = .ok (.aload_n 0, 1) := by decide +kernel
theorem dX6_addRow_5 : decode cX6_addRow 5 = .ok (.getfield 9, 3) := by decide +kernel
theorem dX6_addRow_8 : decode cX6_addRow 8 = .ok (.if_icmp .lt 5, 3) := by decide +kernel
theorem dX6_addRow_11 : decode cX6_addRow 11 = .ok (.iconst (-1), 1) := by decide +kernel
theorem dX6_addRow_12 : decode cX6_addRow 12 = .ok (.ireturn, 1) := by decide +kernel
theorem dX6_addRow_13 : decode cX6_addRow 13 = .ok (.aload_n 0, 1) := by decide +kernel
theorem dX6_addRow_14 : decode cX6_addRow 14 = .ok (.dup, 1) := by decide +kernel
theorem dX6_addRow_15 : decode cX6_addRow 15 = .ok (.getfield 28, 3) := by decide +kernel
theorem dX6_addRow_18 : decode cX6_addRow 18 = .ok (.iconst 1, 1) := by decide +kernel
theorem dX6_addRow_19 : decode cX6_addRow 19 = .ok (.iadd, 1) := by decide +kernel
theorem dX6_addRow_20 : decode cX6_addRow 20 = .ok (.putfield 28, 3) := by decide +kernel
theorem dX6_addRow_23 : decode cX6_addRow 23 = .ok (.aload_n 0, 1) := by decide +kernel
theorem dX6_addRow_24 : decode cX6_addRow 24 = .ok (.getfield 28, 3) := by decide +kernel
theorem dX6_addRow_27 : decode cX6_addRow 27 = .ok (.iconst 1, 1) := by decide +kernel
theorem dX6_addRow_28 : decode cX6_addRow 28 = .ok (.isub, 1) := by decide +kernel
theorem dX6_addRow_29 : decode cX6_addRow 29 = .ok (.ireturn, 1) := by decide +kernel
theorem dX6_removeRow_0 : decode cX6_removeRow 0 = .ok (.iload_n 1, 1) := by decide +kernel
theorem dX6_removeRow_1 : decode cX6_removeRow 1 = .ok (.ifCond .lt 11, 3) := by decide +kernel
theorem dX6_removeRow_4 : decode cX6_removeRow 4 = .ok (.iload_n 1, 1) := by decide +kernel
theorem dX6_removeRow_5 : decode cX6_removeRow 5 = .ok (.aload_n 0, 1) := by decide +kernel
theorem dX6_removeRow_6 : decode cX6_removeRow 6 = .ok (.getfield 28, 3) := by decide +kernel
theorem dX6_removeRow_9 : decode cX6_removeRow 9 = .ok (.if_icmp .lt 4, 3) := by decide +kernel
theorem dX6_removeRow_12 : decode cX6_removeRow 12 = .ok (.return_, 1) := by decide +kernel
theorem dX6_removeRow_13 : decode cX6_removeRow 13 = .ok (.iload_n 1, 1) := by decide +kernel
theorem dX6_removeRow_14 : decode cX6_removeRow 14 = .ok (.aload_n 0, 1) := by decide +kernel
theorem dX6_removeRow_15 : decode cX6_removeRow 15 = .ok (.getfield 15, 3) := by decide +kernel
theorem dX6_removeRow_18 : decode cX6_removeRow 18 = .ok (.imul, 1) := by decide +kernel
theorem dX6_removeRow_19 : decode cX6_removeRow 19 = .ok (.istore_n 2, 1) := by decide +kernel
theorem dX6_removeRow_20 : decode cX6_removeRow 20 = .ok (.iload_n 2, 1) := by decide +kernel
theorem dX6_removeRow_21 : decode cX6_removeRow 21 = .ok (.aload_n 0, 1) := by decide +kernel
theorem dX6_removeRow_22 : decode cX6_removeRow 22 = .ok (.getfield 28, 3) := by decide +kernel
theorem dX6_removeRow_25 : decode cX6_removeRow 25 = .ok (.iconst 1, 1) := by decide +kernel
theorem dX6_removeRow_26 : decode cX6_removeRow 26 = .ok (.isub, 1) := by decide +kernel
theorem dX6_removeRow_27 : decode cX6_removeRow 27 = .ok (.aload_n 0, 1) := by decide +kernel
theorem dX6_removeRow_28 : decode cX6_removeRow 28 = .ok (.getfield 15, 3) := by decide +kernel
theorem dX6_removeRow_31 : decode cX6_removeRow 31 = .ok (.imul, 1) := by decide +kernel
theorem dX6_removeRow_32 : decode cX6_removeRow 32 = .ok (.if_icmp .ge 53, 3) := by decide +kernel
theorem dX6_removeRow_35 : decode cX6_removeRow 35 = .ok (.iload_n 2, 1) := by decide +kernel
theorem dX6_removeRow_36 : decode cX6_removeRow 36 = .ok (.ifCond .lt 43, 3) := by decide +kernel
theorem dX6_removeRow_39 : decode cX6_removeRow 39 = .ok (.iload_n 2, 1) := by decide +kernel
theorem dX6_removeRow_40 : decode cX6_removeRow 40 = .ok (.aload_n 0, 1) := by decide +kernel
theorem dX6_removeRow_41 : decode cX6_removeRow 41 = .ok (.getfield 15, 3) := by decide +kernel
theorem dX6_removeRow_44 : decode cX6_removeRow 44 = .ok (.iadd, 1) := by decide +kernel
theorem dX6_removeRow_45 : decode cX6_removeRow 45 = .ok (.ifCond .lt 34, 3) := by decide +kernel
theorem dX6_removeRow_48 : decode cX6_removeRow 48 = .ok (.iload_n 2, 1) := by decide +kernel
theorem dX6_removeRow_49 : decode cX6_removeRow 49 = .ok (.aload_n 0, 1) := by decide +kernel
theorem dX6_removeRow_50 : decode cX6_removeRow 50 = .ok (.getfield 15, 3) := by decide +kernel
theorem dX6_removeRow_53 : decode cX6_removeRow 53 = .ok (.iadd, 1) := by decide +kernel
theorem dX6_removeRow_54 : decode cX6_removeRow 54 = .ok (.aload_n 0, 1) := by decide +kernel
theorem dX6_removeRow_55 : decode cX6_removeRow 55 = .ok (.getfield 24, 3) := by decide +kernel
theorem dX6_removeRow_58 : decode cX6_removeRow 58 = .ok (.arraylength, 1) := by decide +kernel
theorem dX6_removeRow_59 : decode cX6_removeRow 59 = .ok (.if_icmp .ge 20, 3) := by decide +kernel
theorem dX6_removeRow_62 : decode cX6_removeRow 62 = .ok (.aload_n 0, 1) := by decide +kernel
theorem dX6_removeRow_63 : decode cX6_removeRow 63 = .ok (.getfield 24, 3) := by decide +kernel
theorem dX6_removeRow_66 : decode cX6_removeRow 66 = .ok (.iload_n 2, 1) := by decide +kernel
theorem dX6_removeRow_67 : decode cX6_removeRow 67 = .ok (.aload_n 0, 1) := by decide +kernel
theorem dX6_removeRow_68 : decode cX6_removeRow 68 = .ok (.getfield 24, 3) := by decide +kernel
theorem dX6_removeRow_71 : decode cX6_removeRow 71 = .ok (.iload_n 2, 1) := by decide +kernel
theorem dX6_removeRow_72 : decode cX6_removeRow 72 = .ok (.aload_n 0, 1) := by decide +kernel
theorem dX6_removeRow_73 : decode cX6_removeRow 73 = .ok (.getfield 15, 3) := by decide +kernel
theorem dX6_removeRow_76 : decode cX6_removeRow 76 = .ok (.iadd, 1) := by decide +kernel
theorem dX6_removeRow_77 : decode cX6_removeRow 77 = .ok (.iaload, 1) := by decide +kernel
theorem dX6_removeRow_78 : decode cX6_removeRow 78 = .ok (.iastore, 1) := by decide +kernel
theorem dX6_removeRow_79 : decode cX6_removeRow 79 = .ok (.iinc 2 1, 3) := by decide +kernel
theorem dX6_removeRow_82 : decode cX6_removeRow 82 = .ok (.goto (-62), 3) := by decide +kernel
theorem dX6_removeRow_85 : decode cX6_removeRow 85 = .ok (.aload_n 0, 1) := by decide +kernel
theorem dX6_removeRow_86 : decode cX6_removeRow 86 = .ok (.dup, 1) := by decide +kernel
theorem dX6_removeRow_87 : decode cX6_removeRow 87 = .ok (.getfield 28, 3) := by decide +kernel
theorem dX6_removeRow_90 : decode cX6_removeRow 90 = .ok (.iconst 1, 1) := by decide +kernel
theorem dX6_removeRow_91 : decode cX6_removeRow 91 = .ok (.isub, 1) := by decide +kernel
theorem dX6_removeRow_92 : decode cX6_removeRow 92 = .ok (.putfield 28, 3) := by decide +kernel
theorem dX6_removeRow_95 : decode cX6_removeRow 95 = .ok (.return_, 1) := by decide +kernel
theorem dX6_removeAll_0 : decode cX6_removeAll 0 = .ok (.aload_n 0, 1) := by decide +kernel
theorem dX6_removeAll_1 : decode cX6_removeAll 1 = .ok (.iconst 0, 1) := by decide +kernel
theorem dX6_removeAll_2 : decode cX6_removeAll 2 = .ok (.putfield 28, 3) := by decide +kernel
theorem dX6_removeAll_5 : decode cX6_removeAll 5 = .ok (.return_, 1) := by decide +kernel
set_option maxRecDepth 20000 in
theorem ggX6_rowWith_X6_get : GoodIn wsX6_rowWith wsX6_get := goodIn_r _ [7, 8, 1, 9, 15, 16, 17, 18, 19, 20, 21, 22, 23, 24, 25, 26, 27, 28, 29, 30, 31, 32, 33, 34, 35, 36, 37, 38] (by decide +kernel) (by decide +kernel)
set_option maxRecDepth 20000 in
theorem gX6_rowWith_X6_get_u31X2 : GoodIn wsX6_rowWith (va_wsU RX6 31 RX2 "TicketGate$Table" ⟨"TicketGate$Table", "get", "(II)I"⟩ yX6_get wsX6_get) := goodIn_app (goodIn_of _ (by decide +kernel)) ggX6_rowWith_X6_get
set_option maxRecDepth 20000 in
theorem gX6_rowWith_X6_get_u31X3 : GoodIn wsX6_rowWith (va_wsU RX6 31 RX3 "TicketGate$Table" ⟨"TicketGate$Table", "get", "(II)I"⟩ yX6_get wsX6_get) := goodIn_app (goodIn_of _ (by decide +kernel)) ggX6_rowWith_X6_get
set_option maxRecDepth 20000 in
theorem gX6_rowWith_X6_get_u31X7 : GoodIn wsX6_rowWith (va_wsU RX6 31 RX7 "TicketGate$Table" ⟨"TicketGate$Table", "get", "(II)I"⟩ yX6_get wsX6_get) := goodIn_app (goodIn_of _ (by decide +kernel)) ggX6_rowWith_X6_get
set_option maxRecDepth 20000 in
theorem gX6_rowWith_X6_get_u31X8 : GoodIn wsX6_rowWith (va_wsU RX6 31 RX8 "TicketGate$Table" ⟨"TicketGate$Table", "get", "(II)I"⟩ yX6_get wsX6_get) := goodIn_app (goodIn_of _ (by decide +kernel)) ggX6_rowWith_X6_get
set_option maxRecDepth 20000 in
theorem gX6_rowWith_X6_get_u31X9 : GoodIn wsX6_rowWith (va_wsU RX6 31 RX9 "TicketGate$Table" ⟨"TicketGate$Table", "get", "(II)I"⟩ yX6_get wsX6_get) := goodIn_app (goodIn_of _ (by decide +kernel)) ggX6_rowWith_X6_get
set_option maxRecDepth 20000 in
theorem gX6_rowWith_X6_get_u31X10 : GoodIn wsX6_rowWith (va_wsU RX6 31 RX10 "TicketGate$Table" ⟨"TicketGate$Table", "get", "(II)I"⟩ yX6_get wsX6_get) := goodIn_app (goodIn_of _ (by decide +kernel)) ggX6_rowWith_X6_get
theorem dX6_rowWith_0 : decode cX6_rowWith 0 = .ok (.iconst 0, 1) := by decide +kernel
theorem dX6_rowWith_1 : decode cX6_rowWith 1 = .ok (.istore_n 3, 1) := by decide +kernel
theorem dX6_rowWith_2 : decode cX6_rowWith 2 = .ok (.iload_n 3, 1) := by decide +kernel
theorem dX6_rowWith_3 : decode cX6_rowWith 3 = .ok (.aload_n 0, 1) := by decide +kernel
theorem dX6_rowWith_4 : decode cX6_rowWith 4 = .ok (.getfield 28, 3) := by decide +kernel
theorem dX6_rowWith_7 : decode cX6_rowWith 7 = .ok (.if_icmp .ge 21, 3) := by decide +kernel
theorem dX6_rowWith_10 : decode cX6_rowWith 10 = .ok (.aload_n 0, 1) := by decide +kernel
theorem dX6_rowWith_11 : decode cX6_rowWith 11 = .ok (.iload_n 3, 1) := by decide +kernel
theorem dX6_rowWith_12 : decode cX6_rowWith 12 = .ok (.iload_n 1, 1) := by decide +kernel
theorem dX6_rowWith_13 : decode cX6_rowWith 13 = .ok (.invokevirtual 31, 3) := by decide +kernel
theorem dX6_rowWith_16 : decode cX6_rowWith 16 = .ok (.iload_n 2, 1) := by decide +kernel
theorem dX6_rowWith_17 : decode cX6_rowWith 17 = .ok (.if_icmp .ne 5, 3) := by decide +kernel
theorem dX6_rowWith_20 : decode cX6_rowWith 20 = .ok (.iload_n 3, 1) := by decide +kernel
theorem dX6_rowWith_21 : decode cX6_rowWith 21 = .ok (.ireturn, 1) := by decide +kernel
theorem dX6_rowWith_22 : decode cX6_rowWith 22 = .ok (.iinc 3 1, 3) := by decide +kernel
theorem dX6_rowWith_25 : decode cX6_rowWith 25 = .ok (.goto (-23), 3) := by decide +kernel
theorem dX6_rowWith_28 : decode cX6_rowWith 28 = .ok (.iconst (-1), 1) := by decide +kernel
theorem dX6_rowWith_29 : decode cX6_rowWith 29 = .ok (.ireturn, 1) := by decide +kernel
set_option maxRecDepth 20000 in
theorem ggX6_sumOf_X6_get : GoodIn wsX6_sumOf wsX6_get := goodIn_r _ [7, 8, 1, 9, 15, 16, 17, 18, 19, 20, 21, 22, 23, 24, 25, 26, 27, 28, 29, 30, 31, 32, 33, 34, 35, 36, 37, 38] (by decide +kernel) (by decide +kernel)
set_option maxRecDepth 20000 in
theorem gX6_sumOf_X6_get_u31X2 : GoodIn wsX6_sumOf (va_wsU RX6 31 RX2 "TicketGate$Table" ⟨"TicketGate$Table", "get", "(II)I"⟩ yX6_get wsX6_get) := goodIn_app (goodIn_of _ (by decide +kernel)) ggX6_sumOf_X6_get
set_option maxRecDepth 20000 in
theorem gX6_sumOf_X6_get_u31X3 : GoodIn wsX6_sumOf (va_wsU RX6 31 RX3 "TicketGate$Table" ⟨"TicketGate$Table", "get", "(II)I"⟩ yX6_get wsX6_get) := goodIn_app (goodIn_of _ (by decide +kernel)) ggX6_sumOf_X6_get
set_option maxRecDepth 20000 in
theorem gX6_sumOf_X6_get_u31X7 : GoodIn wsX6_sumOf (va_wsU RX6 31 RX7 "TicketGate$Table" ⟨"TicketGate$Table", "get", "(II)I"⟩ yX6_get wsX6_get) := goodIn_app (goodIn_of _ (by decide +kernel)) ggX6_sumOf_X6_get
set_option maxRecDepth 20000 in
theorem gX6_sumOf_X6_get_u31X8 : GoodIn wsX6_sumOf (va_wsU RX6 31 RX8 "TicketGate$Table" ⟨"TicketGate$Table", "get", "(II)I"⟩ yX6_get wsX6_get) := goodIn_app (goodIn_of _ (by decide +kernel)) ggX6_sumOf_X6_get
set_option maxRecDepth 20000 in
theorem gX6_sumOf_X6_get_u31X9 : GoodIn wsX6_sumOf (va_wsU RX6 31 RX9 "TicketGate$Table" ⟨"TicketGate$Table", "get", "(II)I"⟩ yX6_get wsX6_get) := goodIn_app (goodIn_of _ (by decide +kernel)) ggX6_sumOf_X6_get
set_option maxRecDepth 20000 in
theorem gX6_sumOf_X6_get_u31X10 : GoodIn wsX6_sumOf (va_wsU RX6 31 RX10 "TicketGate$Table" ⟨"TicketGate$Table", "get", "(II)I"⟩ yX6_get wsX6_get) := goodIn_app (goodIn_of _ (by decide +kernel)) ggX6_sumOf_X6_get
theorem dX6_sumOf_0 : decode cX6_sumOf 0 = .ok (.iconst 0, 1) := by decide +kernel
theorem dX6_sumOf_1 : decode cX6_sumOf 1 = .ok (.istore_n 2, 1) := by decide +kernel
theorem dX6_sumOf_2 : decode cX6_sumOf 2 = .ok (.iconst 0, 1) := by decide +kernel
theorem dX6_sumOf_3 : decode cX6_sumOf 3 = .ok (.istore_n 3, 1) := by decide +kernel
theorem dX6_sumOf_4 : decode cX6_sumOf 4 = .ok (.iload_n 3, 1) := by decide +kernel
theorem dX6_sumOf_5 : decode cX6_sumOf 5 = .ok (.aload_n 0, 1) := by decide +kernel
theorem dX6_sumOf_6 : decode cX6_sumOf 6 = .ok (.getfield 28, 3) := by decide +kernel
theorem dX6_sumOf_9 : decode cX6_sumOf 9 = .ok (.if_icmp .ge 18, 3) := by decide +kernel
theorem dX6_sumOf_12 : decode cX6_sumOf 12 = .ok (.iload_n 2, 1) := by decide +kernel
theorem dX6_sumOf_13 : decode cX6_sumOf 13 = .ok (.aload_n 0, 1) := by decide +kernel
theorem dX6_sumOf_14 : decode cX6_sumOf 14 = .ok (.iload_n 3, 1) := by decide +kernel
theorem dX6_sumOf_15 : decode cX6_sumOf 15 = .ok (.iload_n 1, 1) := by decide +kernel
theorem dX6_sumOf_16 : decode cX6_sumOf 16 = .ok (.invokevirtual 31, 3) := by decide +kernel
theorem dX6_sumOf_19 : decode cX6_sumOf 19 = .ok (.iadd, 1) := by decide +kernel
theorem dX6_sumOf_20 : decode cX6_sumOf 20 = .ok (.istore_n 2, 1) := by decide +kernel
theorem dX6_sumOf_21 : decode cX6_sumOf 21 = .ok (.iinc 3 1, 3) := by decide +kernel
theorem dX6_sumOf_24 : decode cX6_sumOf 24 = .ok (.goto (-20), 3) := by decide +kernel
theorem dX6_sumOf_27 : decode cX6_sumOf 27 = .ok (.iload_n 2, 1) := by decide +kernel
theorem dX6_sumOf_28 : decode cX6_sumOf 28 = .ok (.ireturn, 1) := by decide +kernel
theorem dX6_copyFrom_0 : decode cX6_copyFrom 0 = .ok (.aload_n 0, 1) := by decide +kernel
theorem dX6_copyFrom_1 : decode cX6_copyFrom 1 = .ok (.getfield 24, 3) := by decide +kernel
theorem dX6_copyFrom_4 : decode cX6_copyFrom 4 = .ok (.arraylength, 1) := by decide +kernel
theorem dX6_copyFrom_5 : decode cX6_copyFrom 5 = .ok (.aload_n 1, 1) := by decide +kernel
theorem dX6_copyFrom_6 : decode cX6_copyFrom 6 = .ok (.getfield 24, 3) := by decide +kernel
theorem dX6_copyFrom_9 : decode cX6_copyFrom 9 = .ok (.arraylength, 1) := by decide +kernel
theorem dX6_copyFrom_10 : decode cX6_copyFrom 10 = .ok (.invokestatic 34, 3) := by decide +kernel
theorem dX6_copyFrom_13 : decode cX6_copyFrom 13 = .ok (.istore_n 2, 1) := by decide +kernel
theorem dX6_copyFrom_14 : decode cX6_copyFrom 14 = .ok (.aload_n 1, 1) := by decide +kernel
theorem dX6_copyFrom_15 : decode cX6_copyFrom 15 = .ok (.getfield 24, 3) := by decide +kernel
theorem dX6_copyFrom_18 : decode cX6_copyFrom 18 = .ok (.iconst 0, 1) := by decide +kernel
theorem dX6_copyFrom_19 : decode cX6_copyFrom 19 = .ok (.aload_n 0, 1) := by decide +kernel
theorem dX6_copyFrom_20 : decode cX6_copyFrom 20 = .ok (.getfield 24, 3) := by decide +kernel
theorem dX6_copyFrom_23 : decode cX6_copyFrom 23 = .ok (.iconst 0, 1) := by decide +kernel
theorem dX6_copyFrom_24 : decode cX6_copyFrom 24 = .ok (.iload_n 2, 1) := by decide +kernel
theorem dX6_copyFrom_25 : decode cX6_copyFrom 25 = .ok (.invokestatic 37, 3) := by decide +kernel
theorem dX6_copyFrom_28 : decode cX6_copyFrom 28 = .ok (.aload_n 0, 1) := by decide +kernel
theorem dX6_copyFrom_29 : decode cX6_copyFrom 29 = .ok (.aload_n 1, 1) := by decide +kernel
theorem dX6_copyFrom_30 : decode cX6_copyFrom 30 = .ok (.getfield 28, 3) := by decide +kernel
theorem dX6_copyFrom_33 : decode cX6_copyFrom 33 = .ok (.putfield 28, 3) := by decide +kernel
theorem dX6_copyFrom_36 : decode cX6_copyFrom 36 = .ok (.return_, 1) := by decide +kernel
set_option maxRecDepth 20000 in
theorem ggX7_init_X6_init : GoodIn wsX7_init wsX6_init := goodIn_r _ [4, 5, 6, 7, 8, 9, 10, 11, 12, 13, 14, 15, 16, 17, 18, 19, 20, 21, 22, 23, 24, 25, 26, 27, 28, 29, 30, 31, 32, 33, 34, 35, 36, 37, 38, 39] (by decide +kernel) (by decide +kernel)
set_option maxRecDepth 20000 in
theorem gX7_init_X6_init : GoodIn wsX7_init (wsX6_init) := ggX7_init_X6_init
theorem dX7_init_0 : decode cX7_init 0 = .ok (.aload_n 0, 1) := by decide +kernel
theorem dX7_init_1 : decode cX7_init 1 = .ok (.bipush 24, 2) := by decide +kernel
theorem dX7_init_3 : decode cX7_init 3 = .ok (.bipush 10, 2) := by decide +kernel
theorem dX7_init_5 : decode cX7_init 5 = .ok (.invokespecial 5, 3) := by decide +kernel
theorem dX7_init_8 : decode cX7_init 8 = .ok (.return_, 1) := by decide +kernel
set_option maxRecDepth 20000 in
theorem ggX7_canBeRenewed_X6_get : GoodIn wsX7_canBeRenewed wsX6_get := goodIn_r _ [6, 7, 8, 9, 10, 11, 12, 13, 14, 15, 16, 17, 18, 19, 20, 21, 22, 23, 24, 25, 26, 27, 28, 29, 30, 31, 32, 33] (by decide +kernel) (by decide +kernel)
set_option maxRecDepth 20000 in
theorem gX7_canBeRenewed_X6_get_u11X7 : GoodIn wsX7_canBeRenewed (va_wsU RX7 11 RX7 "TicketGate$Table" ⟨"TicketGate$Tickets", "get", "(II)I"⟩ yX6_get wsX6_get) := goodIn_app (goodIn_of _ (by decide +kernel)) ggX7_canBeRenewed_X6_get
theorem dX7_canBeRenewed_0 : decode cX7_canBeRenewed 0 = .ok (.aload_n 0, 1) := by decide +kernel
theorem dX7_canBeRenewed_1 : decode cX7_canBeRenewed 1 = .ok (.iload_n 1, 1) := by decide +kernel
theorem dX7_canBeRenewed_2 : decode cX7_canBeRenewed 2 = .ok (.bipush 9, 2) := by decide +kernel
theorem dX7_canBeRenewed_4 : decode cX7_canBeRenewed 4 = .ok (.invokevirtual 11, 3) := by decide +kernel
theorem dX7_canBeRenewed_7 : decode cX7_canBeRenewed 7 = .ok (.iconst 1, 1) := by decide +kernel
theorem dX7_canBeRenewed_8 : decode cX7_canBeRenewed 8 = .ok (.if_icmp .ne 7, 3) := by decide +kernel
theorem dX7_canBeRenewed_11 : decode cX7_canBeRenewed 11 = .ok (.iconst 1, 1) := by decide +kernel
theorem dX7_canBeRenewed_12 : decode cX7_canBeRenewed 12 = .ok (.goto 4, 3) := by decide +kernel
theorem dX7_canBeRenewed_15 : decode cX7_canBeRenewed 15 = .ok (.iconst 0, 1) := by decide +kernel
theorem dX7_canBeRenewed_16 : decode cX7_canBeRenewed 16 = .ok (.ireturn, 1) := by decide +kernel
set_option maxRecDepth 20000 in
theorem ggX7_isAlive_X6_get : GoodIn wsX7_isAlive wsX6_get := goodIn_r _ [6, 7, 8, 9, 10, 11, 12, 13, 14, 15, 16, 17, 18, 19, 20, 21, 22, 23, 24, 25, 26, 27, 28, 29, 30, 31, 32, 33] (by decide +kernel) (by decide +kernel)
set_option maxRecDepth 20000 in
theorem gX7_isAlive_X6_get_u11X7 : GoodIn wsX7_isAlive (va_wsU RX7 11 RX7 "TicketGate$Table" ⟨"TicketGate$Tickets", "get", "(II)I"⟩ yX6_get wsX6_get) := goodIn_app (goodIn_of _ (by decide +kernel)) ggX7_isAlive_X6_get
theorem dX7_isAlive_0 : decode cX7_isAlive 0 = .ok (.iload_n 2, 1) := by decide +kernel
theorem dX7_isAlive_1 : decode cX7_isAlive 1 = .ok (.aload_n 0, 1) := by decide +kernel
theorem dX7_isAlive_2 : decode cX7_isAlive 2 = .ok (.iload_n 1, 1) := by decide +kernel
theorem dX7_isAlive_3 : decode cX7_isAlive 3 = .ok (.bipush 6, 2) := by decide +kernel
theorem dX7_isAlive_5 : decode cX7_isAlive 5 = .ok (.invokevirtual 11, 3) := by decide +kernel
theorem dX7_isAlive_8 : decode cX7_isAlive 8 = .ok (.if_icmp .ge 7, 3) := by decide +kernel
theorem dX7_isAlive_11 : decode cX7_isAlive 11 = .ok (.iconst 1, 1) := by decide +kernel
theorem dX7_isAlive_12 : decode cX7_isAlive 12 = .ok (.goto 4, 3) := by decide +kernel
theorem dX7_isAlive_15 : decode cX7_isAlive 15 = .ok (.iconst 0, 1) := by decide +kernel
theorem dX7_isAlive_16 : decode cX7_isAlive 16 = .ok (.ireturn, 1) := by decide +kernel
set_option maxRecDepth 20000 in
theorem ggX7_countAlive_X6_size : GoodIn wsX7_countAlive wsX6_size := goodIn_r _ [6, 7, 20, 21, 22, 23, 24, 25, 26, 27, 28, 29, 30, 31, 32, 33, 34, 35, 36, 37, 38, 39, 40, 41, 42, 43] (by decide +kernel) (by decide +kernel)
set_option maxRecDepth 20000 in
theorem gX7_countAlive_X6_size_u15X7 : GoodIn wsX7_countAlive (va_wsU RX7 15 RX7 "TicketGate$Table" ⟨"TicketGate$Tickets", "size", "()I"⟩ yX6_size wsX6_size) := goodIn_app (goodIn_of _ (by decide +kernel)) ggX7_countAlive_X6_size
set_option maxRecDepth 20000 in
theorem ggX7_countAlive_X7_isAlive : GoodIn wsX7_countAlive wsX7_isAlive := goodIn_r _ [12, 13, 14, 15, 16, 5, 17, 18, 7, 19, 20, 21, 22, 23, 24, 25, 26, 27, 28, 29, 30, 31, 32, 33, 34, 35, 36, 37, 38, 39, 40, 41, 42, 43] (by decide +kernel) (by decide +kernel)
set_option maxRecDepth 20000 in
theorem gX7_countAlive_X7_isAlive : GoodIn wsX7_countAlive (wsV RX7 19 RX7 yX7_isAlive wsX7_isAlive) := goodIn_app (goodIn_of _ (by decide +kernel)) ggX7_countAlive_X7_isAlive
theorem dX7_countAlive_0 : decode cX7_countAlive 0 = .ok (.iconst 0, 1) := by decide +kernel
theorem dX7_countAlive_1 : decode cX7_countAlive 1 = .ok (.istore_n 2, 1) := by decide +kernel
theorem dX7_countAlive_2 : decode cX7_countAlive 2 = .ok (.iconst 0, 1) := by decide +kernel
theorem dX7_countAlive_3 : decode cX7_countAlive 3 = .ok (.istore_n 3, 1) := by decide +kernel
theorem dX7_countAlive_4 : decode cX7_countAlive 4 = .ok (.iload_n 3, 1) := by decide +kernel
theorem dX7_countAlive_5 : decode cX7_countAlive 5 = .ok (.aload_n 0, 1) := by decide +kernel
theorem dX7_countAlive_6 : decode cX7_countAlive 6 = .ok (.invokevirtual 15, 3) := by decide +kernel
theorem dX7_countAlive_9 : decode cX7_countAlive 9 = .ok (.if_icmp .ge 26, 3) := by decide +kernel
theorem dX7_countAlive_12 : decode cX7_countAlive 12 = .ok (.iload_n 2, 1) := by decide +kernel
theorem dX7_countAlive_13 : decode cX7_countAlive 13 = .ok (.aload_n 0, 1) := by decide +kernel
theorem dX7_countAlive_14 : decode cX7_countAlive 14 = .ok (.iload_n 3, 1) := by decide +kernel
theorem dX7_countAlive_15 : decode cX7_countAlive 15 = .ok (.iload_n 1, 1) := by decide +kernel
theorem dX7_countAlive_16 : decode cX7_countAlive 16 = .ok (.invokevirtual 19, 3) := by decide +kernel
theorem dX7_countAlive_19 : decode cX7_countAlive 19 = .ok (.ifCond .eq 7, 3) := by decide +kernel
theorem dX7_countAlive_22 : decode cX7_countAlive 22 = .ok (.iconst 1, 1) := by decide +kernel
theorem dX7_countAlive_23 : decode cX7_countAlive 23 = .ok (.goto 4, 3) := by decide +kernel
theorem dX7_countAlive_26 : decode cX7_countAlive 26 = .ok (.iconst 0, 1) := by decide +kernel
theorem dX7_countAlive_27 : decode cX7_countAlive 27 = .ok (.iadd, 1) := by decide +kernel
theorem dX7_countAlive_28 : decode cX7_countAlive 28 = .ok (.istore_n 2, 1) := by decide +kernel
theorem dX7_countAlive_29 : decode cX7_countAlive 29 = .ok (.iinc 3 1, 3) := by decide +kernel
theorem dX7_countAlive_32 : decode cX7_countAlive 32 = .ok (.goto (-28), 3) := by decide +kernel
theorem dX7_countAlive_35 : decode cX7_countAlive 35 = .ok (.iload_n 2, 1) := by decide +kernel
theorem dX7_countAlive_36 : decode cX7_countAlive 36 = .ok (.ireturn, 1) := by decide +kernel
set_option maxRecDepth 20000 in
theorem ggX7_longestAlive_X6_size : GoodIn wsX7_longestAlive wsX6_size := goodIn_r _ [6, 7, 20, 21, 22, 23, 24, 25, 26, 27, 28, 29, 30, 31, 32, 33, 34, 35, 36, 37, 38, 39, 40, 41, 42, 43] (by decide +kernel) (by decide +kernel)
set_option maxRecDepth 20000 in
theorem gX7_longestAlive_X6_size_u15X7 : GoodIn wsX7_longestAlive (va_wsU RX7 15 RX7 "TicketGate$Table" ⟨"TicketGate$Tickets", "size", "()I"⟩ yX6_size wsX6_size) := goodIn_app (goodIn_of _ (by decide +kernel)) ggX7_longestAlive_X6_size
set_option maxRecDepth 20000 in
theorem ggX7_longestAlive_X6_get : GoodIn wsX7_longestAlive wsX6_get := goodIn_r _ [12, 13, 7, 14, 20, 21, 22, 23, 24, 25, 26, 27, 28, 29, 30, 31, 32, 33, 34, 35, 36, 37, 38, 39, 40, 41, 42, 43] (by decide +kernel) (by decide +kernel)
set_option maxRecDepth 20000 in
theorem gX7_longestAlive_X6_get_u11X7 : GoodIn wsX7_longestAlive (va_wsU RX7 11 RX7 "TicketGate$Table" ⟨"TicketGate$Tickets", "get", "(II)I"⟩ yX6_get wsX6_get) := goodIn_app (goodIn_of _ (by decide +kernel)) ggX7_longestAlive_X6_get
set_option maxRecDepth 20000 in
theorem ggX7_longestAlive_X7_isAlive : GoodIn wsX7_longestAlive wsX7_isAlive := goodIn_r _ [19, 8, 9, 10, 11, 5, 12, 13, 7, 14, 20, 21, 22, 23, 24, 25, 26, 27, 28, 29, 30, 31, 32, 33, 34, 35, 36, 37, 38, 39, 40, 41, 42, 43] (by decide +kernel) (by decide +kernel)
set_option maxRecDepth 20000 in
theorem gX7_longestAlive_X7_isAlive : GoodIn wsX7_longestAlive (wsV RX7 19 RX7 yX7_isAlive wsX7_isAlive) := goodIn_app (goodIn_of _ (by decide +kernel)) ggX7_longestAlive_X7_isAlive
theorem dX7_longestAlive_0 : decode cX7_longestAlive 0 = .ok (.iconst (-1), 1) := by decide +kernel
theorem dX7_longestAlive_1 : decode cX7_longestAlive 1 = .ok (.istore 4, 2) := by decide +kernel
theorem dX7_longestAlive_3 : decode cX7_longestAlive 3 = .ok (.iconst 0, 1) := by decide +kernel
theorem dX7_longestAlive_4 : decode cX7_longestAlive 4 = .ok (.istore 5, 2) := by decide +kernel
theorem dX7_longestAlive_6 : decode cX7_longestAlive 6 = .ok (.iload 5, 2) := by decide +kernel
theorem dX7_longestAlive_8 : decode cX7_longestAlive 8 = .ok (.aload_n 0, 1) := by decide +kernel
theorem dX7_longestAlive_9 : decode cX7_longestAlive 9 = .ok (.invokevirtual 15, 3) := by decide +kernel
theorem dX7_longestAlive_12 : decode cX7_longestAlive 12 = .ok (.if_icmp .ge 94, 3) := by decide +kernel
theorem dX7_longestAlive_15 : decode cX7_longestAlive 15 = .ok (.aload_n 0, 1) := by decide +kernel
theorem dX7_longestAlive_16 : decode cX7_longestAlive 16 = .ok (.iload 5, 2) := by decide +kernel
theorem dX7_longestAlive_18 : decode cX7_longestAlive 18 = .ok (.iconst 2, 1) := by decide +kernel
theorem dX7_longestAlive_19 : decode cX7_longestAlive 19 = .ok (.invokevirtual 11, 3) := by decide +kernel
theorem dX7_longestAlive_22 : decode cX7_longestAlive 22 = .ok (.iload_n 1, 1) := by decide +kernel
theorem dX7_longestAlive_23 : decode cX7_longestAlive 23 = .ok (.if_icmp .ne 18, 3) := by decide +kernel
theorem dX7_longestAlive_26 : decode cX7_longestAlive 26 = .ok (.aload_n 0, 1) := by decide +kernel
theorem dX7_longestAlive_27 : decode cX7_longestAlive 27 = .ok (.iload 5, 2) := by decide +kernel
theorem dX7_longestAlive_29 : decode cX7_longestAlive 29 = .ok (.iconst 4, 1) := by decide +kernel
theorem dX7_longestAlive_30 : decode cX7_longestAlive 30 = .ok (.invokevirtual 11, 3) := by decide +kernel
theorem dX7_longestAlive_33 : decode cX7_longestAlive 33 = .ok (.iload_n 2, 1) := by decide +kernel
theorem dX7_longestAlive_34 : decode cX7_longestAlive 34 = .ok (.if_icmp .ne 7, 3) := by decide +kernel
theorem dX7_longestAlive_37 : decode cX7_longestAlive 37 = .ok (.iconst 1, 1) := by decide +kernel
theorem dX7_longestAlive_38 : decode cX7_longestAlive 38 = .ok (.goto 4, 3) := by decide +kernel
theorem dX7_longestAlive_41 : decode cX7_longestAlive 41 = .ok (.iconst 0, 1) := by decide +kernel
theorem dX7_longestAlive_42 : decode cX7_longestAlive 42 = .ok (.istore 6, 2) := by decide +kernel
theorem dX7_longestAlive_44 : decode cX7_longestAlive 44 = .ok (.iload 4, 2) := by decide +kernel
theorem dX7_longestAlive_46 : decode cX7_longestAlive 46 = .ok (.iconst (-1), 1) := by decide +kernel
theorem dX7_longestAlive_47 : decode cX7_longestAlive 47 = .ok (.if_icmp .eq 22, 3) := by decide +kernel
theorem dX7_longestAlive_50 : decode cX7_longestAlive 50 = .ok (.aload_n 0, 1) := by decide +kernel
theorem dX7_longestAlive_51 : decode cX7_longestAlive 51 = .ok (.iload 5, 2) := by decide +kernel
theorem dX7_longestAlive_53 : decode cX7_longestAlive 53 = .ok (.bipush 6, 2) := by decide +kernel
theorem dX7_longestAlive_55 : decode cX7_longestAlive 55 = .ok (.invokevirtual 11, 3) := by decide +kernel
theorem dX7_longestAlive_58 : decode cX7_longestAlive 58 = .ok (.aload_n 0, 1) := by decide +kernel
theorem dX7_longestAlive_59 : decode cX7_longestAlive 59 = .ok (.iload 4, 2) := by decide +kernel
theorem dX7_longestAlive_61 : decode cX7_longestAlive 61 = .ok (.bipush 6, 2) := by decide +kernel
theorem dX7_longestAlive_63 : decode cX7_longestAlive 63 = .ok (.invokevirtual 11, 3) := by decide +kernel
theorem dX7_longestAlive_66 : decode cX7_longestAlive 66 = .ok (.if_icmp .le 7, 3) := by decide +kernel
theorem dX7_longestAlive_69 : decode cX7_longestAlive 69 = .ok (.iconst 1, 1) := by decide +kernel
theorem dX7_longestAlive_70 : decode cX7_longestAlive 70 = .ok (.goto 4, 3) := by decide +kernel
theorem dX7_longestAlive_73 : decode cX7_longestAlive 73 = .ok (.iconst 0, 1) := by decide +kernel
theorem dX7_longestAlive_74 : decode cX7_longestAlive 74 = .ok (.istore 7, 2) := by decide +kernel
theorem dX7_longestAlive_76 : decode cX7_longestAlive 76 = .ok (.iload 6, 2) := by decide +kernel
theorem dX7_longestAlive_78 : decode cX7_longestAlive 78 = .ok (.ifCond .eq 22, 3) := by decide +kernel
theorem dX7_longestAlive_81 : decode cX7_longestAlive 81 = .ok (.iload 7, 2) := by decide +kernel
theorem dX7_longestAlive_83 : decode cX7_longestAlive 83 = .ok (.ifCond .eq 17, 3) := by decide +kernel
theorem dX7_longestAlive_86 : decode cX7_longestAlive 86 = .ok (.aload_n 0, 1) := by decide +kernel
theorem dX7_longestAlive_87 : decode cX7_longestAlive 87 = .ok (.iload 5, 2) := by decide +kernel
theorem dX7_longestAlive_89 : decode cX7_longestAlive 89 = .ok (.iload_n 3, 1) := by decide +kernel
theorem dX7_longestAlive_90 : decode cX7_longestAlive 90 = .ok (.invokevirtual 19, 3) := by decide +kernel
theorem dX7_longestAlive_93 : decode cX7_longestAlive 93 = .ok (.ifCond .eq 7, 3) := by decide +kernel
theorem dX7_longestAlive_96 : decode cX7_longestAlive 96 = .ok (.iload 5, 2) := by decide +kernel
theorem dX7_longestAlive_98 : decode cX7_longestAlive 98 = .ok (.istore 4, 2) := by decide +kernel
theorem dX7_longestAlive_100 : decode cX7_longestAlive 100 = .ok (.iinc 5 1, 3) := by decide +kernel
theorem dX7_longestAlive_103 : decode cX7_longestAlive 103 = .ok (.goto (-97), 3) := by decide +kernel
theorem dX7_longestAlive_106 : decode cX7_longestAlive 106 = .ok (.iload 4, 2) := by decide +kernel
theorem dX7_longestAlive_108 : decode cX7_longestAlive 108 = .ok (.ireturn, 1) := by decide +kernel
set_option maxRecDepth 20000 in
theorem ggX7_countLifeErrors_X6_size : GoodIn wsX7_countLifeErrors wsX6_size := goodIn_r _ [6, 7, 15, 16, 17, 18, 19, 20, 21, 22, 23, 24, 25, 26, 27, 28, 29, 30, 31, 32, 33, 34, 35, 36, 37, 38] (by decide +kernel) (by decide +kernel)
set_option maxRecDepth 20000 in
theorem gX7_countLifeErrors_X6_size_u15X7 : GoodIn wsX7_countLifeErrors (va_wsU RX7 15 RX7 "TicketGate$Table" ⟨"TicketGate$Tickets", "size", "()I"⟩ yX6_size wsX6_size) := goodIn_app (goodIn_of _ (by decide +kernel)) ggX7_countLifeErrors_X6_size
set_option maxRecDepth 20000 in
theorem ggX7_countLifeErrors_X6_get : GoodIn wsX7_countLifeErrors wsX6_get := goodIn_r _ [12, 13, 7, 14, 15, 16, 17, 18, 19, 20, 21, 22, 23, 24, 25, 26, 27, 28, 29, 30, 31, 32, 33, 34, 35, 36, 37, 38] (by decide +kernel) (by decide +kernel)
set_option maxRecDepth 20000 in
theorem gX7_countLifeErrors_X6_get_u11X7 : GoodIn wsX7_countLifeErrors (va_wsU RX7 11 RX7 "TicketGate$Table" ⟨"TicketGate$Tickets", "get", "(II)I"⟩ yX6_get wsX6_get) := goodIn_app (goodIn_of _ (by decide +kernel)) ggX7_countLifeErrors_X6_get
theorem dX7_countLifeErrors_0 : decode cX7_countLifeErrors 0 = .ok (.iconst 0, 1) := by decide +kernel
theorem dX7_countLifeErrors_1 : decode cX7_countLifeErrors 1 = .ok (.istore_n 1, 1) := by decide +kernel
theorem dX7_countLifeErrors_2 : decode cX7_countLifeErrors 2 = .ok (.iconst 0, 1) := by decide +kernel
theorem dX7_countLifeErrors_3 : decode cX7_countLifeErrors 3 = .ok (.istore_n 2, 1) := by decide +kernel
theorem dX7_countLifeErrors_4 : decode cX7_countLifeErrors 4 = .ok (.iload_n 2, 1) := by decide +kernel
theorem dX7_countLifeErrors_5 : decode cX7_countLifeErrors 5 = .ok (.aload_n 0, 1) := by decide +kernel
theorem dX7_countLifeErrors_6 : decode cX7_countLifeErrors 6 = .ok (.invokevirtual 15, 3) := by decide +kernel
theorem dX7_countLifeErrors_9 : decode cX7_countLifeErrors 9 = .ok (.if_icmp .ge 46, 3) := by decide +kernel
theorem dX7_countLifeErrors_12 : decode cX7_countLifeErrors 12 = .ok (.aload_n 0, 1) := by decide +kernel
theorem dX7_countLifeErrors_13 : decode cX7_countLifeErrors 13 = .ok (.iload_n 2, 1) := by decide +kernel
theorem dX7_countLifeErrors_14 : decode cX7_countLifeErrors 14 = .ok (.bipush 6, 2) := by decide +kernel
theorem dX7_countLifeErrors_16 : decode cX7_countLifeErrors 16 = .ok (.invokevirtual 11, 3) := by decide +kernel
theorem dX7_countLifeErrors_19 : decode cX7_countLifeErrors 19 = .ok (.istore_n 3, 1) := by decide +kernel
theorem dX7_countLifeErrors_20 : decode cX7_countLifeErrors 20 = .ok (.iload_n 1, 1) := by decide +kernel
theorem dX7_countLifeErrors_21 : decode cX7_countLifeErrors 21 = .ok (.aload_n 0, 1) := by decide +kernel
theorem dX7_countLifeErrors_22 : decode cX7_countLifeErrors 22 = .ok (.iload_n 2, 1) := by decide +kernel
theorem dX7_countLifeErrors_23 : decode cX7_countLifeErrors 23 = .ok (.iconst 5, 1) := by decide +kernel
theorem dX7_countLifeErrors_24 : decode cX7_countLifeErrors 24 = .ok (.invokevirtual 11, 3) := by decide +kernel
theorem dX7_countLifeErrors_27 : decode cX7_countLifeErrors 27 = .ok (.iload_n 3, 1) := by decide +kernel
theorem dX7_countLifeErrors_28 : decode cX7_countLifeErrors 28 = .ok (.if_icmp .ge 14, 3) := by decide +kernel
theorem dX7_countLifeErrors_31 : decode cX7_countLifeErrors 31 = .ok (.iload_n 3, 1) := by decide +kernel
theorem dX7_countLifeErrors_32 : decode cX7_countLifeErrors 32 = .ok (.aload_n 0, 1) := by decide +kernel
theorem dX7_countLifeErrors_33 : decode cX7_countLifeErrors 33 = .ok (.iload_n 2, 1) := by decide +kernel
theorem dX7_countLifeErrors_34 : decode cX7_countLifeErrors 34 = .ok (.bipush 7, 2) := by decide +kernel
theorem dX7_countLifeErrors_36 : decode cX7_countLifeErrors 36 = .ok (.invokevirtual 11, 3) := by decide +kernel
theorem dX7_countLifeErrors_39 : decode cX7_countLifeErrors 39 = .ok (.if_icmp .le 7, 3) := by decide +kernel
theorem dX7_countLifeErrors_42 : decode cX7_countLifeErrors 42 = .ok (.iconst 1, 1) := by decide +kernel
theorem dX7_countLifeErrors_43 : decode cX7_countLifeErrors 43 = .ok (.goto 4, 3) := by decide +kernel
theorem dX7_countLifeErrors_46 : decode cX7_countLifeErrors 46 = .ok (.iconst 0, 1) := by decide +kernel
theorem dX7_countLifeErrors_47 : decode cX7_countLifeErrors 47 = .ok (.iadd, 1) := by decide +kernel
theorem dX7_countLifeErrors_48 : decode cX7_countLifeErrors 48 = .ok (.istore_n 1, 1) := by decide +kernel
theorem dX7_countLifeErrors_49 : decode cX7_countLifeErrors 49 = .ok (.iinc 2 1, 3) := by decide +kernel
theorem dX7_countLifeErrors_52 : decode cX7_countLifeErrors 52 = .ok (.goto (-48), 3) := by decide +kernel
theorem dX7_countLifeErrors_55 : decode cX7_countLifeErrors 55 = .ok (.iload_n 1, 1) := by decide +kernel
theorem dX7_countLifeErrors_56 : decode cX7_countLifeErrors 56 = .ok (.ireturn, 1) := by decide +kernel
set_option maxRecDepth 20000 in
theorem ggX7_removeDead_X6_size : GoodIn wsX7_removeDead wsX6_size := goodIn_r _ [6, 7, 25, 26, 27, 28, 29, 30, 31, 32, 33, 34, 35, 36, 37, 38, 39, 40, 41, 42, 43, 44, 45, 46, 47, 48] (by decide +kernel) (by decide +kernel)
set_option maxRecDepth 20000 in
theorem gX7_removeDead_X6_size_u15X7 : GoodIn wsX7_removeDead (va_wsU RX7 15 RX7 "TicketGate$Table" ⟨"TicketGate$Tickets", "size", "()I"⟩ yX6_size wsX6_size) := goodIn_app (goodIn_of _ (by decide +kernel)) ggX7_removeDead_X6_size
set_option maxRecDepth 20000 in
theorem ggX7_removeDead_X7_isAlive : GoodIn wsX7_removeDead wsX7_isAlive := goodIn_r _ [12, 13, 14, 15, 16, 5, 17, 18, 7, 19, 25, 26, 27, 28, 29, 30, 31, 32, 33, 34, 35, 36, 37, 38, 39, 40, 41, 42, 43, 44, 45, 46, 47, 48] (by decide +kernel) (by decide +kernel)
set_option maxRecDepth 20000 in
theorem gX7_removeDead_X7_isAlive : GoodIn wsX7_removeDead (wsV RX7 19 RX7 yX7_isAlive wsX7_isAlive) := goodIn_app (goodIn_of _ (by decide +kernel)) ggX7_removeDead_X7_isAlive
set_option maxRecDepth 20000 in
theorem ggX7_removeDead_X6_removeRow : GoodIn wsX7_removeDead wsX6_removeRow := goodIn_r _ [24, 7, 18, 19, 25, 26, 27, 28, 29, 30, 31, 32, 33, 34, 35, 36, 37, 38, 39, 40, 41, 42, 43, 44, 45, 46, 47, 48] (by decide +kernel) (by decide +kernel)
set_option maxRecDepth 20000 in
theorem gX7_removeDead_X6_removeRow_u23X7 : GoodIn wsX7_removeDead (va_wsU RX7 23 RX7 "TicketGate$Table" ⟨"TicketGate$Tickets", "removeRow", "(I)V"⟩ yX6_removeRow wsX6_removeRow) := goodIn_app (goodIn_of _ (by decide +kernel)) ggX7_removeDead_X6_removeRow
theorem dX7_removeDead_0 : decode cX7_removeDead 0 = .ok (.aload_n 0, 1) := by decide +kernel
theorem dX7_removeDead_1 : decode cX7_removeDead 1 = .ok (.invokevirtual 15, 3) := by decide +kernel
theorem dX7_removeDead_4 : decode cX7_removeDead 4 = .ok (.istore_n 2, 1) := by decide +kernel
theorem dX7_removeDead_5 : decode cX7_removeDead 5 = .ok (.iload_n 2, 1) := by decide +kernel
theorem dX7_removeDead_6 : decode cX7_removeDead 6 = .ok (.iconst 1, 1) := by decide +kernel
theorem dX7_removeDead_7 : decode cX7_removeDead 7 = .ok (.isub, 1) := by decide +kernel
theorem dX7_removeDead_8 : decode cX7_removeDead 8 = .ok (.istore_n 3, 1) := by decide +kernel
theorem dX7_removeDead_9 : decode cX7_removeDead 9 = .ok (.iload_n 3, 1) := by decide +kernel
theorem dX7_removeDead_10 : decode cX7_removeDead 10 = .ok (.ifCond .lt 23, 3) := by decide +kernel
theorem dX7_removeDead_13 : decode cX7_removeDead 13 = .ok (.aload_n 0, 1) := by decide +kernel
theorem dX7_removeDead_14 : decode cX7_removeDead 14 = .ok (.iload_n 3, 1) := by decide +kernel
theorem dX7_removeDead_15 : decode cX7_removeDead 15 = .ok (.iload_n 1, 1) := by decide +kernel
theorem dX7_removeDead_16 : decode cX7_removeDead 16 = .ok (.invokevirtual 19, 3) := by decide +kernel
theorem dX7_removeDead_19 : decode cX7_removeDead 19 = .ok (.ifCond .ne 8, 3) := by decide +kernel
theorem dX7_removeDead_22 : decode cX7_removeDead 22 = .ok (.aload_n 0, 1) := by decide +kernel
theorem dX7_removeDead_23 : decode cX7_removeDead 23 = .ok (.iload_n 3, 1) := by decide +kernel
theorem dX7_removeDead_24 : decode cX7_removeDead 24 = .ok (.invokevirtual 23, 3) := by decide +kernel
theorem dX7_removeDead_27 : decode cX7_removeDead 27 = .ok (.iinc 3 (-1), 3) := by decide +kernel
theorem dX7_removeDead_30 : decode cX7_removeDead 30 = .ok (.goto (-21), 3) := by decide +kernel
theorem dX7_removeDead_33 : decode cX7_removeDead 33 = .ok (.iload_n 2, 1) := by decide +kernel
theorem dX7_removeDead_34 : decode cX7_removeDead 34 = .ok (.aload_n 0, 1) := by decide +kernel
theorem dX7_removeDead_35 : decode cX7_removeDead 35 = .ok (.invokevirtual 15, 3) := by decide +kernel
theorem dX7_removeDead_38 : decode cX7_removeDead 38 = .ok (.isub, 1) := by decide +kernel
theorem dX7_removeDead_39 : decode cX7_removeDead 39 = .ok (.ireturn, 1) := by decide +kernel
set_option maxRecDepth 20000 in
theorem ggX8_init_X6_init : GoodIn wsX8_init wsX6_init := goodIn_r _ [4, 5, 6, 7, 8, 9, 10, 11, 12, 13, 14, 15, 16, 17, 18, 19, 20, 21, 22, 23, 24, 25, 26, 27, 28, 29, 30, 31, 32, 33, 34, 35, 36, 37, 38, 39] (by decide +kernel) (by decide +kernel)
set_option maxRecDepth 20000 in
theorem gX8_init_X6_init : GoodIn wsX8_init (wsX6_init) := ggX8_init_X6_init
theorem dX8_init_0 : decode cX8_init 0 = .ok (.aload_n 0, 1) := by decide +kernel
theorem dX8_init_1 : decode cX8_init 1 = .ok (.bipush 6, 2) := by decide +kernel
theorem dX8_init_3 : decode cX8_init 3 = .ok (.iconst 5, 1) := by decide +kernel
theorem dX8_init_4 : decode cX8_init 4 = .ok (.invokespecial 5, 3) := by decide +kernel
theorem dX8_init_7 : decode cX8_init 7 = .ok (.return_, 1) := by decide +kernel
set_option maxRecDepth 20000 in
theorem ggX8_addUser_X6_addRow : GoodIn wsX8_addUser wsX6_addRow := goodIn_r _ [6, 7, 8, 16, 17, 18, 19, 20, 21, 22, 23, 24, 25, 26, 27, 28, 29, 30, 31, 32, 33, 34, 35, 36, 37, 38, 39] (by decide +kernel) (by decide +kernel)
set_option maxRecDepth 20000 in
theorem gX8_addUser_X6_addRow_u11X8 : GoodIn wsX8_addUser (va_wsU RX8 11 RX8 "TicketGate$Table" ⟨"TicketGate$Users", "addRow", "()I"⟩ yX6_addRow wsX6_addRow) := goodIn_app (goodIn_of _ (by decide +kernel)) ggX8_addUser_X6_addRow
set_option maxRecDepth 20000 in
theorem ggX8_addUser_X6_set : GoodIn wsX8_addUser wsX6_set := goodIn_r _ [13, 14, 7, 15, 16, 17, 18, 19, 20, 21, 22, 23, 24, 25, 26, 27, 28, 29, 30, 31, 32, 33, 34, 35, 36, 37, 38, 39] (by decide +kernel) (by decide +kernel)
set_option maxRecDepth 20000 in
theorem gX8_addUser_X6_set_u15X8 : GoodIn wsX8_addUser (va_wsU RX8 15 RX8 "TicketGate$Table" ⟨"TicketGate$Users", "set", "(III)V"⟩ yX6_set wsX6_set) := goodIn_app (goodIn_of _ (by decide +kernel)) ggX8_addUser_X6_set
theorem dX8_addUser_0 : decode cX8_addUser 0 = .ok (.aload_n 0, 1) := by decide +kernel
theorem dX8_addUser_1 : decode cX8_addUser 1 = .ok (.invokevirtual 11, 3) := by decide +kernel
theorem dX8_addUser_4 : decode cX8_addUser 4 = .ok (.istore 5, 2) := by decide +kernel
theorem dX8_addUser_6 : decode cX8_addUser 6 = .ok (.aload_n 0, 1) := by decide +kernel
theorem dX8_addUser_7 : decode cX8_addUser 7 = .ok (.iload 5, 2) := by decide +kernel
theorem dX8_addUser_9 : decode cX8_addUser 9 = .ok (.iconst 0, 1) := by decide +kernel
theorem dX8_addUser_10 : decode cX8_addUser 10 = .ok (.iload_n 1, 1) := by decide +kernel
theorem dX8_addUser_11 : decode cX8_addUser 11 = .ok (.invokevirtual 15, 3) := by decide +kernel
theorem dX8_addUser_14 : decode cX8_addUser 14 = .ok (.aload_n 0, 1) := by decide +kernel
theorem dX8_addUser_15 : decode cX8_addUser 15 = .ok (.iload 5, 2) := by decide +kernel
theorem dX8_addUser_17 : decode cX8_addUser 17 = .ok (.iconst 1, 1) := by decide +kernel
theorem dX8_addUser_18 : decode cX8_addUser 18 = .ok (.iload_n 2, 1) := by decide +kernel
theorem dX8_addUser_19 : decode cX8_addUser 19 = .ok (.invokevirtual 15, 3) := by decide +kernel
theorem dX8_addUser_22 : decode cX8_addUser 22 = .ok (.aload_n 0, 1) := by decide +kernel
theorem dX8_addUser_23 : decode cX8_addUser 23 = .ok (.iload 5, 2) := by decide +kernel
theorem dX8_addUser_25 : decode cX8_addUser 25 = .ok (.iconst 2, 1) := by decide +kernel
theorem dX8_addUser_26 : decode cX8_addUser 26 = .ok (.iload_n 3, 1) := by decide +kernel
theorem dX8_addUser_27 : decode cX8_addUser 27 = .ok (.invokevirtual 15, 3) := by decide +kernel
theorem dX8_addUser_30 : decode cX8_addUser 30 = .ok (.aload_n 0, 1) := by decide +kernel
theorem dX8_addUser_31 : decode cX8_addUser 31 = .ok (.iload 5, 2) := by decide +kernel
theorem dX8_addUser_33 : decode cX8_addUser 33 = .ok (.iconst 3, 1) := by decide +kernel
theorem dX8_addUser_34 : decode cX8_addUser 34 = .ok (.iload 4, 2) := by decide +kernel
theorem dX8_addUser_36 : decode cX8_addUser 36 = .ok (.invokevirtual 15, 3) := by decide +kernel
theorem dX8_addUser_39 : decode cX8_addUser 39 = .ok (.aload_n 0, 1) := by decide +kernel
theorem dX8_addUser_40 : decode cX8_addUser 40 = .ok (.iload 5, 2) := by decide +kernel
theorem dX8_addUser_42 : decode cX8_addUser 42 = .ok (.iconst 4, 1) := by decide +kernel
theorem dX8_addUser_43 : decode cX8_addUser 43 = .ok (.iconst 0, 1) := by decide +kernel
theorem dX8_addUser_44 : decode cX8_addUser 44 = .ok (.invokevirtual 15, 3) := by decide +kernel
theorem dX8_addUser_47 : decode cX8_addUser 47 = .ok (.return_, 1) := by decide +kernel
set_option maxRecDepth 20000 in
theorem ggX9_init_X6_init : GoodIn wsX9_init wsX6_init := goodIn_r _ [4, 5, 6, 7, 8, 9, 10, 11, 12, 13, 14, 15, 16, 17, 18, 19, 20, 21, 22, 23, 24, 25, 26, 27, 28, 29, 30, 31, 32, 33, 34, 35, 36, 37, 38, 39] (by decide +kernel) (by decide +kernel)
set_option maxRecDepth 20000 in
theorem gX9_init_X6_init : GoodIn wsX9_init (wsX6_init) := ggX9_init_X6_init
theorem dX9_init_0 : decode cX9_init 0 = .ok (.aload_n 0, 1) := by decide +kernel
theorem dX9_init_1 : decode cX9_init 1 = .ok (.bipush 30, 2) := by decide +kernel
theorem dX9_init_3 : decode cX9_init 3 = .ok (.iconst 4, 1) := by decide +kernel
theorem dX9_init_4 : decode cX9_init 4 = .ok (.invokespecial 5, 3) := by decide +kernel
theorem dX9_init_7 : decode cX9_init 7 = .ok (.return_, 1) := by decide +kernel
set_option maxRecDepth 20000 in
theorem ggX9_addUse_X6_isFull : GoodIn wsX9_addUse wsX6_isFull := goodIn_r _ [6, 7, 8, 26, 27, 28, 29, 30, 31, 32, 33, 34, 35, 36, 37, 38, 39, 40, 41, 42, 43, 44, 45, 46, 47, 48, 49] (by decide +kernel) (by decide +kernel)
set_option maxRecDepth 20000 in
theorem gX9_addUse_X6_isFull_u11X9 : GoodIn wsX9_addUse (va_wsU RX9 11 RX9 "TicketGate$Table" ⟨"TicketGate$Uses", "isFull", "()Z"⟩ yX6_isFull wsX6_isFull) := goodIn_app (goodIn_of _ (by decide +kernel)) ggX9_addUse_X6_isFull
set_option maxRecDepth 20000 in
theorem ggX9_addUse_X6_removeRow : GoodIn wsX9_addUse wsX6_removeRow := goodIn_r _ [13, 7, 14, 15, 26, 27, 28, 29, 30, 31, 32, 33, 34, 35, 36, 37, 38, 39, 40, 41, 42, 43, 44, 45, 46, 47, 48, 49] (by decide +kernel) (by decide +kernel)
set_option maxRecDepth 20000 in
theorem gX9_addUse_X6_removeRow_u15X9 : GoodIn wsX9_addUse (va_wsU RX9 15 RX9 "TicketGate$Table" ⟨"TicketGate$Uses", "removeRow", "(I)V"⟩ yX6_removeRow wsX6_removeRow) := goodIn_app (goodIn_of _ (by decide +kernel)) ggX9_addUse_X6_removeRow
set_option maxRecDepth 20000 in
theorem ggX9_addUse_X6_addRow : GoodIn wsX9_addUse wsX6_addRow := goodIn_r _ [20, 7, 8, 26, 27, 28, 29, 30, 31, 32, 33, 34, 35, 36, 37, 38, 39, 40, 41, 42, 43, 44, 45, 46, 47, 48, 49] (by decide +kernel) (by decide +kernel)
set_option maxRecDepth 20000 in
theorem gX9_addUse_X6_addRow_u19X9 : GoodIn wsX9_addUse (va_wsU RX9 19 RX9 "TicketGate$Table" ⟨"TicketGate$Uses", "addRow", "()I"⟩ yX6_addRow wsX6_addRow) := goodIn_app (goodIn_of _ (by decide +kernel)) ggX9_addUse_X6_addRow
set_option maxRecDepth 20000 in
theorem ggX9_addUse_X6_set : GoodIn wsX9_addUse wsX6_set := goodIn_r _ [25, 14, 7, 15, 26, 27, 28, 29, 30, 31, 32, 33, 34, 35, 36, 37, 38, 39, 40, 41, 42, 43, 44, 45, 46, 47, 48, 49] (by decide +kernel) (by decide +kernel)
set_option maxRecDepth 20000 in
theorem gX9_addUse_X6_set_u23X9 : GoodIn wsX9_addUse (va_wsU RX9 23 RX9 "TicketGate$Table" ⟨"TicketGate$Uses", "set", "(III)V"⟩ yX6_set wsX6_set) := goodIn_app (goodIn_of _ (by decide +kernel)) ggX9_addUse_X6_set
theorem dX9_addUse_0 : decode cX9_addUse 0 = .ok (.aload_n 0, 1) := by decide +kernel
theorem dX9_addUse_1 : decode cX9_addUse 1 = .ok (.invokevirtual 11, 3) := by decide +kernel
theorem dX9_addUse_4 : decode cX9_addUse 4 = .ok (.ifCond .eq 8, 3) := by decide +kernel
theorem dX9_addUse_7 : decode cX9_addUse 7 = .ok (.aload_n 0, 1) := by decide +kernel
theorem dX9_addUse_8 : decode cX9_addUse 8 = .ok (.iconst 0, 1) := by decide +kernel
theorem dX9_addUse_9 : decode cX9_addUse 9 = .ok (.invokevirtual 15, 3) := by decide +kernel
theorem dX9_addUse_12 : decode cX9_addUse 12 = .ok (.aload_n 0, 1) := by decide +kernel
theorem dX9_addUse_13 : decode cX9_addUse 13 = .ok (.invokevirtual 19, 3) := by decide +kernel
theorem dX9_addUse_16 : decode cX9_addUse 16 = .ok (.istore 5, 2) := by decide +kernel
theorem dX9_addUse_18 : decode cX9_addUse 18 = .ok (.aload_n 0, 1) := by decide +kernel
theorem dX9_addUse_19 : decode cX9_addUse 19 = .ok (.iload 5, 2) := by decide +kernel
theorem dX9_addUse_21 : decode cX9_addUse 21 = .ok (.iconst 0, 1) := by decide +kernel
theorem dX9_addUse_22 : decode cX9_addUse 22 = .ok (.iload_n 1, 1) := by decide +kernel
theorem dX9_addUse_23 : decode cX9_addUse 23 = .ok (.invokevirtual 23, 3) := by decide +kernel
theorem dX9_addUse_26 : decode cX9_addUse 26 = .ok (.aload_n 0, 1) := by decide +kernel
theorem dX9_addUse_27 : decode cX9_addUse 27 = .ok (.iload 5, 2) := by decide +kernel
theorem dX9_addUse_29 : decode cX9_addUse 29 = .ok (.iconst 1, 1) := by decide +kernel
theorem dX9_addUse_30 : decode cX9_addUse 30 = .ok (.iload_n 2, 1) := by decide +kernel
theorem dX9_addUse_31 : decode cX9_addUse 31 = .ok (.invokevirtual 23, 3) := by decide +kernel
theorem dX9_addUse_34 : decode cX9_addUse 34 = .ok (.aload_n 0, 1) := by decide +kernel
theorem dX9_addUse_35 : decode cX9_addUse 35 = .ok (.iload 5, 2) := by decide +kernel
theorem dX9_addUse_37 : decode cX9_addUse 37 = .ok (.iconst 2, 1) := by decide +kernel
theorem dX9_addUse_38 : decode cX9_addUse 38 = .ok (.iload_n 3, 1) := by decide +kernel
theorem dX9_addUse_39 : decode cX9_addUse 39 = .ok (.invokevirtual 23, 3) := by decide +kernel
theorem dX9_addUse_42 : decode cX9_addUse 42 = .ok (.aload_n 0, 1) := by decide +kernel
theorem dX9_addUse_43 : decode cX9_addUse 43 = .ok (.iload 5, 2) := by decide +kernel
theorem dX9_addUse_45 : decode cX9_addUse 45 = .ok (.iconst 3, 1) := by decide +kernel
theorem dX9_addUse_46 : decode cX9_addUse 46 = .ok (.iload 4, 2) := by decide +kernel
theorem dX9_addUse_48 : decode cX9_addUse 48 = .ok (.invokevirtual 23, 3) := by decide +kernel
theorem dX9_addUse_51 : decode cX9_addUse 51 = .ok (.return_, 1) := by decide +kernel
set_option maxRecDepth 20000 in
theorem ggX9_knows_X6_size : GoodIn wsX9_knows wsX6_size := goodIn_r _ [6, 7, 15, 16, 17, 18, 19, 20, 21, 22, 23, 24, 25, 26, 27, 28, 29, 30, 31, 32, 33, 34, 35, 36, 37, 38] (by decide +kernel) (by decide +kernel)
set_option maxRecDepth 20000 in
theorem gX9_knows_X6_size_u27X9 : GoodIn wsX9_knows (va_wsU RX9 27 RX9 "TicketGate$Table" ⟨"TicketGate$Uses", "size", "()I"⟩ yX6_size wsX6_size) := goodIn_app (goodIn_of _ (by decide +kernel)) ggX9_knows_X6_size
set_option maxRecDepth 20000 in
theorem ggX9_knows_X6_get : GoodIn wsX9_knows wsX6_get := goodIn_r _ [12, 13, 7, 14, 15, 16, 17, 18, 19, 20, 21, 22, 23, 24, 25, 26, 27, 28, 29, 30, 31, 32, 33, 34, 35, 36, 37, 38] (by decide +kernel) (by decide +kernel)
set_option maxRecDepth 20000 in
theorem gX9_knows_X6_get_u30X9 : GoodIn wsX9_knows (va_wsU RX9 30 RX9 "TicketGate$Table" ⟨"TicketGate$Uses", "get", "(II)I"⟩ yX6_get wsX6_get) := goodIn_app (goodIn_of _ (by decide +kernel)) ggX9_knows_X6_get
theorem dX9_knows_0 : decode cX9_knows 0 = .ok (.iconst 0, 1) := by decide +kernel
theorem dX9_knows_1 : decode cX9_knows 1 = .ok (.istore 5, 2) := by decide +kernel
theorem dX9_knows_3 : decode cX9_knows 3 = .ok (.iconst 0, 1) := by decide +kernel
theorem dX9_knows_4 : decode cX9_knows 4 = .ok (.istore 6, 2) := by decide +kernel
theorem dX9_knows_6 : decode cX9_knows 6 = .ok (.iload 6, 2) := by decide +kernel
theorem dX9_knows_8 : decode cX9_knows 8 = .ok (.aload_n 0, 1) := by decide +kernel
theorem dX9_knows_9 : decode cX9_knows 9 = .ok (.invokevirtual 27, 3) := by decide +kernel
theorem dX9_knows_12 : decode cX9_knows 12 = .ok (.if_icmp .ge 66, 3) := by decide +kernel
theorem dX9_knows_15 : decode cX9_knows 15 = .ok (.iload 5, 2) := by decide +kernel
theorem dX9_knows_17 : decode cX9_knows 17 = .ok (.ifCond .ne 61, 3) := by decide +kernel
theorem dX9_knows_20 : decode cX9_knows 20 = .ok (.aload_n 0, 1) := by decide +kernel
theorem dX9_knows_21 : decode cX9_knows 21 = .ok (.iload 6, 2) := by decide +kernel
theorem dX9_knows_23 : decode cX9_knows 23 = .ok (.iconst 0, 1) := by decide +kernel
theorem dX9_knows_24 : decode cX9_knows 24 = .ok (.invokevirtual 30, 3) := by decide +kernel
theorem dX9_knows_27 : decode cX9_knows 27 = .ok (.iload_n 1, 1) := by decide +kernel
theorem dX9_knows_28 : decode cX9_knows 28 = .ok (.if_icmp .ne 41, 3) := by decide +kernel
theorem dX9_knows_31 : decode cX9_knows 31 = .ok (.aload_n 0, 1) := by decide +kernel
theorem dX9_knows_32 : decode cX9_knows 32 = .ok (.iload 6, 2) := by decide +kernel
theorem dX9_knows_34 : decode cX9_knows 34 = .ok (.iconst 1, 1) := by decide +kernel
theorem dX9_knows_35 : decode cX9_knows 35 = .ok (.invokevirtual 30, 3) := by decide +kernel
theorem dX9_knows_38 : decode cX9_knows 38 = .ok (.iload_n 2, 1) := by decide +kernel
theorem dX9_knows_39 : decode cX9_knows 39 = .ok (.if_icmp .ne 30, 3) := by decide +kernel
theorem dX9_knows_42 : decode cX9_knows 42 = .ok (.aload_n 0, 1) := by decide +kernel
theorem dX9_knows_43 : decode cX9_knows 43 = .ok (.iload 6, 2) := by decide +kernel
theorem dX9_knows_45 : decode cX9_knows 45 = .ok (.iconst 2, 1) := by decide +kernel
theorem dX9_knows_46 : decode cX9_knows 46 = .ok (.invokevirtual 30, 3) := by decide +kernel
theorem dX9_knows_49 : decode cX9_knows 49 = .ok (.iload_n 3, 1) := by decide +kernel
theorem dX9_knows_50 : decode cX9_knows 50 = .ok (.if_icmp .ne 19, 3) := by decide +kernel
theorem dX9_knows_53 : decode cX9_knows 53 = .ok (.aload_n 0, 1) := by decide +kernel
theorem dX9_knows_54 : decode cX9_knows 54 = .ok (.iload 6, 2) := by decide +kernel
theorem dX9_knows_56 : decode cX9_knows 56 = .ok (.iconst 3, 1) := by decide +kernel
theorem dX9_knows_57 : decode cX9_knows 57 = .ok (.invokevirtual 30, 3) := by decide +kernel
theorem dX9_knows_60 : decode cX9_knows 60 = .ok (.iload 4, 2) := by decide +kernel
theorem dX9_knows_62 : decode cX9_knows 62 = .ok (.if_icmp .lt 7, 3) := by decide +kernel
theorem dX9_knows_65 : decode cX9_knows 65 = .ok (.iconst 1, 1) := by decide +kernel
theorem dX9_knows_66 : decode cX9_knows 66 = .ok (.goto 4, 3) := by decide +kernel
theorem dX9_knows_69 : decode cX9_knows 69 = .ok (.iconst 0, 1) := by decide +kernel
theorem dX9_knows_70 : decode cX9_knows 70 = .ok (.istore 5, 2) := by decide +kernel
theorem dX9_knows_72 : decode cX9_knows 72 = .ok (.iinc 6 1, 3) := by decide +kernel
theorem dX9_knows_75 : decode cX9_knows 75 = .ok (.goto (-69), 3) := by decide +kernel
theorem dX9_knows_78 : decode cX9_knows 78 = .ok (.iload 5, 2) := by decide +kernel
theorem dX9_knows_80 : decode cX9_knows 80 = .ok (.ireturn, 1) := by decide +kernel
set_option maxRecDepth 20000 in
theorem ggX9_forgetBefore_X6_size : GoodIn wsX9_forgetBefore wsX6_size := goodIn_r _ [6, 7, 20, 21, 22, 23, 24, 25, 26, 27, 28, 29, 30, 31, 32, 33, 34, 35, 36, 37, 38, 39, 40, 41, 42, 43] (by decide +kernel) (by decide +kernel)
set_option maxRecDepth 20000 in
theorem gX9_forgetBefore_X6_size_u27X9 : GoodIn wsX9_forgetBefore (va_wsU RX9 27 RX9 "TicketGate$Table" ⟨"TicketGate$Uses", "size", "()I"⟩ yX6_size wsX6_size) := goodIn_app (goodIn_of _ (by decide +kernel)) ggX9_forgetBefore_X6_size
set_option maxRecDepth 20000 in
theorem ggX9_forgetBefore_X6_get : GoodIn wsX9_forgetBefore wsX6_get := goodIn_r _ [12, 13, 7, 14, 20, 21, 22, 23, 24, 25, 26, 27, 28, 29, 30, 31, 32, 33, 34, 35, 36, 37, 38, 39, 40, 41, 42, 43] (by decide +kernel) (by decide +kernel)
set_option maxRecDepth 20000 in
theorem gX9_forgetBefore_X6_get_u30X9 : GoodIn wsX9_forgetBefore (va_wsU RX9 30 RX9 "TicketGate$Table" ⟨"TicketGate$Uses", "get", "(II)I"⟩ yX6_get wsX6_get) := goodIn_app (goodIn_of _ (by decide +kernel)) ggX9_forgetBefore_X6_get
set_option maxRecDepth 20000 in
theorem ggX9_forgetBefore_X6_removeRow : GoodIn wsX9_forgetBefore wsX6_removeRow := goodIn_r _ [19, 7, 13, 14, 20, 21, 22, 23, 24, 25, 26, 27, 28, 29, 30, 31, 32, 33, 34, 35, 36, 37, 38, 39, 40, 41, 42, 43] (by decide +kernel) (by decide +kernel)
set_option maxRecDepth 20000 in
theorem gX9_forgetBefore_X6_removeRow_u15X9 : GoodIn wsX9_forgetBefore (va_wsU RX9 15 RX9 "TicketGate$Table" ⟨"TicketGate$Uses", "removeRow", "(I)V"⟩ yX6_removeRow wsX6_removeRow) := goodIn_app (goodIn_of _ (by decide +kernel)) ggX9_forgetBefore_X6_removeRow
theorem dX9_forgetBefore_0 : decode cX9_forgetBefore 0 = .ok (.aload_n 0, 1) := by decide +kernel
theorem dX9_forgetBefore_1 : decode cX9_forgetBefore 1 = .ok (.invokevirtual 27, 3) := by decide +kernel
theorem dX9_forgetBefore_4 : decode cX9_forgetBefore 4 = .ok (.iconst 1, 1) := by decide +kernel
theorem dX9_forgetBefore_5 : decode cX9_forgetBefore 5 = .ok (.isub, 1) := by decide +kernel
theorem dX9_forgetBefore_6 : decode cX9_forgetBefore 6 = .ok (.istore_n 2, 1) := by decide +kernel
theorem dX9_forgetBefore_7 : decode cX9_forgetBefore 7 = .ok (.iload_n 2, 1) := by decide +kernel
theorem dX9_forgetBefore_8 : decode cX9_forgetBefore 8 = .ok (.ifCond .lt 24, 3) := by decide +kernel
theorem dX9_forgetBefore_11 : decode cX9_forgetBefore 11 = .ok (.aload_n 0, 1) := by decide +kernel
theorem dX9_forgetBefore_12 : decode cX9_forgetBefore 12 = .ok (.iload_n 2, 1) := by decide +kernel
theorem dX9_forgetBefore_13 : decode cX9_forgetBefore 13 = .ok (.iconst 3, 1) := by decide +kernel
theorem dX9_forgetBefore_14 : decode cX9_forgetBefore 14 = .ok (.invokevirtual 30, 3) := by decide +kernel
theorem dX9_forgetBefore_17 : decode cX9_forgetBefore 17 = .ok (.iload_n 1, 1) := by decide +kernel
theorem dX9_forgetBefore_18 : decode cX9_forgetBefore 18 = .ok (.if_icmp .ge 8, 3) := by decide +kernel
theorem dX9_forgetBefore_21 : decode cX9_forgetBefore 21 = .ok (.aload_n 0, 1) := by decide +kernel
theorem dX9_forgetBefore_22 : decode cX9_forgetBefore 22 = .ok (.iload_n 2, 1) := by decide +kernel
theorem dX9_forgetBefore_23 : decode cX9_forgetBefore 23 = .ok (.invokevirtual 15, 3) := by decide +kernel
theorem dX9_forgetBefore_26 : decode cX9_forgetBefore 26 = .ok (.iinc 2 (-1), 3) := by decide +kernel
theorem dX9_forgetBefore_29 : decode cX9_forgetBefore 29 = .ok (.goto (-22), 3) := by decide +kernel
theorem dX9_forgetBefore_32 : decode cX9_forgetBefore 32 = .ok (.return_, 1) := by decide +kernel
set_option maxRecDepth 20000 in
theorem ggX10_init_X6_init : GoodIn wsX10_init wsX6_init := goodIn_r _ [4, 5, 6, 7, 8, 9, 10, 11, 12, 13, 14, 15, 16, 17, 18, 19, 20, 21, 22, 23, 24, 25, 26, 27, 28, 29, 30, 31, 32, 33, 34, 35, 36, 37, 38, 39] (by decide +kernel) (by decide +kernel)
set_option maxRecDepth 20000 in
theorem gX10_init_X6_init : GoodIn wsX10_init (wsX6_init) := ggX10_init_X6_init
theorem dX10_init_0 : decode cX10_init 0 = .ok (.aload_n 0, 1) := by decide +kernel
theorem dX10_init_1 : decode cX10_init 1 = .ok (.iconst 5, 1) := by decide +kernel
theorem dX10_init_2 : decode cX10_init 2 = .ok (.iconst 5, 1) := by decide +kernel
theorem dX10_init_3 : decode cX10_init 3 = .ok (.invokespecial 3, 3) := by decide +kernel
theorem dX10_init_6 : decode cX10_init 6 = .ok (.return_, 1) := by decide +kernel
set_option maxRecDepth 20000 in
theorem ggX10_addDirect_X6_size : GoodIn wsX10_addDirect wsX6_size := goodIn_r _ [6, 7, 31, 32, 33, 34, 35, 36, 37, 38, 39, 40, 41, 42, 43, 44, 45, 46, 47, 48, 49, 50, 51, 52, 53, 54] (by decide +kernel) (by decide +kernel)
set_option maxRecDepth 20000 in
theorem gX10_addDirect_X6_size_u9X2 : GoodIn wsX10_addDirect (va_wsU RX10 9 RX2 "TicketGate$Table" ⟨"TicketGate$Realms", "size", "()I"⟩ yX6_size wsX6_size) := goodIn_app (goodIn_of _ (by decide +kernel)) ggX10_addDirect_X6_size
set_option maxRecDepth 20000 in
theorem ggX10_addDirect_X6_addRow : GoodIn wsX10_addDirect wsX6_addRow := goodIn_r _ [12, 7, 13, 31, 32, 33, 34, 35, 36, 37, 38, 39, 40, 41, 42, 43, 44, 45, 46, 47, 48, 49, 50, 51, 52, 53, 54] (by decide +kernel) (by decide +kernel)
set_option maxRecDepth 20000 in
theorem gX10_addDirect_X6_addRow_u15X10 : GoodIn wsX10_addDirect (va_wsU RX10 15 RX10 "TicketGate$Table" ⟨"TicketGate$Ways", "addRow", "()I"⟩ yX6_addRow wsX6_addRow) := goodIn_app (goodIn_of _ (by decide +kernel)) ggX10_addDirect_X6_addRow
set_option maxRecDepth 20000 in
theorem ggX10_addDirect_X2_hasTrust : GoodIn wsX10_addDirect wsX2_hasTrust := goodIn_r _ [18, 19, 20, 21, 22, 5, 23, 24, 7, 25, 31, 32, 33, 34, 35, 36, 37, 38, 39, 40, 41, 42, 43, 44, 45, 46, 47, 48, 49, 50, 51, 52, 53, 54] (by decide +kernel) (by decide +kernel)
set_option maxRecDepth 20000 in
theorem gX10_addDirect_X2_hasTrust : GoodIn wsX10_addDirect (wsV RX10 20 RX2 yX2_hasTrust wsX2_hasTrust) := goodIn_app (goodIn_of _ (by decide +kernel)) ggX10_addDirect_X2_hasTrust
set_option maxRecDepth 20000 in
theorem ggX10_addDirect_X6_set : GoodIn wsX10_addDirect wsX6_set := goodIn_r _ [30, 24, 7, 25, 31, 32, 33, 34, 35, 36, 37, 38, 39, 40, 41, 42, 43, 44, 45, 46, 47, 48, 49, 50, 51, 52, 53, 54] (by decide +kernel) (by decide +kernel)
set_option maxRecDepth 20000 in
theorem gX10_addDirect_X6_set_u24X10 : GoodIn wsX10_addDirect (va_wsU RX10 24 RX10 "TicketGate$Table" ⟨"TicketGate$Ways", "set", "(III)V"⟩ yX6_set wsX6_set) := goodIn_app (goodIn_of _ (by decide +kernel)) ggX10_addDirect_X6_set
theorem dX10_addDirect_0 : decode cX10_addDirect 0 = .ok (.iconst 0, 1) := by decide +kernel
theorem dX10_addDirect_1 : decode cX10_addDirect 1 = .ok (.istore_n 2, 1) := by decide +kernel
theorem dX10_addDirect_2 : decode cX10_addDirect 2 = .ok (.iload_n 2, 1) := by decide +kernel
theorem dX10_addDirect_3 : decode cX10_addDirect 3 = .ok (.aload_n 1, 1) := by decide +kernel
theorem dX10_addDirect_4 : decode cX10_addDirect 4 = .ok (.invokevirtual 9, 3) := by decide +kernel
theorem dX10_addDirect_7 : decode cX10_addDirect 7 = .ok (.if_icmp .ge 65, 3) := by decide +kernel
theorem dX10_addDirect_10 : decode cX10_addDirect 10 = .ok (.aload_n 0, 1) := by decide +kernel
theorem dX10_addDirect_11 : decode cX10_addDirect 11 = .ok (.invokevirtual 15, 3) := by decide +kernel
theorem dX10_addDirect_14 : decode cX10_addDirect 14 = .ok (.pop, 1) := by decide +kernel
theorem dX10_addDirect_15 : decode cX10_addDirect 15 = .ok (.iconst 0, 1) := by decide +kernel
theorem dX10_addDirect_16 : decode cX10_addDirect 16 = .ok (.istore_n 3, 1) := by decide +kernel
theorem dX10_addDirect_17 : decode cX10_addDirect 17 = .ok (.iload_n 3, 1) := by decide +kernel
theorem dX10_addDirect_18 : decode cX10_addDirect 18 = .ok (.aload_n 1, 1) := by decide +kernel
theorem dX10_addDirect_19 : decode cX10_addDirect 19 = .ok (.invokevirtual 9, 3) := by decide +kernel
theorem dX10_addDirect_22 : decode cX10_addDirect 22 = .ok (.if_icmp .ge 44, 3) := by decide +kernel
theorem dX10_addDirect_25 : decode cX10_addDirect 25 = .ok (.aload_n 1, 1) := by decide +kernel
theorem dX10_addDirect_26 : decode cX10_addDirect 26 = .ok (.iload_n 2, 1) := by decide +kernel
theorem dX10_addDirect_27 : decode cX10_addDirect 27 = .ok (.iload_n 3, 1) := by decide +kernel
theorem dX10_addDirect_28 : decode cX10_addDirect 28 = .ok (.invokevirtual 20, 3) := by decide +kernel
theorem dX10_addDirect_31 : decode cX10_addDirect 31 = .ok (.ifCond .eq 7, 3) := by decide +kernel
theorem dX10_addDirect_34 : decode cX10_addDirect 34 = .ok (.iconst 1, 1) := by decide +kernel
theorem dX10_addDirect_35 : decode cX10_addDirect 35 = .ok (.goto 6, 3) := by decide +kernel
theorem dX10_addDirect_38 : decode cX10_addDirect 38 = .ok (.sipush 1000, 3) := by decide +kernel
theorem dX10_addDirect_41 : decode cX10_addDirect 41 = .ok (.istore 4, 2) := by decide +kernel
theorem dX10_addDirect_43 : decode cX10_addDirect 43 = .ok (.aload_n 0, 1) := by decide +kernel
theorem dX10_addDirect_44 : decode cX10_addDirect 44 = .ok (.iload_n 2, 1) := by decide +kernel
theorem dX10_addDirect_45 : decode cX10_addDirect 45 = .ok (.iload_n 3, 1) := by decide +kernel
theorem dX10_addDirect_46 : decode cX10_addDirect 46 = .ok (.iload_n 2, 1) := by decide +kernel
theorem dX10_addDirect_47 : decode cX10_addDirect 47 = .ok (.iload_n 3, 1) := by decide +kernel
theorem dX10_addDirect_48 : decode cX10_addDirect 48 = .ok (.if_icmp .ne 7, 3) := by decide +kernel
theorem dX10_addDirect_51 : decode cX10_addDirect 51 = .ok (.iconst 0, 1) := by decide +kernel
theorem dX10_addDirect_52 : decode cX10_addDirect 52 = .ok (.goto 5, 3) := by decide +kernel
theorem dX10_addDirect_55 : decode cX10_addDirect 55 = .ok (.iload 4, 2) := by decide +kernel
theorem dX10_addDirect_57 : decode cX10_addDirect 57 = .ok (.invokevirtual 24, 3) := by decide +kernel
theorem dX10_addDirect_60 : decode cX10_addDirect 60 = .ok (.iinc 3 1, 3) := by decide +kernel
theorem dX10_addDirect_63 : decode cX10_addDirect 63 = .ok (.goto (-46), 3) := by decide +kernel
theorem dX10_addDirect_66 : decode cX10_addDirect 66 = .ok (.iinc 2 1, 3) := by decide +kernel
theorem dX10_addDirect_69 : decode cX10_addDirect 69 = .ok (.goto (-67), 3) := by decide +kernel
theorem dX10_addDirect_72 : decode cX10_addDirect 72 = .ok (.return_, 1) := by decide +kernel
set_option maxRecDepth 20000 in
theorem ggX10_goThrough_X6_size : GoodIn wsX10_goThrough wsX6_size := goodIn_r _ [10, 11, 24, 25, 26, 27, 28, 29, 30, 31, 32, 33, 34, 35, 36, 37, 38, 39, 40, 41, 42, 43, 44, 45, 46, 47] (by decide +kernel) (by decide +kernel)
set_option maxRecDepth 20000 in
theorem gX10_goThrough_X6_size_u28X10 : GoodIn wsX10_goThrough (va_wsU RX10 28 RX10 "TicketGate$Table" ⟨"TicketGate$Ways", "size", "()I"⟩ yX6_size wsX6_size) := goodIn_app (goodIn_of _ (by decide +kernel)) ggX10_goThrough_X6_size
set_option maxRecDepth 20000 in
theorem ggX10_goThrough_X6_get : GoodIn wsX10_goThrough wsX6_get := goodIn_r _ [16, 17, 11, 18, 24, 25, 26, 27, 28, 29, 30, 31, 32, 33, 34, 35, 36, 37, 38, 39, 40, 41, 42, 43, 44, 45, 46, 47] (by decide +kernel) (by decide +kernel)
set_option maxRecDepth 20000 in
theorem gX10_goThrough_X6_get_u29X10 : GoodIn wsX10_goThrough (va_wsU RX10 29 RX10 "TicketGate$Table" ⟨"TicketGate$Ways", "get", "(II)I"⟩ yX6_get wsX6_get) := goodIn_app (goodIn_of _ (by decide +kernel)) ggX10_goThrough_X6_get
set_option maxRecDepth 20000 in
theorem ggX10_goThrough_X6_set : GoodIn wsX10_goThrough wsX6_set := goodIn_r _ [23, 17, 11, 18, 24, 25, 26, 27, 28, 29, 30, 31, 32, 33, 34, 35, 36, 37, 38, 39, 40, 41, 42, 43, 44, 45, 46, 47] (by decide +kernel) (by decide +kernel)
set_option maxRecDepth 20000 in
theorem gX10_goThrough_X6_set_u24X10 : GoodIn wsX10_goThrough (va_wsU RX10 24 RX10 "TicketGate$Table" ⟨"TicketGate$Ways", "set", "(III)V"⟩ yX6_set wsX6_set) := goodIn_app (goodIn_of _ (by decide +kernel)) ggX10_goThrough_X6_set
theorem dX10_goThrough_0 : decode cX10_goThrough 0 = .ok (.iconst 0, 1) := by decide +kernel
theorem dX10_goThrough_1 : decode cX10_goThrough 1 = .ok (.istore_n 2, 1) := by decide +kernel
theorem dX10_goThrough_2 : decode cX10_goThrough 2 = .ok (.iload_n 2, 1) := by decide +kernel
theorem dX10_goThrough_3 : decode cX10_goThrough 3 = .ok (.aload_n 0, 1) := by decide +kernel
theorem dX10_goThrough_4 : decode cX10_goThrough 4 = .ok (.invokevirtual 28, 3) := by decide +kernel
theorem dX10_goThrough_7 : decode cX10_goThrough 7 = .ok (.if_icmp .ge 57, 3) := by decide +kernel
theorem dX10_goThrough_10 : decode cX10_goThrough 10 = .ok (.iconst 0, 1) := by decide +kernel
theorem dX10_goThrough_11 : decode cX10_goThrough 11 = .ok (.istore_n 3, 1) := by decide +kernel
theorem dX10_goThrough_12 : decode cX10_goThrough 12 = .ok (.iload_n 3, 1) := by decide +kernel
theorem dX10_goThrough_13 : decode cX10_goThrough 13 = .ok (.aload_n 0, 1) := by decide +kernel
theorem dX10_goThrough_14 : decode cX10_goThrough 14 = .ok (.invokevirtual 28, 3) := by decide +kernel
theorem dX10_goThrough_17 : decode cX10_goThrough 17 = .ok (.if_icmp .ge 41, 3) := by decide +kernel
theorem dX10_goThrough_20 : decode cX10_goThrough 20 = .ok (.aload_n 0, 1) := by decide +kernel
theorem dX10_goThrough_21 : decode cX10_goThrough 21 = .ok (.iload_n 2, 1) := by decide +kernel
theorem dX10_goThrough_22 : decode cX10_goThrough 22 = .ok (.iload_n 1, 1) := by decide +kernel
theorem dX10_goThrough_23 : decode cX10_goThrough 23 = .ok (.invokevirtual 29, 3) := by decide +kernel
theorem dX10_goThrough_26 : decode cX10_goThrough 26 = .ok (.aload_n 0, 1) := by decide +kernel
theorem dX10_goThrough_27 : decode cX10_goThrough 27 = .ok (.iload_n 1, 1) := by decide +kernel
theorem dX10_goThrough_28 : decode cX10_goThrough 28 = .ok (.iload_n 3, 1) := by decide +kernel
theorem dX10_goThrough_29 : decode cX10_goThrough 29 = .ok (.invokevirtual 29, 3) := by decide +kernel
theorem dX10_goThrough_32 : decode cX10_goThrough 32 = .ok (.iadd, 1) := by decide +kernel
theorem dX10_goThrough_33 : decode cX10_goThrough 33 = .ok (.istore 4, 2) := by decide +kernel
theorem dX10_goThrough_35 : decode cX10_goThrough 35 = .ok (.aload_n 0, 1) := by decide +kernel
theorem dX10_goThrough_36 : decode cX10_goThrough 36 = .ok (.iload_n 2, 1) := by decide +kernel
theorem dX10_goThrough_37 : decode cX10_goThrough 37 = .ok (.iload_n 3, 1) := by decide +kernel
theorem dX10_goThrough_38 : decode cX10_goThrough 38 = .ok (.iload 4, 2) := by decide +kernel
theorem dX10_goThrough_40 : decode cX10_goThrough 40 = .ok (.aload_n 0, 1) := by decide +kernel
theorem dX10_goThrough_41 : decode cX10_goThrough 41 = .ok (.iload_n 2, 1) := by decide +kernel
theorem dX10_goThrough_42 : decode cX10_goThrough 42 = .ok (.iload_n 3, 1) := by decide +kernel
theorem dX10_goThrough_43 : decode cX10_goThrough 43 = .ok (.invokevirtual 29, 3) := by decide +kernel
theorem dX10_goThrough_46 : decode cX10_goThrough 46 = .ok (.invokestatic 33, 3) := by decide +kernel
theorem dX10_goThrough_49 : decode cX10_goThrough 49 = .ok (.invokevirtual 24, 3) := by decide +kernel
theorem dX10_goThrough_52 : decode cX10_goThrough 52 = .ok (.iinc 3 1, 3) := by decide +kernel
theorem dX10_goThrough_55 : decode cX10_goThrough 55 = .ok (.goto (-43), 3) := by decide +kernel
theorem dX10_goThrough_58 : decode cX10_goThrough 58 = .ok (.iinc 2 1, 3) := by decide +kernel
theorem dX10_goThrough_61 : decode cX10_goThrough 61 = .ok (.goto (-59), 3) := by decide +kernel
theorem dX10_goThrough_64 : decode cX10_goThrough 64 = .ok (.return_, 1) := by decide +kernel
set_option maxRecDepth 20000 in
theorem ggX10_lengthOf_X6_get : GoodIn wsX10_lengthOf wsX6_get := goodIn_r _ [6, 7, 8, 9, 10, 11, 12, 13, 14, 15, 16, 17, 18, 19, 20, 21, 22, 23, 24, 25, 26, 27, 28, 29, 30, 31, 32, 33] (by decide +kernel) (by decide +kernel)
set_option maxRecDepth 20000 in
theorem gX10_lengthOf_X6_get_u29X10 : GoodIn wsX10_lengthOf (va_wsU RX10 29 RX10 "TicketGate$Table" ⟨"TicketGate$Ways", "get", "(II)I"⟩ yX6_get wsX6_get) := goodIn_app (goodIn_of _ (by decide +kernel)) ggX10_lengthOf_X6_get
theorem dX10_lengthOf_0 : decode cX10_lengthOf 0 = .ok (.aload_n 0, 1) := by decide +kernel
theorem dX10_lengthOf_1 : decode cX10_lengthOf 1 = .ok (.iload_n 1, 1) := by decide +kernel
theorem dX10_lengthOf_2 : decode cX10_lengthOf 2 = .ok (.iload_n 2, 1) := by decide +kernel
theorem dX10_lengthOf_3 : decode cX10_lengthOf 3 = .ok (.invokevirtual 29, 3) := by decide +kernel
theorem dX10_lengthOf_6 : decode cX10_lengthOf 6 = .ok (.istore_n 3, 1) := by decide +kernel
theorem dX10_lengthOf_7 : decode cX10_lengthOf 7 = .ok (.iload_n 3, 1) := by decide +kernel
theorem dX10_lengthOf_8 : decode cX10_lengthOf 8 = .ok (.sipush 1000, 3) := by decide +kernel
theorem dX10_lengthOf_11 : decode cX10_lengthOf 11 = .ok (.if_icmp .lt 7, 3) := by decide +kernel
theorem dX10_lengthOf_14 : decode cX10_lengthOf 14 = .ok (.iconst (-1), 1) := by decide +kernel
theorem dX10_lengthOf_15 : decode cX10_lengthOf 15 = .ok (.goto 4, 3) := by decide +kernel
theorem dX10_lengthOf_18 : decode cX10_lengthOf 18 = .ok (.iload_n 3, 1) := by decide +kernel
theorem dX10_lengthOf_19 : decode cX10_lengthOf 19 = .ok (.ireturn, 1) := by decide +kernel
set_option maxRecDepth 20000 in
theorem ggX11_init_X0_init : GoodIn wsX11_init wsX0_init := goodIn_r _ [24, 25, 2, 3, 26, 27, 28, 29, 30, 31, 591, 592] (by decide +kernel) (by decide +kernel)
set_option maxRecDepth 20000 in
theorem gX11_init_X0_init : GoodIn wsX11_init (wsX0_init) := ggX11_init_X0_init
set_option maxRecDepth 20000 in
theorem ggX11_init_X1_init : GoodIn wsX11_init wsX1_init := goodIn_r _ [34, 35, 2, 3, 36, 14, 15, 37, 38, 39, 40, 41, 42, 43, 44, 45, 46, 47, 48, 49, 50, 51, 52, 53, 54, 55, 56, 57, 58, 59, 60, 61, 62, 63, 64, 65, 66, 67, 68, 69, 70, 71, 72, 73, 27, 28, 29, 30, 74, 75, 76, 77, 78, 79, 80, 81, 82, 83, 84, 85, 86, 87, 88, 89, 90, 609, 610, 611, 612, 613, 614, 615, 616, 617, 618, 601, 602, 603, 604, 605, 606, 607, 608, 620, 621, 622, 623, 624, 625, 626, 627, 628, 629, 630, 631, 632, 633, 634, 635, 636, 637, 638, 639, 640, 641, 642, 643] (by decide +kernel) (by decide +kernel)
set_option maxRecDepth 20000 in
theorem gX11_init_X1_init : GoodIn wsX11_init (wsX1_init) := ggX11_init_X1_init
set_option maxRecDepth 20000 in
theorem ggX11_init_X5_init : GoodIn wsX11_init wsX5_init := goodIn_r _ [41, 42, 2, 3, 43, 44, 45, 46, 47, 48, 49, 50, 51, 52, 53, 54, 55, 56, 57, 58, 59, 60, 61, 62, 63, 64, 65, 66, 67, 68, 69, 70, 71, 72, 73, 27, 28, 29, 30, 74, 75, 76, 77, 78, 79, 80, 81, 82, 83, 84, 85, 86, 87, 88, 89, 90, 620, 621, 622, 623, 609, 610, 611, 612, 613, 614, 615, 616, 617, 618, 624, 625, 626, 627, 628, 629, 630, 631, 632, 633, 634, 635, 636, 637, 638, 639, 640, 641, 642, 643] (by decide +kernel) (by decide +kernel)
set_option maxRecDepth 20000 in
theorem gX11_init_X5_init_n32 : GoodIn wsX11_init (wsX5_init) := ggX11_init_X5_init
set_option maxRecDepth 20000 in
theorem ggX11_init_X4_init : GoodIn wsX11_init wsX4_init := goodIn_r _ [93, 94, 2, 3, 95, 27, 28, 29, 96, 97, 619] (by decide +kernel) (by decide +kernel)
set_option maxRecDepth 20000 in
theorem gX11_init_X4_init : GoodIn wsX11_init (wsX4_init) := ggX11_init_X4_init
set_option maxRecDepth 20000 in
theorem ggX11_init_X0_addText : GoodIn wsX11_init wsX0_addText := goodIn_r _ [101, 102, 103, 104, 105, 106, 107, 108, 109, 110, 111, 112, 113, 114, 115, 116, 117, 118, 119, 120, 121, 122, 123, 124, 125, 126, 127, 128, 129, 130, 131, 132, 133, 134, 135, 136, 137, 138, 139, 140, 141, 142, 143, 144, 145, 146, 147, 148, 149, 150, 151, 152, 153, 6, 154, 155, 31, 591, 592] (by decide +kernel) (by decide +kernel)
set_option maxRecDepth 20000 in
theorem gX11_init_X0_addText : GoodIn wsX11_init (wsV RX11 49 RX0 yX0_addText wsX0_addText) := goodIn_app (goodIn_of _ (by decide +kernel)) ggX11_init_X0_addText
set_option maxRecDepth 20000 in
theorem ggX11_init_X1_run : GoodIn wsX11_init wsX1_run := goodIn_r _ [159, 160, 161, 38, 37, 162, 163, 164, 165, 15, 166, 46, 50, 54, 58, 62, 167, 168, 169, 170, 171, 172, 173, 174, 175, 68, 176, 177, 178, 179, 180, 181, 182, 183, 184, 185, 186, 187, 188, 189, 190, 191, 192, 11, 193, 194, 39, 195, 196, 197, 198, 6, 199, 155, 200, 201, 202, 203, 31, 204, 205, 206, 207, 208, 209, 210, 211, 212, 213, 214, 215, 216, 217, 218, 219, 28, 220, 221, 222, 223, 224, 225, 226, 227, 228, 229, 230, 231, 232, 102, 103, 104, 105, 106, 107, 108, 109, 110, 111, 112, 113, 114, 115, 116, 117, 118, 119, 120, 121, 122, 123, 124, 125, 126, 127, 128, 129, 130, 131, 132, 133, 134, 135, 136, 137, 138, 139, 140, 141, 142, 143, 144, 145, 146, 147, 148, 149, 150, 233, 234, 235, 236, 237, 238, 239, 240, 241, 242, 243, 244, 245, 246, 247, 248, 249, 250, 251, 252, 253, 254, 255, 256, 257, 71, 258, 259, 260, 261, 262, 263, 264, 265, 266, 267, 268, 269, 270, 271, 272, 273, 274, 275, 72, 74, 276, 277, 278, 279, 280, 281, 282, 283, 284, 285, 286, 287, 288, 289, 290, 291, 292, 293, 45, 294, 295, 296, 297, 298, 299, 300, 301, 302, 303, 304, 305, 306, 307, 308, 309, 310, 311, 312, 313, 314, 315, 316, 317, 318, 319, 320, 321, 322, 323, 324, 325, 326, 327, 328, 329, 330, 331, 332, 333, 334, 335, 336, 337, 338, 339, 340, 341, 342, 49, 343, 344, 345, 346, 347, 348, 349, 350, 351, 352, 353, 354, 355, 356, 357, 358, 359, 53, 360, 361, 362, 363, 364, 365, 366, 367, 368, 369, 370, 371, 372, 373, 374, 375, 376, 377, 378, 379, 380, 381, 382, 383, 384, 385, 386, 387, 388, 389, 390, 391, 392, 393, 394, 395, 396, 397, 398, 399, 400, 401, 402, 403, 404, 405, 406, 407, 408, 409, 410, 411, 412, 413, 27, 29, 414, 415, 416, 417, 418, 419, 420, 421, 422, 423, 424, 425, 426, 427, 428, 429, 430, 431, 432, 433, 434, 57, 435, 436, 437, 438, 439, 440, 441, 442, 443, 444, 445, 446, 447, 448, 449, 450, 451, 452, 453, 454, 455, 456, 457, 458, 459, 460, 461, 462, 463, 464, 465, 466, 467, 468, 469, 470, 471, 472, 473, 474, 475, 476, 477, 478, 479, 480, 481, 482, 483, 484, 485, 486, 487, 488, 489, 490, 491, 492, 493, 494, 495, 61, 496, 497, 498, 499, 500, 501, 502, 503, 504, 505, 506, 507, 508, 509, 510, 511, 512, 513, 514, 515, 516, 517, 518, 519, 520, 521, 522, 523, 524, 525, 526, 527, 528, 529, 530, 531, 532, 533, 534, 535, 536, 537, 538, 539, 540, 541, 542, 543, 544, 545, 546, 547, 548, 549, 550, 551, 552, 553, 554, 555, 556, 557, 558, 559, 560, 601, 602, 603, 604, 605, 606, 607, 608, 609, 610, 611, 612, 613, 614, 615, 616, 617, 618, 620, 621, 622, 623, 628, 629, 630, 631, 632, 633, 634, 635, 624, 625, 626, 627, 636, 637, 638, 639, 640, 641, 642, 643, 591, 592] (by decide +kernel) (by decide +kernel)
set_option maxRecDepth 20000 in
theorem gX11_init_X1_run : GoodIn wsX11_init (wsV RX11 61 RX1 yX1_run wsX1_run) := goodIn_app (goodIn_of _ (by decide +kernel)) ggX11_init_X1_run
set_option maxRecDepth 20000 in
theorem ggX11_init_X5_copyFrom : GoodIn wsX11_init wsX5_copyFrom := goodIn_r _ [564, 46, 50, 54, 58, 62, 167, 168, 169, 170, 171, 565, 566, 567, 568, 68, 569, 74, 570, 219, 28, 220, 571, 572, 573, 574, 177, 575, 576, 577, 578, 579, 580, 581, 582, 583, 584, 585, 586, 609, 610, 611, 612, 613, 614, 615, 616, 617, 618, 620, 621, 622, 623, 628, 629, 630, 631, 632, 633, 634, 635, 624, 625, 626, 627, 636, 637, 638, 639, 640, 641, 642, 643] (by decide +kernel) (by decide +kernel)
set_option maxRecDepth 20000 in
theorem gX11_init_X5_copyFrom : GoodIn wsX11_init (wsV RX11 68 RX5 yX5_copyFrom wsX5_copyFrom) := goodIn_app (goodIn_of _ (by decide +kernel)) ggX11_init_X5_copyFrom
set_option maxRecDepth 20000 in
theorem ggX11_init_X0_cut : GoodIn wsX11_init wsX0_cut := goodIn_r _ [590, 155, 591, 592] (by decide +kernel) (by decide +kernel)
set_option maxRecDepth 20000 in
theorem gX11_init_X0_cut : GoodIn wsX11_init (wsV RX11 72 RX0 yX0_cut wsX0_cut) := goodIn_app (goodIn_of _ (by decide +kernel)) ggX11_init_X0_cut
theorem dX11_init_0 : decode cX11_init 0 = .ok (.aload_n 0, 1) := by decide +kernel
theorem dX11_init_1 : decode cX11_init 1 = .ok (.invokespecial 1, 3) := by decide +kernel
theorem dX11_init_4 : decode cX11_init 4 = .ok (.aload_n 0, 1) := by decide +kernel
theorem dX11_init_5 : decode cX11_init 5 = .ok (.new 7, 3) := by decide +kernel
theorem dX11_init_8 : decode cX11_init 8 = .ok (.dup, 1) := by decide +kernel
theorem dX11_init_9 : decode cX11_init 9 = .ok (.sipush 600, 3) := by decide +kernel
theorem dX11_init_12 : decode cX11_init 12 = .ok (.invokespecial 11, 3) := by decide +kernel
theorem dX11_init_15 : decode cX11_init 15 = .ok (.putfield 14, 3) := by decide +kernel
theorem dX11_init_18 : decode cX11_init 18 = .ok (.aload_n 0, 1) := by decide +kernel
theorem dX11_init_19 : decode cX11_init 19 = .ok (.new 7, 3) := by decide +kernel
theorem dX11_init_22 : decode cX11_init 22 = .ok (.dup, 1) := by decide +kernel
theorem dX11_init_23 : decode cX11_init 23 = .ok (.bipush 64, 2) := by decide +kernel
theorem dX11_init_25 : decode cX11_init 25 = .ok (.invokespecial 11, 3) := by decide +kernel
theorem dX11_init_28 : decode cX11_init 28 = .ok (.putfield 18, 3) := by decide +kernel
theorem dX11_init_31 : decode cX11_init 31 = .ok (.aload_n 0, 1) := by decide +kernel
theorem dX11_init_32 : decode cX11_init 32 = .ok (.new 21, 3) := by decide +kernel
theorem dX11_init_35 : decode cX11_init 35 = .ok (.dup, 1) := by decide +kernel
theorem dX11_init_36 : decode cX11_init 36 = .ok (.aload_n 0, 1) := by decide +kernel
theorem dX11_init_37 : decode cX11_init 37 = .ok (.getfield 14, 3) := by decide +kernel
theorem dX11_init_40 : decode cX11_init 40 = .ok (.invokespecial 23, 3) := by decide +kernel
theorem dX11_init_43 : decode cX11_init 43 = .ok (.putfield 26, 3) := by decide +kernel
theorem dX11_init_46 : decode cX11_init 46 = .ok (.aload_n 0, 1) := by decide +kernel
theorem dX11_init_47 : decode cX11_init 47 = .ok (.new 30, 3) := by decide +kernel
theorem dX11_init_50 : decode cX11_init 50 = .ok (.dup, 1) := by decide +kernel
theorem dX11_init_51 : decode cX11_init 51 = .ok (.invokespecial 32, 3) := by decide +kernel
theorem dX11_init_54 : decode cX11_init 54 = .ok (.putfield 33, 3) := by decide +kernel
theorem dX11_init_57 : decode cX11_init 57 = .ok (.aload_n 0, 1) := by decide +kernel
theorem dX11_init_58 : decode cX11_init 58 = .ok (.new 37, 3) := by decide +kernel
theorem dX11_init_61 : decode cX11_init 61 = .ok (.dup, 1) := by decide +kernel
theorem dX11_init_62 : decode cX11_init 62 = .ok (.iconst 2, 1) := by decide +kernel
theorem dX11_init_63 : decode cX11_init 63 = .ok (.invokespecial 39, 3) := by decide +kernel
theorem dX11_init_66 : decode cX11_init 66 = .ok (.putfield 40, 3) := by decide +kernel
theorem dX11_init_69 : decode cX11_init 69 = .ok (.aload_n 0, 1) := by decide +kernel
theorem dX11_init_70 : decode cX11_init 70 = .ok (.new 37, 3) := by decide +kernel
theorem dX11_init_73 : decode cX11_init 73 = .ok (.dup, 1) := by decide +kernel
theorem dX11_init_74 : decode cX11_init 74 = .ok (.bipush 8, 2) := by decide +kernel
theorem dX11_init_76 : decode cX11_init 76 = .ok (.invokespecial 39, 3) := by decide +kernel
theorem dX11_init_79 : decode cX11_init 79 = .ok (.putfield 44, 3) := by decide +kernel
theorem dX11_init_82 : decode cX11_init 82 = .ok (.aload_n 0, 1) := by decide +kernel
theorem dX11_init_83 : decode cX11_init 83 = .ok (.getfield 14, 3) := by decide +kernel
theorem dX11_init_86 : decode cX11_init 86 = .ok (.ldc 47, 2) := by decide +kernel
theorem dX11_init_88 : decode cX11_init 88 = .ok (.invokevirtual 49, 3) := by decide +kernel
theorem dX11_init_91 : decode cX11_init 91 = .ok (.aload_n 0, 1) := by decide +kernel
theorem dX11_init_92 : decode cX11_init 92 = .ok (.getfield 14, 3) := by decide +kernel
theorem dX11_init_95 : decode cX11_init 95 = .ok (.ldc 53, 2) := by decide +kernel
theorem dX11_init_97 : decode cX11_init 97 = .ok (.invokevirtual 49, 3) := by decide +kernel
theorem dX11_init_100 : decode cX11_init 100 = .ok (.aload_n 0, 1) := by decide +kernel
theorem dX11_init_101 : decode cX11_init 101 = .ok (.getfield 14, 3) := by decide +kernel
theorem dX11_init_104 : decode cX11_init 104 = .ok (.ldc 55, 2) := by decide +kernel
theorem dX11_init_106 : decode cX11_init 106 = .ok (.invokevirtual 49, 3) := by decide +kernel
theorem dX11_init_109 : decode cX11_init 109 = .ok (.aload_n 0, 1) := by decide +kernel
theorem dX11_init_110 : decode cX11_init 110 = .ok (.getfield 14, 3) := by decide +kernel
theorem dX11_init_113 : decode cX11_init 113 = .ok (.ldc 57, 2) := by decide +kernel
theorem dX11_init_115 : decode cX11_init 115 = .ok (.invokevirtual 49, 3) := by decide +kernel
theorem dX11_init_118 : decode cX11_init 118 = .ok (.aload_n 0, 1) := by decide +kernel
theorem dX11_init_119 : decode cX11_init 119 = .ok (.getfield 14, 3) := by decide +kernel
theorem dX11_init_122 : decode cX11_init 122 = .ok (.ldc 59, 2) := by decide +kernel
theorem dX11_init_124 : decode cX11_init 124 = .ok (.invokevirtual 49, 3) := by decide +kernel
theorem dX11_init_127 : decode cX11_init 127 = .ok (.aload_n 0, 1) := by decide +kernel
theorem dX11_init_128 : decode cX11_init 128 = .ok (.getfield 26, 3) := by decide +kernel
theorem dX11_init_131 : decode cX11_init 131 = .ok (.invokevirtual 61, 3) := by decide +kernel
theorem dX11_init_134 : decode cX11_init 134 = .ok (.pop, 1) := by decide +kernel
theorem dX11_init_135 : decode cX11_init 135 = .ok (.aload_n 0, 1) := by decide +kernel
theorem dX11_init_136 : decode cX11_init 136 = .ok (.getfield 33, 3) := by decide +kernel
theorem dX11_init_139 : decode cX11_init 139 = .ok (.aload_n 0, 1) := by decide +kernel
theorem dX11_init_140 : decode cX11_init 140 = .ok (.getfield 26, 3) := by decide +kernel
theorem dX11_init_143 : decode cX11_init 143 = .ok (.getfield 65, 3) := by decide +kernel
theorem dX11_init_146 : decode cX11_init 146 = .ok (.invokevirtual 68, 3) := by decide +kernel
theorem dX11_init_149 : decode cX11_init 149 = .ok (.aload_n 0, 1) := by decide +kernel
theorem dX11_init_150 : decode cX11_init 150 = .ok (.getfield 14, 3) := by decide +kernel
theorem dX11_init_153 : decode cX11_init 153 = .ok (.iconst 0, 1) := by decide +kernel
theorem dX11_init_154 : decode cX11_init 154 = .ok (.invokevirtual 72, 3) := by decide +kernel
theorem dX11_init_157 : decode cX11_init 157 = .ok (.return_, 1) := by decide +kernel
set_option maxRecDepth 20000 in
theorem ggX11_appendInput_X0_size : GoodIn wsX11_appendInput wsX0_size := goodIn_r _ [8, 9, 27, 28] (by decide +kernel) (by decide +kernel)
set_option maxRecDepth 20000 in
theorem gX11_appendInput_X0_size : GoodIn wsX11_appendInput (wsV RX11 75 RX0 yX0_size wsX0_size) := goodIn_app (goodIn_of _ (by decide +kernel)) ggX11_appendInput_X0_size
set_option maxRecDepth 20000 in
theorem ggX11_appendInput_X0_addFour : GoodIn wsX11_appendInput wsX0_addFour := goodIn_r _ [13, 14, 15, 16, 7, 17, 9, 18, 27, 28] (by decide +kernel) (by decide +kernel)
set_option maxRecDepth 20000 in
theorem gX11_appendInput_X0_addFour : GoodIn wsX11_appendInput (wsV RX11 85 RX0 yX0_addFour wsX0_addFour) := goodIn_app (goodIn_of _ (by decide +kernel)) ggX11_appendInput_X0_addFour
theorem dX11_appendInput_0 : decode cX11_appendInput 0 = .ok (.aload_n 0, 1) := by decide +kernel
theorem dX11_appendInput_1 : decode cX11_appendInput 1 = .ok (.getfield 14, 3) := by decide +kernel
theorem dX11_appendInput_4 : decode cX11_appendInput 4 = .ok (.invokevirtual 75, 3) := by decide +kernel
theorem dX11_appendInput_7 : decode cX11_appendInput 7 = .ok (.bipush 20, 2) := by decide +kernel
theorem dX11_appendInput_9 : decode cX11_appendInput 9 = .ok (.iadd, 1) := by decide +kernel
theorem dX11_appendInput_10 : decode cX11_appendInput 10 = .ok (.sipush 600, 3) := by decide +kernel
theorem dX11_appendInput_13 : decode cX11_appendInput 13 = .ok (.if_icmp .le 13, 3) := by decide +kernel
theorem dX11_appendInput_16 : decode cX11_appendInput 16 = .ok (.new 79, 3) := by decide +kernel
theorem dX11_appendInput_19 : decode cX11_appendInput 19 = .ok (.dup, 1) := by decide +kernel
theorem dX11_appendInput_20 : decode cX11_appendInput 20 = .ok (.ldc 81, 2) := by decide +kernel
theorem dX11_appendInput_22 : decode cX11_appendInput 22 = .ok (.invokespecial 83, 3) := by decide +kernel
theorem dX11_appendInput_25 : decode cX11_appendInput 25 = .ok (.athrow, 1) := by decide +kernel
theorem dX11_appendInput_26 : decode cX11_appendInput 26 = .ok (.aload_n 0, 1) := by decide +kernel
theorem dX11_appendInput_27 : decode cX11_appendInput 27 = .ok (.getfield 14, 3) := by decide +kernel
theorem dX11_appendInput_30 : decode cX11_appendInput 30 = .ok (.iload_n 1, 1) := by decide +kernel
theorem dX11_appendInput_31 : decode cX11_appendInput 31 = .ok (.invokevirtual 85, 3) := by decide +kernel
theorem dX11_appendInput_34 : decode cX11_appendInput 34 = .ok (.aload_n 0, 1) := by decide +kernel
theorem dX11_appendInput_35 : decode cX11_appendInput 35 = .ok (.getfield 14, 3) := by decide +kernel
theorem dX11_appendInput_38 : decode cX11_appendInput 38 = .ok (.iload_n 2, 1) := by decide +kernel
theorem dX11_appendInput_39 : decode cX11_appendInput 39 = .ok (.invokevirtual 85, 3) := by decide +kernel
theorem dX11_appendInput_42 : decode cX11_appendInput 42 = .ok (.aload_n 0, 1) := by decide +kernel
theorem dX11_appendInput_43 : decode cX11_appendInput 43 = .ok (.getfield 14, 3) := by decide +kernel
theorem dX11_appendInput_46 : decode cX11_appendInput 46 = .ok (.iload_n 3, 1) := by decide +kernel
theorem dX11_appendInput_47 : decode cX11_appendInput 47 = .ok (.invokevirtual 85, 3) := by decide +kernel
theorem dX11_appendInput_50 : decode cX11_appendInput 50 = .ok (.aload_n 0, 1) := by decide +kernel
theorem dX11_appendInput_51 : decode cX11_appendInput 51 = .ok (.getfield 14, 3) := by decide +kernel
theorem dX11_appendInput_54 : decode cX11_appendInput 54 = .ok (.iload 4, 2) := by decide +kernel
theorem dX11_appendInput_56 : decode cX11_appendInput 56 = .ok (.invokevirtual 85, 3) := by decide +kernel
theorem dX11_appendInput_59 : decode cX11_appendInput 59 = .ok (.aload_n 0, 1) := by decide +kernel
theorem dX11_appendInput_60 : decode cX11_appendInput 60 = .ok (.getfield 14, 3) := by decide +kernel
theorem dX11_appendInput_63 : decode cX11_appendInput 63 = .ok (.iload 5, 2) := by decide +kernel
theorem dX11_appendInput_65 : decode cX11_appendInput 65 = .ok (.invokevirtual 85, 3) := by decide +kernel
theorem dX11_appendInput_68 : decode cX11_appendInput 68 = .ok (.aload_n 0, 1) := by decide +kernel
theorem dX11_appendInput_69 : decode cX11_appendInput 69 = .ok (.getfield 14, 3) := by decide +kernel
theorem dX11_appendInput_72 : decode cX11_appendInput 72 = .ok (.invokevirtual 75, 3) := by decide +kernel
theorem dX11_appendInput_75 : decode cX11_appendInput 75 = .ok (.ireturn, 1) := by decide +kernel
set_option maxRecDepth 20000 in
theorem ggX11_truncateInput_X0_size : GoodIn wsX11_truncateInput wsX0_size := goodIn_r _ [8, 9, 22, 23] (by decide +kernel) (by decide +kernel)
set_option maxRecDepth 20000 in
theorem gX11_truncateInput_X0_size : GoodIn wsX11_truncateInput (wsV RX11 75 RX0 yX0_size wsX0_size) := goodIn_app (goodIn_of _ (by decide +kernel)) ggX11_truncateInput_X0_size
set_option maxRecDepth 20000 in
theorem ggX11_truncateInput_X0_cut : GoodIn wsX11_truncateInput wsX0_cut := goodIn_r _ [13, 9, 22, 23] (by decide +kernel) (by decide +kernel)
set_option maxRecDepth 20000 in
theorem gX11_truncateInput_X0_cut : GoodIn wsX11_truncateInput (wsV RX11 72 RX0 yX0_cut wsX0_cut) := goodIn_app (goodIn_of _ (by decide +kernel)) ggX11_truncateInput_X0_cut
theorem dX11_truncateInput_0 : decode cX11_truncateInput 0 = .ok (.iload_n 1, 1) := by decide +kernel
theorem dX11_truncateInput_1 : decode cX11_truncateInput 1 = .ok (.ifCond .lt 14, 3) := by decide +kernel
theorem dX11_truncateInput_4 : decode cX11_truncateInput 4 = .ok (.iload_n 1, 1) := by decide +kernel
theorem dX11_truncateInput_5 : decode cX11_truncateInput 5 = .ok (.aload_n 0, 1) := by decide +kernel
theorem dX11_truncateInput_6 : decode cX11_truncateInput 6 = .ok (.getfield 14, 3) := by decide +kernel
theorem dX11_truncateInput_9 : decode cX11_truncateInput 9 = .ok (.invokevirtual 75, 3) := by decide +kernel
theorem dX11_truncateInput_12 : decode cX11_truncateInput 12 = .ok (.if_icmp .le 13, 3) := by decide +kernel
theorem dX11_truncateInput_15 : decode cX11_truncateInput 15 = .ok (.new 88, 3) := by decide +kernel
theorem dX11_truncateInput_18 : decode cX11_truncateInput 18 = .ok (.dup, 1) := by decide +kernel
theorem dX11_truncateInput_19 : decode cX11_truncateInput 19 = .ok (.ldc 90, 2) := by decide +kernel
theorem dX11_truncateInput_21 : decode cX11_truncateInput 21 = .ok (.invokespecial 92, 3) := by decide +kernel
theorem dX11_truncateInput_24 : decode cX11_truncateInput 24 = .ok (.athrow, 1) := by decide +kernel
theorem dX11_truncateInput_25 : decode cX11_truncateInput 25 = .ok (.aload_n 0, 1) := by decide +kernel
theorem dX11_truncateInput_26 : decode cX11_truncateInput 26 = .ok (.getfield 14, 3) := by decide +kernel
theorem dX11_truncateInput_29 : decode cX11_truncateInput 29 = .ok (.iload_n 1, 1) := by decide +kernel
theorem dX11_truncateInput_30 : decode cX11_truncateInput 30 = .ok (.invokevirtual 72, 3) := by decide +kernel
theorem dX11_truncateInput_33 : decode cX11_truncateInput 33 = .ok (.iload_n 1, 1) := by decide +kernel
theorem dX11_truncateInput_34 : decode cX11_truncateInput 34 = .ok (.ireturn, 1) := by decide +kernel
set_option maxRecDepth 20000 in
theorem ggX11_load_X1_run : GoodIn wsX11_load wsX1_run := goodIn_r _ [10, 11, 12, 13, 14, 15, 16, 17, 18, 19, 20, 21, 22, 23, 24, 25, 26, 27, 28, 29, 30, 31, 32, 33, 34, 35, 36, 37, 38, 39, 40, 41, 42, 43, 44, 45, 46, 47, 48, 49, 50, 51, 52, 9, 53, 54, 55, 56, 57, 58, 59, 60, 61, 62, 63, 64, 65, 66, 67, 68, 69, 70, 71, 72, 73, 74, 75, 76, 77, 78, 79, 80, 81, 82, 83, 84, 85, 86, 87, 88, 89, 90, 91, 92, 93, 94, 95, 96, 97, 98, 99, 100, 101, 102, 103, 104, 105, 106, 107, 108, 109, 110, 111, 112, 113, 114, 115, 116, 117, 118, 119, 120, 121, 122, 123, 124, 125, 126, 127, 128, 129, 130, 131, 132, 133, 134, 135, 136, 137, 138, 139, 140, 141, 142, 143, 144, 145, 146, 147, 148, 149, 150, 151, 152, 153, 154, 155, 156, 157, 158, 159, 160, 161, 162, 163, 164, 165, 166, 167, 168, 169, 170, 171, 172, 173, 174, 175, 176, 177, 178, 179, 180, 181, 182, 183, 184, 185, 186, 187, 188, 189, 190, 191, 192, 193, 194, 195, 196, 197, 198, 199, 200, 201, 202, 203, 204, 205, 206, 207, 208, 209, 210, 211, 212, 213, 214, 215, 216, 217, 218, 219, 220, 221, 222, 223, 224, 225, 226, 227, 228, 229, 230, 231, 232, 233, 234, 235, 236, 237, 238, 239, 240, 241, 242, 243, 244, 245, 246, 247, 248, 249, 250, 251, 252, 253, 254, 255, 256, 257, 258, 259, 260, 261, 262, 263, 264, 265, 266, 267, 268, 269, 270, 271, 272, 273, 274, 275, 276, 277, 278, 279, 280, 281, 282, 283, 284, 285, 286, 287, 288, 289, 290, 291, 292, 293, 294, 295, 296, 297, 298, 299, 300, 301, 302, 303, 304, 305, 306, 307, 308, 309, 310, 311, 312, 313, 314, 315, 316, 317, 318, 319, 320, 321, 322, 323, 324, 325, 326, 327, 328, 329, 330, 331, 332, 333, 334, 335, 336, 337, 338, 339, 340, 341, 342, 343, 344, 345, 346, 347, 348, 349, 350, 351, 352, 353, 354, 355, 356, 357, 358, 359, 360, 361, 362, 363, 364, 365, 366, 367, 368, 369, 370, 371, 372, 373, 374, 375, 376, 377, 378, 379, 380, 381, 382, 383, 384, 385, 386, 387, 388, 389, 390, 391, 392, 393, 394, 395, 396, 397, 398, 399, 400, 401, 402, 403, 404, 405, 406, 407, 408, 409, 410, 411, 412, 413, 414, 415, 416, 417, 418, 419, 420, 421, 422, 423, 424, 425, 426, 427, 428, 429, 430, 431, 432, 433, 434, 435, 436, 437, 438, 439, 440, 441, 442, 443, 444, 445, 446, 447, 448, 449, 450, 451, 452, 453, 454, 455, 456, 457, 458, 459, 460, 461, 462, 463, 464, 465, 466, 467, 468, 469, 470, 471, 472, 473, 474, 475, 476, 477, 478, 479, 480, 481, 482, 483, 484, 582, 583, 584, 585, 586, 587, 588, 589, 590, 591, 592, 593, 594, 595, 596, 597, 598, 599, 600, 601, 602, 603, 604, 605, 606, 607, 608, 609, 610, 611, 612, 613, 614, 615, 616, 617, 618, 619, 620, 621, 622, 623, 624, 625] (by decide +kernel) (by decide +kernel)
set_option maxRecDepth 20000 in
theorem gX11_load_X1_run : GoodIn wsX11_load (wsV RX11 61 RX1 yX1_run wsX1_run) := goodIn_app (goodIn_of _ (by decide +kernel)) ggX11_load_X1_run
set_option maxRecDepth 20000 in
theorem ggX11_load_X0_cut : GoodIn wsX11_load wsX0_cut := goodIn_r _ [488, 62, 624, 625] (by decide +kernel) (by decide +kernel)
set_option maxRecDepth 20000 in
theorem gX11_load_X0_cut : GoodIn wsX11_load (wsV RX11 72 RX0 yX0_cut wsX0_cut) := goodIn_app (goodIn_of _ (by decide +kernel)) ggX11_load_X0_cut
set_option maxRecDepth 20000 in
theorem ggX11_load_X11_remember : GoodIn wsX11_load wsX11_remember := goodIn_r _ [493, 494, 495, 5, 496, 497, 83, 84, 85, 498, 499, 500, 501, 502, 503, 504, 505, 19, 506, 507, 508, 509, 510, 511, 512, 211, 21, 513, 514, 261, 22, 515, 516, 279, 23, 517, 518, 357, 24, 519, 520, 419, 25, 521, 522, 523, 524, 525, 35, 526, 527, 172, 191, 528, 334, 335, 529, 192, 530, 531, 532, 533, 534, 535, 536, 537, 538, 539, 540, 541, 542, 543, 544, 545, 546, 547, 548, 549, 26, 27, 28, 29, 30, 550, 551, 552, 553, 554, 555, 556, 557, 558, 559, 37, 560, 561, 562, 563, 564, 565, 566, 567, 568, 569, 570, 571, 574, 575, 576, 577, 578, 579, 580, 581, 626, 590, 591, 592, 593, 594, 595, 596, 597, 598, 599, 600, 601, 602, 603, 612, 613, 614, 615, 604, 605, 606, 607, 608, 609, 610, 611, 616, 617, 618, 619, 620, 621, 622, 623] (by decide +kernel) (by decide +kernel)
set_option maxRecDepth 20000 in
theorem gX11_load_X11_remember : GoodIn wsX11_load (wsV RX11 95 RX11 yX11_remember wsX11_remember) := goodIn_app (goodIn_of _ (by decide +kernel)) ggX11_load_X11_remember
set_option maxRecDepth 20000 in
theorem ggX11_load_X5_copyFrom : GoodIn wsX11_load wsX5_copyFrom := goodIn_r _ [549, 21, 22, 23, 24, 25, 26, 27, 28, 29, 30, 550, 551, 552, 553, 35, 554, 192, 555, 83, 84, 85, 556, 557, 558, 559, 37, 560, 561, 562, 563, 564, 565, 566, 567, 568, 569, 570, 571, 590, 591, 592, 593, 594, 595, 596, 597, 598, 599, 600, 601, 602, 603, 604, 605, 606, 607, 608, 609, 610, 611, 612, 613, 614, 615, 616, 617, 618, 619, 620, 621, 622, 623] (by decide +kernel) (by decide +kernel)
set_option maxRecDepth 20000 in
theorem gX11_load_X5_copyFrom : GoodIn wsX11_load (wsV RX11 68 RX5 yX5_copyFrom wsX5_copyFrom) := goodIn_app (goodIn_of _ (by decide +kernel)) ggX11_load_X5_copyFrom
set_option maxRecDepth 20000 in
theorem ggX11_load_X6_size : GoodIn wsX11_load wsX6_size := goodIn_r _ [425, 37, 600, 601, 602, 603, 604, 605, 606, 607, 608, 609, 610, 611, 612, 613, 614, 615, 616, 617, 618, 619, 620, 621, 622, 623] (by decide +kernel) (by decide +kernel)
set_option maxRecDepth 20000 in
theorem gX11_load_X6_size_u102X7 : GoodIn wsX11_load (va_wsU RX11 102 RX7 "TicketGate$Table" ⟨"TicketGate$Tickets", "size", "()I"⟩ yX6_size wsX6_size) := goodIn_app (goodIn_of _ (by decide +kernel)) ggX11_load_X6_size
theorem dX11_load_0 : decode cX11_load 0 = .ok (.aload_n 0, 1) := by decide +kernel
theorem dX11_load_1 : decode cX11_load 1 = .ok (.getfield 26, 3) := by decide +kernel
theorem dX11_load_4 : decode cX11_load 4 = .ok (.invokevirtual 61, 3) := by decide +kernel
theorem dX11_load_7 : decode cX11_load 7 = .ok (.istore_n 1, 1) := by decide +kernel
theorem dX11_load_8 : decode cX11_load 8 = .ok (.aload_n 0, 1) := by decide +kernel
theorem dX11_load_9 : decode cX11_load 9 = .ok (.getfield 14, 3) := by decide +kernel
theorem dX11_load_12 : decode cX11_load 12 = .ok (.iconst 0, 1) := by decide +kernel
theorem dX11_load_13 : decode cX11_load 13 = .ok (.invokevirtual 72, 3) := by decide +kernel
theorem dX11_load_16 : decode cX11_load 16 = .ok (.iload_n 1, 1) := by decide +kernel
theorem dX11_load_17 : decode cX11_load 17 = .ok (.ifCond .ne 13, 3) := by decide +kernel
theorem dX11_load_20 : decode cX11_load 20 = .ok (.new 88, 3) := by decide +kernel
theorem dX11_load_23 : decode cX11_load 23 = .ok (.dup, 1) := by decide +kernel
theorem dX11_load_24 : decode cX11_load 24 = .ok (.ldc 93, 2) := by decide +kernel
theorem dX11_load_26 : decode cX11_load 26 = .ok (.invokespecial 92, 3) := by decide +kernel
theorem dX11_load_29 : decode cX11_load 29 = .ok (.athrow, 1) := by decide +kernel
theorem dX11_load_30 : decode cX11_load 30 = .ok (.aload_n 0, 1) := by decide +kernel
theorem dX11_load_31 : decode cX11_load 31 = .ok (.invokevirtual 95, 3) := by decide +kernel
theorem dX11_load_34 : decode cX11_load 34 = .ok (.aload_n 0, 1) := by decide +kernel
theorem dX11_load_35 : decode cX11_load 35 = .ok (.getfield 33, 3) := by decide +kernel
theorem dX11_load_38 : decode cX11_load 38 = .ok (.aload_n 0, 1) := by decide +kernel
theorem dX11_load_39 : decode cX11_load 39 = .ok (.getfield 26, 3) := by decide +kernel
theorem dX11_load_42 : decode cX11_load 42 = .ok (.getfield 65, 3) := by decide +kernel
theorem dX11_load_45 : decode cX11_load 45 = .ok (.invokevirtual 68, 3) := by decide +kernel
theorem dX11_load_48 : decode cX11_load 48 = .ok (.aload_n 0, 1) := by decide +kernel
theorem dX11_load_49 : decode cX11_load 49 = .ok (.getfield 33, 3) := by decide +kernel
theorem dX11_load_52 : decode cX11_load 52 = .ok (.getfield 98, 3) := by decide +kernel
theorem dX11_load_55 : decode cX11_load 55 = .ok (.invokevirtual 102, 3) := by decide +kernel
theorem dX11_load_58 : decode cX11_load 58 = .ok (.ireturn, 1) := by decide +kernel
theorem dX11_errorCode_0 : decode cX11_errorCode 0 = .ok (.aload_n 0, 1) := by decide +kernel
theorem dX11_errorCode_1 : decode cX11_errorCode 1 = .ok (.getfield 26, 3) := by decide +kernel
theorem dX11_errorCode_4 : decode cX11_errorCode 4 = .ok (.getfield 105, 3) := by decide +kernel
theorem dX11_errorCode_7 : decode cX11_errorCode 7 = .ok (.ireturn, 1) := by decide +kernel
theorem dX11_errorPosition_0 : decode cX11_errorPosition 0 = .ok (.aload_n 0, 1) := by decide +kernel
theorem dX11_errorPosition_1 : decode cX11_errorPosition 1 = .ok (.getfield 26, 3) := by decide +kernel
theorem dX11_errorPosition_4 : decode cX11_errorPosition 4 = .ok (.getfield 109, 3) := by decide +kernel
theorem dX11_errorPosition_7 : decode cX11_errorPosition 7 = .ok (.ireturn, 1) := by decide +kernel
theorem dX11_time_0 : decode cX11_time 0 = .ok (.aload_n 0, 1) := by decide +kernel
theorem dX11_time_1 : decode cX11_time 1 = .ok (.getfield 33, 3) := by decide +kernel
theorem dX11_time_4 : decode cX11_time 4 = .ok (.getfield 112, 3) := by decide +kernel
theorem dX11_time_7 : decode cX11_time 7 = .ok (.ireturn, 1) := by decide +kernel
theorem dX11_seed_0 : decode cX11_seed 0 = .ok (.aload_n 0, 1) := by decide +kernel
theorem dX11_seed_1 : decode cX11_seed 1 = .ok (.getfield 33, 3) := by decide +kernel
theorem dX11_seed_4 : decode cX11_seed 4 = .ok (.getfield 115, 3) := by decide +kernel
theorem dX11_seed_7 : decode cX11_seed 7 = .ok (.ireturn, 1) := by decide +kernel
set_option maxRecDepth 20000 in
theorem ggX11_realmCount_X6_size : GoodIn wsX11_realmCount wsX6_size := goodIn_r _ [7, 8, 27, 28, 29, 30, 31, 32, 33, 34, 35, 36, 37, 38, 39, 40, 41, 42, 43, 44, 45, 46, 47, 48, 49, 50] (by decide +kernel) (by decide +kernel)
set_option maxRecDepth 20000 in
theorem gX11_realmCount_X6_size_u122X2 : GoodIn wsX11_realmCount (va_wsU RX11 122 RX2 "TicketGate$Table" ⟨"TicketGate$Realms", "size", "()I"⟩ yX6_size wsX6_size) := goodIn_app (goodIn_of _ (by decide +kernel)) ggX11_realmCount_X6_size
theorem dX11_realmCount_0 : decode cX11_realmCount 0 = .ok (.aload_n 0, 1) := by decide +kernel
theorem dX11_realmCount_1 : decode cX11_realmCount 1 = .ok (.getfield 33, 3) := by decide +kernel
theorem dX11_realmCount_4 : decode cX11_realmCount 4 = .ok (.getfield 118, 3) := by decide +kernel
theorem dX11_realmCount_7 : decode cX11_realmCount 7 = .ok (.invokevirtual 122, 3) := by decide +kernel
theorem dX11_realmCount_10 : decode cX11_realmCount 10 = .ok (.ireturn, 1) := by decide +kernel
set_option maxRecDepth 20000 in
theorem ggX11_userCount_X6_size : GoodIn wsX11_userCount wsX6_size := goodIn_r _ [7, 8, 27, 28, 29, 30, 31, 32, 33, 34, 35, 36, 37, 38, 39, 40, 41, 42, 43, 44, 45, 46, 47, 48, 49, 50] (by decide +kernel) (by decide +kernel)
set_option maxRecDepth 20000 in
theorem gX11_userCount_X6_size_u129X8 : GoodIn wsX11_userCount (va_wsU RX11 129 RX8 "TicketGate$Table" ⟨"TicketGate$Users", "size", "()I"⟩ yX6_size wsX6_size) := goodIn_app (goodIn_of _ (by decide +kernel)) ggX11_userCount_X6_size
theorem dX11_userCount_0 : decode cX11_userCount 0 = .ok (.aload_n 0, 1) := by decide +kernel
theorem dX11_userCount_1 : decode cX11_userCount 1 = .ok (.getfield 33, 3) := by decide +kernel
theorem dX11_userCount_4 : decode cX11_userCount 4 = .ok (.getfield 125, 3) := by decide +kernel
theorem dX11_userCount_7 : decode cX11_userCount 7 = .ok (.invokevirtual 129, 3) := by decide +kernel
theorem dX11_userCount_10 : decode cX11_userCount 10 = .ok (.ireturn, 1) := by decide +kernel
set_option maxRecDepth 20000 in
theorem ggX11_serviceCount_X6_size : GoodIn wsX11_serviceCount wsX6_size := goodIn_r _ [7, 8, 27, 28, 29, 30, 31, 32, 33, 34, 35, 36, 37, 38, 39, 40, 41, 42, 43, 44, 45, 46, 47, 48, 49, 50] (by decide +kernel) (by decide +kernel)
set_option maxRecDepth 20000 in
theorem gX11_serviceCount_X6_size_u136X3 : GoodIn wsX11_serviceCount (va_wsU RX11 136 RX3 "TicketGate$Table" ⟨"TicketGate$Services", "size", "()I"⟩ yX6_size wsX6_size) := goodIn_app (goodIn_of _ (by decide +kernel)) ggX11_serviceCount_X6_size
theorem dX11_serviceCount_0 : decode cX11_serviceCount 0 = .ok (.aload_n 0, 1) := by decide +kernel
theorem dX11_serviceCount_1 : decode cX11_serviceCount 1 = .ok (.getfield 33, 3) := by decide +kernel
theorem dX11_serviceCount_4 : decode cX11_serviceCount 4 = .ok (.getfield 132, 3) := by decide +kernel
theorem dX11_serviceCount_7 : decode cX11_serviceCount 7 = .ok (.invokevirtual 136, 3) := by decide +kernel
theorem dX11_serviceCount_10 : decode cX11_serviceCount 10 = .ok (.ireturn, 1) := by decide +kernel
set_option maxRecDepth 20000 in
theorem ggX11_findName_X0_size : GoodIn wsX11_findName wsX0_size := goodIn_r _ [7, 8, 59, 60] (by decide +kernel) (by decide +kernel)
set_option maxRecDepth 20000 in
theorem gX11_findName_X0_size : GoodIn wsX11_findName (wsV RX11 75 RX0 yX0_size wsX0_size) := goodIn_app (goodIn_of _ (by decide +kernel)) ggX11_findName_X0_size
set_option maxRecDepth 20000 in
theorem ggX11_findName_X0_nameBetween : GoodIn wsX11_findName wsX0_nameBetween := goodIn_r _ [12, 13, 14, 15, 6, 16, 8, 17, 59, 60] (by decide +kernel) (by decide +kernel)
set_option maxRecDepth 20000 in
theorem gX11_findName_X0_nameBetween : GoodIn wsX11_findName (wsV RX11 139 RX0 yX0_nameBetween wsX0_nameBetween) := goodIn_app (goodIn_of _ (by decide +kernel)) ggX11_findName_X0_nameBetween
set_option maxRecDepth 20000 in
theorem ggX11_findName_X5_codeOfName : GoodIn wsX11_findName wsX5_codeOfName := goodIn_r _ [22, 23, 24, 25, 26, 27, 28, 29, 30, 31, 32, 33, 34, 35, 36, 37, 38, 39, 40, 41, 42, 43, 44, 45, 46, 47, 48, 49, 50, 61, 62, 63, 64, 65, 66, 67, 68, 69, 70, 71, 72, 73, 74, 75, 76, 77, 78, 79, 80, 81, 82, 83, 84, 85, 86, 87, 88, 89, 90, 91, 92, 93, 94] (by decide +kernel) (by decide +kernel)
set_option maxRecDepth 20000 in
theorem gX11_findName_X5_codeOfName : GoodIn wsX11_findName (wsV RX11 143 RX5 yX5_codeOfName wsX5_codeOfName) := goodIn_app (goodIn_of _ (by decide +kernel)) ggX11_findName_X5_codeOfName
theorem dX11_findName_0 : decode cX11_findName 0 = .ok (.aload_n 0, 1) := by decide +kernel
theorem dX11_findName_1 : decode cX11_findName 1 = .ok (.getfield 33, 3) := by decide +kernel
theorem dX11_findName_4 : decode cX11_findName 4 = .ok (.aload_n 0, 1) := by decide +kernel
theorem dX11_findName_5 : decode cX11_findName 5 = .ok (.getfield 14, 3) := by decide +kernel
theorem dX11_findName_8 : decode cX11_findName 8 = .ok (.iconst 0, 1) := by decide +kernel
theorem dX11_findName_9 : decode cX11_findName 9 = .ok (.aload_n 0, 1) := by decide +kernel
theorem dX11_findName_10 : decode cX11_findName 10 = .ok (.getfield 14, 3) := by decide +kernel
theorem dX11_findName_13 : decode cX11_findName 13 = .ok (.invokevirtual 75, 3) := by decide +kernel
theorem dX11_findName_16 : decode cX11_findName 16 = .ok (.invokevirtual 139, 3) := by decide +kernel
theorem dX11_findName_19 : decode cX11_findName 19 = .ok (.invokevirtual 143, 3) := by decide +kernel
theorem dX11_findName_22 : decode cX11_findName 22 = .ok (.ireturn, 1) := by decide +kernel
set_option maxRecDepth 20000 in
theorem ggX11_lifetimeOf_X11_checkRealm : GoodIn wsX11_lifetimeOf wsX11_checkRealm := goodIn_ca (goodIn_r _ [6, 7, 8, 1, 9, 10, 11, 12, 13, 14, 15, 23, 24, 25, 26, 27, 28, 29, 30, 31, 32, 33, 34, 35, 36, 37, 38, 39, 40, 41, 42, 43, 44, 45, 46, 47, 48, 49, 50, 51, 52, 53, 54, 55, 56, 57, 58, 59, 60, 61, 62, 63, 64] (by decide +kernel) (by decide +kernel)) (goodIn_sub (fun _ h => List.mem_cons_of_mem _ (List.mem_append_right _ h)) (by decide +kernel))
set_option maxRecDepth 20000 in
theorem gX11_lifetimeOf_X11_checkRealm : GoodIn wsX11_lifetimeOf (wsV RX11 147 RX11 yX11_checkRealm wsX11_checkRealm) := goodIn_app (goodIn_of _ (by decide +kernel)) ggX11_lifetimeOf_X11_checkRealm
set_option maxRecDepth 20000 in
theorem ggX11_lifetimeOf_X6_get : GoodIn wsX11_lifetimeOf wsX6_get := goodIn_r _ [20, 21, 15, 22, 41, 42, 43, 44, 45, 46, 47, 48, 49, 50, 51, 52, 53, 54, 55, 56, 57, 58, 59, 60, 61, 62, 63, 64] (by decide +kernel) (by decide +kernel)
set_option maxRecDepth 20000 in
theorem gX11_lifetimeOf_X6_get_u150X2 : GoodIn wsX11_lifetimeOf (va_wsU RX11 150 RX2 "TicketGate$Table" ⟨"TicketGate$Realms", "get", "(II)I"⟩ yX6_get wsX6_get) := goodIn_app (goodIn_of _ (by decide +kernel)) ggX11_lifetimeOf_X6_get
theorem dX11_lifetimeOf_0 : decode cX11_lifetimeOf 0 = .ok (.aload_n 0, 1) := by decide +kernel
theorem dX11_lifetimeOf_1 : decode cX11_lifetimeOf 1 = .ok (.iload_n 1, 1) := by decide +kernel
theorem dX11_lifetimeOf_2 : decode cX11_lifetimeOf 2 = .ok (.invokevirtual 147, 3) := by decide +kernel
theorem dX11_lifetimeOf_5 : decode cX11_lifetimeOf 5 = .ok (.aload_n 0, 1) := by decide +kernel
theorem dX11_lifetimeOf_6 : decode cX11_lifetimeOf 6 = .ok (.getfield 33, 3) := by decide +kernel
theorem dX11_lifetimeOf_9 : decode cX11_lifetimeOf 9 = .ok (.getfield 118, 3) := by decide +kernel
theorem dX11_lifetimeOf_12 : decode cX11_lifetimeOf 12 = .ok (.iload_n 1, 1) := by decide +kernel
theorem dX11_lifetimeOf_13 : decode cX11_lifetimeOf 13 = .ok (.iconst 1, 1) := by decide +kernel
theorem dX11_lifetimeOf_14 : decode cX11_lifetimeOf 14 = .ok (.invokevirtual 150, 3) := by decide +kernel
theorem dX11_lifetimeOf_17 : decode cX11_lifetimeOf 17 = .ok (.ireturn, 1) := by decide +kernel
set_option maxRecDepth 20000 in
theorem ggX11_clockOf_X11_checkRealm : GoodIn wsX11_clockOf wsX11_checkRealm := goodIn_ca (goodIn_r _ [6, 7, 8, 1, 9, 10, 11, 12, 13, 14, 15, 23, 24, 25, 26, 27, 28, 29, 30, 31, 32, 33, 34, 35, 36, 37, 38, 39, 40, 41, 42, 43, 44, 45, 46, 47, 48, 49, 50, 51, 52, 53, 54, 55, 56, 57, 58, 59, 60, 61, 62, 63, 64] (by decide +kernel) (by decide +kernel)) (goodIn_sub (fun _ h => List.mem_cons_of_mem _ (List.mem_append_right _ h)) (by decide +kernel))
set_option maxRecDepth 20000 in
theorem gX11_clockOf_X11_checkRealm : GoodIn wsX11_clockOf (wsV RX11 147 RX11 yX11_checkRealm wsX11_checkRealm) := goodIn_app (goodIn_of _ (by decide +kernel)) ggX11_clockOf_X11_checkRealm
set_option maxRecDepth 20000 in
theorem ggX11_clockOf_X6_get : GoodIn wsX11_clockOf wsX6_get := goodIn_r _ [20, 21, 15, 22, 41, 42, 43, 44, 45, 46, 47, 48, 49, 50, 51, 52, 53, 54, 55, 56, 57, 58, 59, 60, 61, 62, 63, 64] (by decide +kernel) (by decide +kernel)
set_option maxRecDepth 20000 in
theorem gX11_clockOf_X6_get_u150X2 : GoodIn wsX11_clockOf (va_wsU RX11 150 RX2 "TicketGate$Table" ⟨"TicketGate$Realms", "get", "(II)I"⟩ yX6_get wsX6_get) := goodIn_app (goodIn_of _ (by decide +kernel)) ggX11_clockOf_X6_get
theorem dX11_clockOf_0 : decode cX11_clockOf 0 = .ok (.aload_n 0, 1) := by decide +kernel
theorem dX11_clockOf_1 : decode cX11_clockOf 1 = .ok (.iload_n 1, 1) := by decide +kernel
theorem dX11_clockOf_2 : decode cX11_clockOf 2 = .ok (.invokevirtual 147, 3) := by decide +kernel
theorem dX11_clockOf_5 : decode cX11_clockOf 5 = .ok (.aload_n 0, 1) := by decide +kernel
theorem dX11_clockOf_6 : decode cX11_clockOf 6 = .ok (.getfield 33, 3) := by decide +kernel
theorem dX11_clockOf_9 : decode cX11_clockOf 9 = .ok (.getfield 112, 3) := by decide +kernel
theorem dX11_clockOf_12 : decode cX11_clockOf 12 = .ok (.aload_n 0, 1) := by decide +kernel
theorem dX11_clockOf_13 : decode cX11_clockOf 13 = .ok (.getfield 33, 3) := by decide +kernel
theorem dX11_clockOf_16 : decode cX11_clockOf 16 = .ok (.getfield 118, 3) := by decide +kernel
theorem dX11_clockOf_19 : decode cX11_clockOf 19 = .ok (.iload_n 1, 1) := by decide +kernel
theorem dX11_clockOf_20 : decode cX11_clockOf 20 = .ok (.iconst 3, 1) := by decide +kernel
theorem dX11_clockOf_21 : decode cX11_clockOf 21 = .ok (.invokevirtual 150, 3) := by decide +kernel
theorem dX11_clockOf_24 : decode cX11_clockOf 24 = .ok (.iadd, 1) := by decide +kernel
theorem dX11_clockOf_25 : decode cX11_clockOf 25 = .ok (.ireturn, 1) := by decide +kernel
set_option maxRecDepth 20000 in
theorem ggX11_trusts_X11_checkRealm : GoodIn wsX11_trusts wsX11_checkRealm := goodIn_ca (goodIn_r _ [6, 7, 8, 1, 9, 10, 11, 12, 13, 14, 15, 28, 29, 30, 31, 32, 33, 34, 35, 36, 37, 38, 39, 40, 41, 42, 43, 44, 45, 46, 47, 48, 49, 50, 51, 52, 53, 54, 55, 56, 57, 58, 59, 60, 61, 62, 63, 64, 65, 66, 67, 68, 69] (by decide +kernel) (by decide +kernel)) (goodIn_sub (fun _ h => List.mem_cons_of_mem _ (List.mem_append_right _ h)) (by decide +kernel))
set_option maxRecDepth 20000 in
theorem gX11_trusts_X11_checkRealm : GoodIn wsX11_trusts (wsV RX11 147 RX11 yX11_checkRealm wsX11_checkRealm) := goodIn_app (goodIn_of _ (by decide +kernel)) ggX11_trusts_X11_checkRealm
set_option maxRecDepth 20000 in
theorem ggX11_trusts_X2_hasTrust : GoodIn wsX11_trusts wsX2_hasTrust := goodIn_r _ [20, 21, 22, 23, 24, 13, 25, 26, 15, 27, 46, 47, 48, 49, 50, 51, 52, 53, 54, 55, 56, 57, 58, 59, 60, 61, 62, 63, 64, 65, 66, 67, 68, 69] (by decide +kernel) (by decide +kernel)
set_option maxRecDepth 20000 in
theorem gX11_trusts_X2_hasTrust : GoodIn wsX11_trusts (wsV RX11 153 RX2 yX2_hasTrust wsX2_hasTrust) := goodIn_app (goodIn_of _ (by decide +kernel)) ggX11_trusts_X2_hasTrust
theorem dX11_trusts_0 : decode cX11_trusts 0 = .ok (.aload_n 0, 1) := by decide +kernel
theorem dX11_trusts_1 : decode cX11_trusts 1 = .ok (.iload_n 1, 1) := by decide +kernel
theorem dX11_trusts_2 : decode cX11_trusts 2 = .ok (.invokevirtual 147, 3) := by decide +kernel
theorem dX11_trusts_5 : decode cX11_trusts 5 = .ok (.aload_n 0, 1) := by decide +kernel
theorem dX11_trusts_6 : decode cX11_trusts 6 = .ok (.iload_n 2, 1) := by decide +kernel
theorem dX11_trusts_7 : decode cX11_trusts 7 = .ok (.invokevirtual 147, 3) := by decide +kernel
theorem dX11_trusts_10 : decode cX11_trusts 10 = .ok (.aload_n 0, 1) := by decide +kernel
theorem dX11_trusts_11 : decode cX11_trusts 11 = .ok (.getfield 33, 3) := by decide +kernel
theorem dX11_trusts_14 : decode cX11_trusts 14 = .ok (.getfield 118, 3) := by decide +kernel
theorem dX11_trusts_17 : decode cX11_trusts 17 = .ok (.iload_n 1, 1) := by decide +kernel
theorem dX11_trusts_18 : decode cX11_trusts 18 = .ok (.iload_n 2, 1) := by decide +kernel
theorem dX11_trusts_19 : decode cX11_trusts 19 = .ok (.invokevirtual 153, 3) := by decide +kernel
theorem dX11_trusts_22 : decode cX11_trusts 22 = .ok (.ireturn, 1) := by decide +kernel
set_option maxRecDepth 20000 in
theorem ggX11_distance_X11_checkRealm : GoodIn wsX11_distance wsX11_checkRealm := goodIn_ca (goodIn_r _ [6, 7, 8, 1, 9, 10, 11, 12, 13, 14, 15, 37, 38, 39, 40, 41, 42, 43, 44, 45, 46, 47, 48, 49, 50, 51, 52, 53, 54, 55, 56, 57, 58, 59, 60, 61, 62, 63, 64, 65, 66, 67, 68, 69, 70, 71, 72, 73, 74, 75, 76, 77, 78] (by decide +kernel) (by decide +kernel)) (goodIn_sub (fun _ h => List.mem_cons_of_mem _ (List.mem_append_right _ h)) (by decide +kernel))
set_option maxRecDepth 20000 in
theorem gX11_distance_X11_checkRealm : GoodIn wsX11_distance (wsV RX11 147 RX11 yX11_checkRealm wsX11_checkRealm) := goodIn_app (goodIn_of _ (by decide +kernel)) ggX11_distance_X11_checkRealm
set_option maxRecDepth 20000 in
theorem ggX11_distance_X2_referrals : GoodIn wsX11_distance wsX2_referrals := goodIn_r _ [20, 21, 22, 23, 19, 24, 25, 26, 27, 28, 13, 29, 15, 30, 31, 32, 33, 34, 35, 36, 55, 56, 57, 58, 59, 60, 61, 62, 63, 64, 65, 66, 67, 68, 69, 70, 71, 72, 73, 74, 75, 76, 77, 78] (by decide +kernel) (by decide +kernel)
set_option maxRecDepth 20000 in
theorem gX11_distance_X2_referrals : GoodIn wsX11_distance (wsV RX11 157 RX2 yX2_referrals wsX2_referrals) := goodIn_app (goodIn_of _ (by decide +kernel)) ggX11_distance_X2_referrals
theorem dX11_distance_0 : decode cX11_distance 0 = .ok (.aload_n 0, 1) := by decide +kernel
theorem dX11_distance_1 : decode cX11_distance 1 = .ok (.iload_n 1, 1) := by decide +kernel
theorem dX11_distance_2 : decode cX11_distance 2 = .ok (.invokevirtual 147, 3) := by decide +kernel
theorem dX11_distance_5 : decode cX11_distance 5 = .ok (.aload_n 0, 1) := by decide +kernel
theorem dX11_distance_6 : decode cX11_distance 6 = .ok (.iload_n 2, 1) := by decide +kernel
theorem dX11_distance_7 : decode cX11_distance 7 = .ok (.invokevirtual 147, 3) := by decide +kernel
theorem dX11_distance_10 : decode cX11_distance 10 = .ok (.aload_n 0, 1) := by decide +kernel
theorem dX11_distance_11 : decode cX11_distance 11 = .ok (.getfield 33, 3) := by decide +kernel
theorem dX11_distance_14 : decode cX11_distance 14 = .ok (.getfield 118, 3) := by decide +kernel
theorem dX11_distance_17 : decode cX11_distance 17 = .ok (.iload_n 1, 1) := by decide +kernel
theorem dX11_distance_18 : decode cX11_distance 18 = .ok (.iload_n 2, 1) := by decide +kernel
theorem dX11_distance_19 : decode cX11_distance 19 = .ok (.invokevirtual 157, 3) := by decide +kernel
theorem dX11_distance_22 : decode cX11_distance 22 = .ok (.ireturn, 1) := by decide +kernel
set_option maxRecDepth 20000 in
theorem ggX11_nextRealm_X11_checkRealm : GoodIn wsX11_nextRealm wsX11_checkRealm := goodIn_ca (goodIn_r _ [6, 7, 8, 1, 9, 10, 11, 12, 13, 14, 15, 45, 46, 47, 48, 49, 50, 51, 52, 53, 54, 55, 56, 57, 58, 59, 60, 61, 62, 63, 64, 65, 66, 67, 68, 69, 70, 71, 72, 73, 74, 75, 76, 77, 78, 79, 80, 81, 82, 83, 84, 85, 86] (by decide +kernel) (by decide +kernel)) (goodIn_sub (fun _ h => List.mem_cons_of_mem _ (List.mem_append_right _ h)) (by decide +kernel))
set_option maxRecDepth 20000 in
theorem gX11_nextRealm_X11_checkRealm : GoodIn wsX11_nextRealm (wsV RX11 147 RX11 yX11_checkRealm wsX11_checkRealm) := goodIn_app (goodIn_of _ (by decide +kernel)) ggX11_nextRealm_X11_checkRealm
set_option maxRecDepth 20000 in
theorem ggX11_nextRealm_X2_firstOnWay : GoodIn wsX11_nextRealm wsX2_firstOnWay := goodIn_r _ [20, 21, 22, 23, 19, 24, 25, 26, 27, 28, 29, 30, 31, 32, 13, 33, 15, 34, 35, 36, 37, 38, 39, 40, 41, 42, 43, 44, 63, 64, 65, 66, 67, 68, 69, 70, 71, 72, 73, 74, 75, 76, 77, 78, 79, 80, 81, 82, 83, 84, 85, 86] (by decide +kernel) (by decide +kernel)
set_option maxRecDepth 20000 in
theorem gX11_nextRealm_X2_firstOnWay : GoodIn wsX11_nextRealm (wsV RX11 160 RX2 yX2_firstOnWay wsX2_firstOnWay) := goodIn_app (goodIn_of _ (by decide +kernel)) ggX11_nextRealm_X2_firstOnWay
theorem dX11_nextRealm_0 : decode cX11_nextRealm 0 = .ok (.aload_n 0, 1) := by decide +kernel
theorem dX11_nextRealm_1 : decode cX11_nextRealm 1 = .ok (.iload_n 1, 1) := by decide +kernel
theorem dX11_nextRealm_2 : decode cX11_nextRealm 2 = .ok (.invokevirtual 147, 3) := by decide +kernel
theorem dX11_nextRealm_5 : decode cX11_nextRealm 5 = .ok (.aload_n 0, 1) := by decide +kernel
theorem dX11_nextRealm_6 : decode cX11_nextRealm 6 = .ok (.iload_n 2, 1) := by decide +kernel
theorem dX11_nextRealm_7 : decode cX11_nextRealm 7 = .ok (.invokevirtual 147, 3) := by decide +kernel
theorem dX11_nextRealm_10 : decode cX11_nextRealm 10 = .ok (.aload_n 0, 1) := by decide +kernel
theorem dX11_nextRealm_11 : decode cX11_nextRealm 11 = .ok (.getfield 33, 3) := by decide +kernel
theorem dX11_nextRealm_14 : decode cX11_nextRealm 14 = .ok (.getfield 118, 3) := by decide +kernel
theorem dX11_nextRealm_17 : decode cX11_nextRealm 17 = .ok (.iload_n 1, 1) := by decide +kernel
theorem dX11_nextRealm_18 : decode cX11_nextRealm 18 = .ok (.iload_n 2, 1) := by decide +kernel
theorem dX11_nextRealm_19 : decode cX11_nextRealm 19 = .ok (.invokevirtual 160, 3) := by decide +kernel
theorem dX11_nextRealm_22 : decode cX11_nextRealm 22 = .ok (.ireturn, 1) := by decide +kernel
set_option maxRecDepth 20000 in
theorem ggX11_homeOf_X11_checkUser : GoodIn wsX11_homeOf wsX11_checkUser := goodIn_ca (goodIn_r _ [6, 7, 8, 1, 9, 10, 11, 12, 13, 14, 15, 23, 24, 25, 26, 27, 28, 29, 30, 31, 32, 33, 34, 35, 36, 37, 38, 39, 40, 41, 42, 43, 44, 45, 46, 47, 48, 49, 50, 51, 52, 53, 54, 55, 56, 57, 58, 59, 60, 61, 62, 63, 64] (by decide +kernel) (by decide +kernel)) (goodIn_sub (fun _ h => List.mem_cons_of_mem _ (List.mem_append_right _ h)) (by decide +kernel))
set_option maxRecDepth 20000 in
theorem gX11_homeOf_X11_checkUser : GoodIn wsX11_homeOf (wsV RX11 163 RX11 yX11_checkUser wsX11_checkUser) := goodIn_app (goodIn_of _ (by decide +kernel)) ggX11_homeOf_X11_checkUser
set_option maxRecDepth 20000 in
theorem ggX11_homeOf_X6_get : GoodIn wsX11_homeOf wsX6_get := goodIn_r _ [20, 21, 15, 22, 41, 42, 43, 44, 45, 46, 47, 48, 49, 50, 51, 52, 53, 54, 55, 56, 57, 58, 59, 60, 61, 62, 63, 64] (by decide +kernel) (by decide +kernel)
set_option maxRecDepth 20000 in
theorem gX11_homeOf_X6_get_u166X8 : GoodIn wsX11_homeOf (va_wsU RX11 166 RX8 "TicketGate$Table" ⟨"TicketGate$Users", "get", "(II)I"⟩ yX6_get wsX6_get) := goodIn_app (goodIn_of _ (by decide +kernel)) ggX11_homeOf_X6_get
theorem dX11_homeOf_0 : decode cX11_homeOf 0 = .ok (.aload_n 0, 1) := by decide +kernel
theorem dX11_homeOf_1 : decode cX11_homeOf 1 = .ok (.iload_n 1, 1) := by decide +kernel
theorem dX11_homeOf_2 : decode cX11_homeOf 2 = .ok (.invokevirtual 163, 3) := by decide +kernel
theorem dX11_homeOf_5 : decode cX11_homeOf 5 = .ok (.aload_n 0, 1) := by decide +kernel
theorem dX11_homeOf_6 : decode cX11_homeOf 6 = .ok (.getfield 33, 3) := by decide +kernel
theorem dX11_homeOf_9 : decode cX11_homeOf 9 = .ok (.getfield 125, 3) := by decide +kernel
theorem dX11_homeOf_12 : decode cX11_homeOf 12 = .ok (.iload_n 1, 1) := by decide +kernel
theorem dX11_homeOf_13 : decode cX11_homeOf 13 = .ok (.iconst 1, 1) := by decide +kernel
theorem dX11_homeOf_14 : decode cX11_homeOf 14 = .ok (.invokevirtual 166, 3) := by decide +kernel
theorem dX11_homeOf_17 : decode cX11_homeOf 17 = .ok (.ireturn, 1) := by decide +kernel
set_option maxRecDepth 20000 in
theorem ggX11_cheesesOf_X11_checkUser : GoodIn wsX11_cheesesOf wsX11_checkUser := goodIn_ca (goodIn_r _ [6, 7, 8, 1, 9, 10, 11, 12, 13, 14, 15, 23, 24, 25, 26, 27, 28, 29, 30, 31, 32, 33, 34, 35, 36, 37, 38, 39, 40, 41, 42, 43, 44, 45, 46, 47, 48, 49, 50, 51, 52, 53, 54, 55, 56, 57, 58, 59, 60, 61, 62, 63, 64] (by decide +kernel) (by decide +kernel)) (goodIn_sub (fun _ h => List.mem_cons_of_mem _ (List.mem_append_right _ h)) (by decide +kernel))
set_option maxRecDepth 20000 in
theorem gX11_cheesesOf_X11_checkUser : GoodIn wsX11_cheesesOf (wsV RX11 163 RX11 yX11_checkUser wsX11_checkUser) := goodIn_app (goodIn_of _ (by decide +kernel)) ggX11_cheesesOf_X11_checkUser
set_option maxRecDepth 20000 in
theorem ggX11_cheesesOf_X6_get : GoodIn wsX11_cheesesOf wsX6_get := goodIn_r _ [20, 21, 15, 22, 41, 42, 43, 44, 45, 46, 47, 48, 49, 50, 51, 52, 53, 54, 55, 56, 57, 58, 59, 60, 61, 62, 63, 64] (by decide +kernel) (by decide +kernel)
set_option maxRecDepth 20000 in
theorem gX11_cheesesOf_X6_get_u166X8 : GoodIn wsX11_cheesesOf (va_wsU RX11 166 RX8 "TicketGate$Table" ⟨"TicketGate$Users", "get", "(II)I"⟩ yX6_get wsX6_get) := goodIn_app (goodIn_of _ (by decide +kernel)) ggX11_cheesesOf_X6_get
theorem dX11_cheesesOf_0 : decode cX11_cheesesOf 0 = .ok (.aload_n 0, 1) := by decide +kernel
theorem dX11_cheesesOf_1 : decode cX11_cheesesOf 1 = .ok (.iload_n 1, 1) := by decide +kernel
theorem dX11_cheesesOf_2 : decode cX11_cheesesOf 2 = .ok (.invokevirtual 163, 3) := by decide +kernel
theorem dX11_cheesesOf_5 : decode cX11_cheesesOf 5 = .ok (.aload_n 0, 1) := by decide +kernel
theorem dX11_cheesesOf_6 : decode cX11_cheesesOf 6 = .ok (.getfield 33, 3) := by decide +kernel
theorem dX11_cheesesOf_9 : decode cX11_cheesesOf 9 = .ok (.getfield 125, 3) := by decide +kernel
theorem dX11_cheesesOf_12 : decode cX11_cheesesOf 12 = .ok (.iload_n 1, 1) := by decide +kernel
theorem dX11_cheesesOf_13 : decode cX11_cheesesOf 13 = .ok (.iconst 4, 1) := by decide +kernel
theorem dX11_cheesesOf_14 : decode cX11_cheesesOf 14 = .ok (.invokevirtual 166, 3) := by decide +kernel
theorem dX11_cheesesOf_17 : decode cX11_cheesesOf 17 = .ok (.ireturn, 1) := by decide +kernel
set_option maxRecDepth 20000 in
theorem ggX11_skew_X11_checkUser : GoodIn wsX11_skew wsX11_checkUser := goodIn_ca (goodIn_r _ [6, 7, 8, 1, 9, 10, 11, 12, 13, 14, 15, 44, 45, 46, 47, 48, 49, 50, 51, 52, 53, 54, 55, 56, 57, 58, 59, 60, 61, 62, 63, 64, 65, 66, 67, 68, 69, 70, 71, 72, 73, 74, 75, 76, 77, 78, 79, 80, 81, 82, 83, 84, 85] (by decide +kernel) (by decide +kernel)) (goodIn_sub (fun _ h => List.mem_cons_of_mem _ (List.mem_append_right _ h)) (by decide +kernel))
set_option maxRecDepth 20000 in
theorem gX11_skew_X11_checkUser : GoodIn wsX11_skew (wsV RX11 163 RX11 yX11_checkUser wsX11_checkUser) := goodIn_app (goodIn_of _ (by decide +kernel)) ggX11_skew_X11_checkUser
set_option maxRecDepth 20000 in
theorem ggX11_skew_X11_checkRealm : GoodIn wsX11_skew wsX11_checkRealm := goodIn_ca (goodIn_r _ [19, 7, 8, 1, 20, 21, 22, 12, 13, 14, 15, 44, 45, 46, 47, 48, 49, 50, 51, 52, 53, 54, 55, 56, 57, 58, 59, 60, 61, 62, 63, 64, 65, 66, 67, 68, 69, 70, 71, 72, 73, 74, 75, 76, 77, 78, 79, 80, 81, 82, 83, 84, 85] (by decide +kernel) (by decide +kernel)) (goodIn_sub (fun _ h => List.mem_cons_of_mem _ (List.mem_append_right _ h)) (by decide +kernel))
set_option maxRecDepth 20000 in
theorem gX11_skew_X11_checkRealm : GoodIn wsX11_skew (wsV RX11 147 RX11 yX11_checkRealm wsX11_checkRealm) := goodIn_app (goodIn_of _ (by decide +kernel)) ggX11_skew_X11_checkRealm
set_option maxRecDepth 20000 in
theorem ggX11_skew_X5_skewOf : GoodIn wsX11_skew wsX5_skewOf := goodIn_r _ [27, 28, 29, 30, 31, 32, 33, 34, 35, 36, 37, 13, 38, 39, 15, 40, 41, 42, 43, 52, 53, 54, 55, 56, 57, 58, 59, 60, 61, 62, 63, 64, 65, 66, 67, 68, 69, 70, 71, 72, 73, 74, 75, 76, 77, 78, 79, 80, 81, 82, 83, 84, 85] (by decide +kernel) (by decide +kernel)
set_option maxRecDepth 20000 in
theorem gX11_skew_X5_skewOf : GoodIn wsX11_skew (wsV RX11 167 RX5 yX5_skewOf wsX5_skewOf) := goodIn_app (goodIn_of _ (by decide +kernel)) ggX11_skew_X5_skewOf
theorem dX11_skew_0 : decode cX11_skew 0 = .ok (.aload_n 0, 1) := by decide +kernel
theorem dX11_skew_1 : decode cX11_skew 1 = .ok (.iload_n 1, 1) := by decide +kernel
theorem dX11_skew_2 : decode cX11_skew 2 = .ok (.invokevirtual 163, 3) := by decide +kernel
theorem dX11_skew_5 : decode cX11_skew 5 = .ok (.aload_n 0, 1) := by decide +kernel
theorem dX11_skew_6 : decode cX11_skew 6 = .ok (.iload_n 2, 1) := by decide +kernel
theorem dX11_skew_7 : decode cX11_skew 7 = .ok (.invokevirtual 147, 3) := by decide +kernel
theorem dX11_skew_10 : decode cX11_skew 10 = .ok (.aload_n 0, 1) := by decide +kernel
theorem dX11_skew_11 : decode cX11_skew 11 = .ok (.getfield 33, 3) := by decide +kernel
theorem dX11_skew_14 : decode cX11_skew 14 = .ok (.iload_n 1, 1) := by decide +kernel
theorem dX11_skew_15 : decode cX11_skew 15 = .ok (.iload_n 2, 1) := by decide +kernel
theorem dX11_skew_16 : decode cX11_skew 16 = .ok (.invokevirtual 167, 3) := by decide +kernel
theorem dX11_skew_19 : decode cX11_skew 19 = .ok (.ireturn, 1) := by decide +kernel
set_option maxRecDepth 20000 in
theorem ggX11_realmOfService_X11_checkService : GoodIn wsX11_realmOfService wsX11_checkService := goodIn_ca (goodIn_r _ [6, 7, 8, 1, 9, 10, 11, 12, 13, 14, 15, 23, 24, 25, 26, 27, 28, 29, 30, 31, 32, 33, 34, 35, 36, 37, 38, 39, 40, 41, 42, 43, 44, 45, 46, 47, 48, 49, 50, 51, 52, 53, 54, 55, 56, 57, 58, 59, 60, 61, 62, 63, 64] (by decide +kernel) (by decide +kernel)) (goodIn_sub (fun _ h => List.mem_cons_of_mem _ (List.mem_append_right _ h)) (by decide +kernel))
set_option maxRecDepth 20000 in
theorem gX11_realmOfService_X11_checkService : GoodIn wsX11_realmOfService (wsV RX11 170 RX11 yX11_checkService wsX11_checkService) := goodIn_app (goodIn_of _ (by decide +kernel)) ggX11_realmOfService_X11_checkService
set_option maxRecDepth 20000 in
theorem ggX11_realmOfService_X6_get : GoodIn wsX11_realmOfService wsX6_get := goodIn_r _ [20, 21, 15, 22, 41, 42, 43, 44, 45, 46, 47, 48, 49, 50, 51, 52, 53, 54, 55, 56, 57, 58, 59, 60, 61, 62, 63, 64] (by decide +kernel) (by decide +kernel)
set_option maxRecDepth 20000 in
theorem gX11_realmOfService_X6_get_u173X3 : GoodIn wsX11_realmOfService (va_wsU RX11 173 RX3 "TicketGate$Table" ⟨"TicketGate$Services", "get", "(II)I"⟩ yX6_get wsX6_get) := goodIn_app (goodIn_of _ (by decide +kernel)) ggX11_realmOfService_X6_get
theorem dX11_realmOfService_0 : decode cX11_realmOfService 0 = .ok (.aload_n 0, 1) := by decide +kernel
theorem dX11_realmOfService_1 : decode cX11_realmOfService 1 = .ok (.iload_n 1, 1) := by decide +kernel
theorem dX11_realmOfService_2 : decode cX11_realmOfService 2 = .ok (.invokevirtual 170, 3) := by decide +kernel
theorem dX11_realmOfService_5 : decode cX11_realmOfService 5 = .ok (.aload_n 0, 1) := by decide +kernel
theorem dX11_realmOfService_6 : decode cX11_realmOfService 6 = .ok (.getfield 33, 3) := by decide +kernel
theorem dX11_realmOfService_9 : decode cX11_realmOfService 9 = .ok (.getfield 132, 3) := by decide +kernel
theorem dX11_realmOfService_12 : decode cX11_realmOfService 12 = .ok (.iload_n 1, 1) := by decide +kernel
theorem dX11_realmOfService_13 : decode cX11_realmOfService 13 = .ok (.iconst 1, 1) := by decide +kernel
theorem dX11_realmOfService_14 : decode cX11_realmOfService 14 = .ok (.invokevirtual 173, 3) := by decide +kernel
theorem dX11_realmOfService_17 : decode cX11_realmOfService 17 = .ok (.ireturn, 1) := by decide +kernel
set_option maxRecDepth 20000 in
theorem ggX11_cheesesLeft_X11_checkService : GoodIn wsX11_cheesesLeft wsX11_checkService := goodIn_ca (goodIn_r _ [6, 7, 8, 1, 9, 10, 11, 12, 13, 14, 15, 23, 24, 25, 26, 27, 28, 29, 30, 31, 32, 33, 34, 35, 36, 37, 38, 39, 40, 41, 42, 43, 44, 45, 46, 47, 48, 49, 50, 51, 52, 53, 54, 55, 56, 57, 58, 59, 60, 61, 62, 63, 64] (by decide +kernel) (by decide +kernel)) (goodIn_sub (fun _ h => List.mem_cons_of_mem _ (List.mem_append_right _ h)) (by decide +kernel))
set_option maxRecDepth 20000 in
theorem gX11_cheesesLeft_X11_checkService : GoodIn wsX11_cheesesLeft (wsV RX11 170 RX11 yX11_checkService wsX11_checkService) := goodIn_app (goodIn_of _ (by decide +kernel)) ggX11_cheesesLeft_X11_checkService
set_option maxRecDepth 20000 in
theorem ggX11_cheesesLeft_X6_get : GoodIn wsX11_cheesesLeft wsX6_get := goodIn_r _ [20, 21, 15, 22, 41, 42, 43, 44, 45, 46, 47, 48, 49, 50, 51, 52, 53, 54, 55, 56, 57, 58, 59, 60, 61, 62, 63, 64] (by decide +kernel) (by decide +kernel)
set_option maxRecDepth 20000 in
theorem gX11_cheesesLeft_X6_get_u173X3 : GoodIn wsX11_cheesesLeft (va_wsU RX11 173 RX3 "TicketGate$Table" ⟨"TicketGate$Services", "get", "(II)I"⟩ yX6_get wsX6_get) := goodIn_app (goodIn_of _ (by decide +kernel)) ggX11_cheesesLeft_X6_get
theorem dX11_cheesesLeft_0 : decode cX11_cheesesLeft 0 = .ok (.aload_n 0, 1) := by decide +kernel
theorem dX11_cheesesLeft_1 : decode cX11_cheesesLeft 1 = .ok (.iload_n 1, 1) := by decide +kernel
theorem dX11_cheesesLeft_2 : decode cX11_cheesesLeft 2 = .ok (.invokevirtual 170, 3) := by decide +kernel
theorem dX11_cheesesLeft_5 : decode cX11_cheesesLeft 5 = .ok (.aload_n 0, 1) := by decide +kernel
theorem dX11_cheesesLeft_6 : decode cX11_cheesesLeft 6 = .ok (.getfield 33, 3) := by decide +kernel
theorem dX11_cheesesLeft_9 : decode cX11_cheesesLeft 9 = .ok (.getfield 132, 3) := by decide +kernel
theorem dX11_cheesesLeft_12 : decode cX11_cheesesLeft 12 = .ok (.iload_n 1, 1) := by decide +kernel
theorem dX11_cheesesLeft_13 : decode cX11_cheesesLeft 13 = .ok (.iconst 2, 1) := by decide +kernel
theorem dX11_cheesesLeft_14 : decode cX11_cheesesLeft 14 = .ok (.invokevirtual 173, 3) := by decide +kernel
theorem dX11_cheesesLeft_17 : decode cX11_cheesesLeft 17 = .ok (.ireturn, 1) := by decide +kernel
set_option maxRecDepth 20000 in
theorem ggX11_ticketCount_X6_size : GoodIn wsX11_ticketCount wsX6_size := goodIn_r _ [7, 8, 27, 28, 29, 30, 31, 32, 33, 34, 35, 36, 37, 38, 39, 40, 41, 42, 43, 44, 45, 46, 47, 48, 49, 50] (by decide +kernel) (by decide +kernel)
set_option maxRecDepth 20000 in
theorem gX11_ticketCount_X6_size_u102X7 : GoodIn wsX11_ticketCount (va_wsU RX11 102 RX7 "TicketGate$Table" ⟨"TicketGate$Tickets", "size", "()I"⟩ yX6_size wsX6_size) := goodIn_app (goodIn_of _ (by decide +kernel)) ggX11_ticketCount_X6_size
theorem dX11_ticketCount_0 : decode cX11_ticketCount 0 = .ok (.aload_n 0, 1) := by decide +kernel
theorem dX11_ticketCount_1 : decode cX11_ticketCount 1 = .ok (.getfield 33, 3) := by decide +kernel
theorem dX11_ticketCount_4 : decode cX11_ticketCount 4 = .ok (.getfield 98, 3) := by decide +kernel
theorem dX11_ticketCount_7 : decode cX11_ticketCount 7 = .ok (.invokevirtual 102, 3) := by decide +kernel
theorem dX11_ticketCount_10 : decode cX11_ticketCount 10 = .ok (.ireturn, 1) := by decide +kernel
set_option maxRecDepth 20000 in
theorem ggX11_ticketAt_X6_has : GoodIn wsX11_ticketAt wsX6_has := goodIn_r _ [9, 10, 36, 37, 38, 39, 40, 41, 42, 43, 44, 45, 46, 47, 48, 49, 50, 51, 52, 53, 54, 55, 56, 57, 58, 59] (by decide +kernel) (by decide +kernel)
set_option maxRecDepth 20000 in
theorem gX11_ticketAt_X6_has_u174X7 : GoodIn wsX11_ticketAt (va_wsU RX11 174 RX7 "TicketGate$Table" ⟨"TicketGate$Tickets", "has", "(I)Z"⟩ yX6_has wsX6_has) := goodIn_app (goodIn_of _ (by decide +kernel)) ggX11_ticketAt_X6_has
set_option maxRecDepth 20000 in
theorem ggX11_ticketAt_X6_get : GoodIn wsX11_ticketAt wsX6_get := goodIn_r _ [15, 16, 10, 17, 36, 37, 38, 39, 40, 41, 42, 43, 44, 45, 46, 47, 48, 49, 50, 51, 52, 53, 54, 55, 56, 57, 58, 59] (by decide +kernel) (by decide +kernel)
set_option maxRecDepth 20000 in
theorem gX11_ticketAt_X6_get_u183X7 : GoodIn wsX11_ticketAt (va_wsU RX11 183 RX7 "TicketGate$Table" ⟨"TicketGate$Tickets", "get", "(II)I"⟩ yX6_get wsX6_get) := goodIn_app (goodIn_of _ (by decide +kernel)) ggX11_ticketAt_X6_get
theorem dX11_ticketAt_0 : decode cX11_ticketAt 0 = .ok (.aload_n 0, 1) := by decide +kernel
theorem dX11_ticketAt_1 : decode cX11_ticketAt 1 = .ok (.getfield 33, 3) := by decide +kernel
theorem dX11_ticketAt_4 : decode cX11_ticketAt 4 = .ok (.getfield 98, 3) := by decide +kernel
theorem dX11_ticketAt_7 : decode cX11_ticketAt 7 = .ok (.iload_n 1, 1) := by decide +kernel
theorem dX11_ticketAt_8 : decode cX11_ticketAt 8 = .ok (.invokevirtual 174, 3) := by decide +kernel
theorem dX11_ticketAt_11 : decode cX11_ticketAt 11 = .ok (.ifCond .ne 13, 3) := by decide +kernel
theorem dX11_ticketAt_14 : decode cX11_ticketAt 14 = .ok (.new 178, 3) := by decide +kernel
theorem dX11_ticketAt_17 : decode cX11_ticketAt 17 = .ok (.dup, 1) := by decide +kernel
theorem dX11_ticketAt_18 : decode cX11_ticketAt 18 = .ok (.ldc 180, 2) := by decide +kernel
theorem dX11_ticketAt_20 : decode cX11_ticketAt 20 = .ok (.invokespecial 182, 3) := by decide +kernel
theorem dX11_ticketAt_23 : decode cX11_ticketAt 23 = .ok (.athrow, 1) := by decide +kernel
theorem dX11_ticketAt_24 : decode cX11_ticketAt 24 = .ok (.aload_n 0, 1) := by decide +kernel
theorem dX11_ticketAt_25 : decode cX11_ticketAt 25 = .ok (.getfield 33, 3) := by decide +kernel
theorem dX11_ticketAt_28 : decode cX11_ticketAt 28 = .ok (.getfield 98, 3) := by decide +kernel
theorem dX11_ticketAt_31 : decode cX11_ticketAt 31 = .ok (.iload_n 1, 1) := by decide +kernel
theorem dX11_ticketAt_32 : decode cX11_ticketAt 32 = .ok (.iconst 0, 1) := by decide +kernel
theorem dX11_ticketAt_33 : decode cX11_ticketAt 33 = .ok (.invokevirtual 183, 3) := by decide +kernel
theorem dX11_ticketAt_36 : decode cX11_ticketAt 36 = .ok (.ireturn, 1) := by decide +kernel
set_option maxRecDepth 20000 in
theorem ggX11_kindOf_X11_rowOf : GoodIn wsX11_kindOf wsX11_rowOf := goodIn_ca (goodIn_r _ [6, 7, 8, 1, 9, 10, 11, 12, 13, 14, 15, 16, 17, 18, 19, 20, 21, 22, 23, 24, 25, 26, 27, 31, 32, 33, 34, 35, 36, 37, 38, 39, 40, 41, 42, 43, 44, 45, 46, 47, 48, 49, 50, 51, 52, 53, 54, 55, 56, 57, 58, 59, 60, 61, 62, 63, 64, 65, 66, 67, 68, 69, 70, 71, 72] (by decide +kernel) (by decide +kernel)) (goodIn_sub (fun _ h => List.mem_cons_of_mem _ (List.mem_append_right _ h)) (by decide +kernel))
set_option maxRecDepth 20000 in
theorem gX11_kindOf_X11_rowOf : GoodIn wsX11_kindOf (wsV RX11 184 RX11 yX11_rowOf wsX11_rowOf) := goodIn_app (goodIn_of _ (by decide +kernel)) ggX11_kindOf_X11_rowOf
set_option maxRecDepth 20000 in
theorem ggX11_kindOf_X6_get : GoodIn wsX11_kindOf wsX6_get := goodIn_r _ [20, 21, 15, 22, 49, 50, 51, 52, 53, 54, 55, 56, 57, 58, 59, 60, 61, 62, 63, 64, 65, 66, 67, 68, 69, 70, 71, 72] (by decide +kernel) (by decide +kernel)
set_option maxRecDepth 20000 in
theorem gX11_kindOf_X6_get_u183X7 : GoodIn wsX11_kindOf (va_wsU RX11 183 RX7 "TicketGate$Table" ⟨"TicketGate$Tickets", "get", "(II)I"⟩ yX6_get wsX6_get) := goodIn_app (goodIn_of _ (by decide +kernel)) ggX11_kindOf_X6_get
theorem dX11_kindOf_0 : decode cX11_kindOf 0 = .ok (.aload_n 0, 1) := by decide +kernel
theorem dX11_kindOf_1 : decode cX11_kindOf 1 = .ok (.getfield 33, 3) := by decide +kernel
theorem dX11_kindOf_4 : decode cX11_kindOf 4 = .ok (.getfield 98, 3) := by decide +kernel
theorem dX11_kindOf_7 : decode cX11_kindOf 7 = .ok (.aload_n 0, 1) := by decide +kernel
theorem dX11_kindOf_8 : decode cX11_kindOf 8 = .ok (.iload_n 1, 1) := by decide +kernel
theorem dX11_kindOf_9 : decode cX11_kindOf 9 = .ok (.invokevirtual 184, 3) := by decide +kernel
theorem dX11_kindOf_12 : decode cX11_kindOf 12 = .ok (.iconst 1, 1) := by decide +kernel
theorem dX11_kindOf_13 : decode cX11_kindOf 13 = .ok (.invokevirtual 183, 3) := by decide +kernel
theorem dX11_kindOf_16 : decode cX11_kindOf 16 = .ok (.ireturn, 1) := by decide +kernel
set_option maxRecDepth 20000 in
theorem ggX11_ownerOf_X11_rowOf : GoodIn wsX11_ownerOf wsX11_rowOf := goodIn_ca (goodIn_r _ [6, 7, 8, 1, 9, 10, 11, 12, 13, 14, 15, 16, 17, 18, 19, 20, 21, 22, 23, 24, 25, 26, 27, 31, 32, 33, 34, 35, 36, 37, 38, 39, 40, 41, 42, 43, 44, 45, 46, 47, 48, 49, 50, 51, 52, 53, 54, 55, 56, 57, 58, 59, 60, 61, 62, 63, 64, 65, 66, 67, 68, 69, 70, 71, 72] (by decide +kernel) (by decide +kernel)) (goodIn_sub (fun _ h => List.mem_cons_of_mem _ (List.mem_append_right _ h)) (by decide +kernel))
set_option maxRecDepth 20000 in
theorem gX11_ownerOf_X11_rowOf : GoodIn wsX11_ownerOf (wsV RX11 184 RX11 yX11_rowOf wsX11_rowOf) := goodIn_app (goodIn_of _ (by decide +kernel)) ggX11_ownerOf_X11_rowOf
set_option maxRecDepth 20000 in
theorem ggX11_ownerOf_X6_get : GoodIn wsX11_ownerOf wsX6_get := goodIn_r _ [20, 21, 15, 22, 49, 50, 51, 52, 53, 54, 55, 56, 57, 58, 59, 60, 61, 62, 63, 64, 65, 66, 67, 68, 69, 70, 71, 72] (by decide +kernel) (by decide +kernel)
set_option maxRecDepth 20000 in
theorem gX11_ownerOf_X6_get_u183X7 : GoodIn wsX11_ownerOf (va_wsU RX11 183 RX7 "TicketGate$Table" ⟨"TicketGate$Tickets", "get", "(II)I"⟩ yX6_get wsX6_get) := goodIn_app (goodIn_of _ (by decide +kernel)) ggX11_ownerOf_X6_get
theorem dX11_ownerOf_0 : decode cX11_ownerOf 0 = .ok (.aload_n 0, 1) := by decide +kernel
theorem dX11_ownerOf_1 : decode cX11_ownerOf 1 = .ok (.getfield 33, 3) := by decide +kernel
theorem dX11_ownerOf_4 : decode cX11_ownerOf 4 = .ok (.getfield 98, 3) := by decide +kernel
theorem dX11_ownerOf_7 : decode cX11_ownerOf 7 = .ok (.aload_n 0, 1) := by decide +kernel
theorem dX11_ownerOf_8 : decode cX11_ownerOf 8 = .ok (.iload_n 1, 1) := by decide +kernel
theorem dX11_ownerOf_9 : decode cX11_ownerOf 9 = .ok (.invokevirtual 184, 3) := by decide +kernel
theorem dX11_ownerOf_12 : decode cX11_ownerOf 12 = .ok (.iconst 2, 1) := by decide +kernel
theorem dX11_ownerOf_13 : decode cX11_ownerOf 13 = .ok (.invokevirtual 183, 3) := by decide +kernel
theorem dX11_ownerOf_16 : decode cX11_ownerOf 16 = .ok (.ireturn, 1) := by decide +kernel
set_option maxRecDepth 20000 in
theorem ggX11_realmOf_X11_rowOf : GoodIn wsX11_realmOf wsX11_rowOf := goodIn_ca (goodIn_r _ [6, 7, 8, 1, 9, 10, 11, 12, 13, 14, 15, 16, 17, 18, 19, 20, 21, 22, 23, 24, 25, 26, 27, 31, 32, 33, 34, 35, 36, 37, 38, 39, 40, 41, 42, 43, 44, 45, 46, 47, 48, 49, 50, 51, 52, 53, 54, 55, 56, 57, 58, 59, 60, 61, 62, 63, 64, 65, 66, 67, 68, 69, 70, 71, 72] (by decide +kernel) (by decide +kernel)) (goodIn_sub (fun _ h => List.mem_cons_of_mem _ (List.mem_append_right _ h)) (by decide +kernel))
set_option maxRecDepth 20000 in
theorem gX11_realmOf_X11_rowOf : GoodIn wsX11_realmOf (wsV RX11 184 RX11 yX11_rowOf wsX11_rowOf) := goodIn_app (goodIn_of _ (by decide +kernel)) ggX11_realmOf_X11_rowOf
set_option maxRecDepth 20000 in
theorem ggX11_realmOf_X6_get : GoodIn wsX11_realmOf wsX6_get := goodIn_r _ [20, 21, 15, 22, 49, 50, 51, 52, 53, 54, 55, 56, 57, 58, 59, 60, 61, 62, 63, 64, 65, 66, 67, 68, 69, 70, 71, 72] (by decide +kernel) (by decide +kernel)
set_option maxRecDepth 20000 in
theorem gX11_realmOf_X6_get_u183X7 : GoodIn wsX11_realmOf (va_wsU RX11 183 RX7 "TicketGate$Table" ⟨"TicketGate$Tickets", "get", "(II)I"⟩ yX6_get wsX6_get) := goodIn_app (goodIn_of _ (by decide +kernel)) ggX11_realmOf_X6_get
theorem dX11_realmOf_0 : decode cX11_realmOf 0 = .ok (.aload_n 0, 1) := by decide +kernel
theorem dX11_realmOf_1 : decode cX11_realmOf 1 = .ok (.getfield 33, 3) := by decide +kernel
theorem dX11_realmOf_4 : decode cX11_realmOf 4 = .ok (.getfield 98, 3) := by decide +kernel
theorem dX11_realmOf_7 : decode cX11_realmOf 7 = .ok (.aload_n 0, 1) := by decide +kernel
theorem dX11_realmOf_8 : decode cX11_realmOf 8 = .ok (.iload_n 1, 1) := by decide +kernel
theorem dX11_realmOf_9 : decode cX11_realmOf 9 = .ok (.invokevirtual 184, 3) := by decide +kernel
theorem dX11_realmOf_12 : decode cX11_realmOf 12 = .ok (.iconst 3, 1) := by decide +kernel
theorem dX11_realmOf_13 : decode cX11_realmOf 13 = .ok (.invokevirtual 183, 3) := by decide +kernel
theorem dX11_realmOf_16 : decode cX11_realmOf 16 = .ok (.ireturn, 1) := by decide +kernel
set_option maxRecDepth 20000 in
theorem ggX11_serviceOf_X11_rowOf : GoodIn wsX11_serviceOf wsX11_rowOf := goodIn_ca (goodIn_r _ [6, 7, 8, 1, 9, 10, 11, 12, 13, 14, 15, 16, 17, 18, 19, 20, 21, 22, 23, 24, 25, 26, 27, 31, 32, 33, 34, 35, 36, 37, 38, 39, 40, 41, 42, 43, 44, 45, 46, 47, 48, 49, 50, 51, 52, 53, 54, 55, 56, 57, 58, 59, 60, 61, 62, 63, 64, 65, 66, 67, 68, 69, 70, 71, 72] (by decide +kernel) (by decide +kernel)) (goodIn_sub (fun _ h => List.mem_cons_of_mem _ (List.mem_append_right _ h)) (by decide +kernel))
set_option maxRecDepth 20000 in
theorem gX11_serviceOf_X11_rowOf : GoodIn wsX11_serviceOf (wsV RX11 184 RX11 yX11_rowOf wsX11_rowOf) := goodIn_app (goodIn_of _ (by decide +kernel)) ggX11_serviceOf_X11_rowOf
set_option maxRecDepth 20000 in
theorem ggX11_serviceOf_X6_get : GoodIn wsX11_serviceOf wsX6_get := goodIn_r _ [20, 21, 15, 22, 49, 50, 51, 52, 53, 54, 55, 56, 57, 58, 59, 60, 61, 62, 63, 64, 65, 66, 67, 68, 69, 70, 71, 72] (by decide +kernel) (by decide +kernel)
set_option maxRecDepth 20000 in
theorem gX11_serviceOf_X6_get_u183X7 : GoodIn wsX11_serviceOf (va_wsU RX11 183 RX7 "TicketGate$Table" ⟨"TicketGate$Tickets", "get", "(II)I"⟩ yX6_get wsX6_get) := goodIn_app (goodIn_of _ (by decide +kernel)) ggX11_serviceOf_X6_get
theorem dX11_serviceOf_0 : decode cX11_serviceOf 0 = .ok (.aload_n 0, 1) := by decide +kernel
theorem dX11_serviceOf_1 : decode cX11_serviceOf 1 = .ok (.getfield 33, 3) := by decide +kernel
theorem dX11_serviceOf_4 : decode cX11_serviceOf 4 = .ok (.getfield 98, 3) := by decide +kernel
theorem dX11_serviceOf_7 : decode cX11_serviceOf 7 = .ok (.aload_n 0, 1) := by decide +kernel
theorem dX11_serviceOf_8 : decode cX11_serviceOf 8 = .ok (.iload_n 1, 1) := by decide +kernel
theorem dX11_serviceOf_9 : decode cX11_serviceOf 9 = .ok (.invokevirtual 184, 3) := by decide +kernel
theorem dX11_serviceOf_12 : decode cX11_serviceOf 12 = .ok (.iconst 4, 1) := by decide +kernel
theorem dX11_serviceOf_13 : decode cX11_serviceOf 13 = .ok (.invokevirtual 183, 3) := by decide +kernel
theorem dX11_serviceOf_16 : decode cX11_serviceOf 16 = .ok (.ireturn, 1) := by decide +kernel
set_option maxRecDepth 20000 in
theorem ggX11_startOf_X11_rowOf : GoodIn wsX11_startOf wsX11_rowOf := goodIn_ca (goodIn_r _ [6, 7, 8, 1, 9, 10, 11, 12, 13, 14, 15, 16, 17, 18, 19, 20, 21, 22, 23, 24, 25, 26, 27, 31, 32, 33, 34, 35, 36, 37, 38, 39, 40, 41, 42, 43, 44, 45, 46, 47, 48, 49, 50, 51, 52, 53, 54, 55, 56, 57, 58, 59, 60, 61, 62, 63, 64, 65, 66, 67, 68, 69, 70, 71, 72] (by decide +kernel) (by decide +kernel)) (goodIn_sub (fun _ h => List.mem_cons_of_mem _ (List.mem_append_right _ h)) (by decide +kernel))
set_option maxRecDepth 20000 in
theorem gX11_startOf_X11_rowOf : GoodIn wsX11_startOf (wsV RX11 184 RX11 yX11_rowOf wsX11_rowOf) := goodIn_app (goodIn_of _ (by decide +kernel)) ggX11_startOf_X11_rowOf
set_option maxRecDepth 20000 in
theorem ggX11_startOf_X6_get : GoodIn wsX11_startOf wsX6_get := goodIn_r _ [20, 21, 15, 22, 49, 50, 51, 52, 53, 54, 55, 56, 57, 58, 59, 60, 61, 62, 63, 64, 65, 66, 67, 68, 69, 70, 71, 72] (by decide +kernel) (by decide +kernel)
set_option maxRecDepth 20000 in
theorem gX11_startOf_X6_get_u183X7 : GoodIn wsX11_startOf (va_wsU RX11 183 RX7 "TicketGate$Table" ⟨"TicketGate$Tickets", "get", "(II)I"⟩ yX6_get wsX6_get) := goodIn_app (goodIn_of _ (by decide +kernel)) ggX11_startOf_X6_get
theorem dX11_startOf_0 : decode cX11_startOf 0 = .ok (.aload_n 0, 1) := by decide +kernel
theorem dX11_startOf_1 : decode cX11_startOf 1 = .ok (.getfield 33, 3) := by decide +kernel
theorem dX11_startOf_4 : decode cX11_startOf 4 = .ok (.getfield 98, 3) := by decide +kernel
theorem dX11_startOf_7 : decode cX11_startOf 7 = .ok (.aload_n 0, 1) := by decide +kernel
theorem dX11_startOf_8 : decode cX11_startOf 8 = .ok (.iload_n 1, 1) := by decide +kernel
theorem dX11_startOf_9 : decode cX11_startOf 9 = .ok (.invokevirtual 184, 3) := by decide +kernel
theorem dX11_startOf_12 : decode cX11_startOf 12 = .ok (.iconst 5, 1) := by decide +kernel
theorem dX11_startOf_13 : decode cX11_startOf 13 = .ok (.invokevirtual 183, 3) := by decide +kernel
theorem dX11_startOf_16 : decode cX11_startOf 16 = .ok (.ireturn, 1) := by decide +kernel
set_option maxRecDepth 20000 in
theorem ggX11_endOf_X11_rowOf : GoodIn wsX11_endOf wsX11_rowOf := goodIn_ca (goodIn_r _ [6, 7, 8, 1, 9, 10, 11, 12, 13, 14, 15, 16, 17, 18, 19, 20, 21, 22, 23, 24, 25, 26, 27, 31, 32, 33, 34, 35, 36, 37, 38, 39, 40, 41, 42, 43, 44, 45, 46, 47, 48, 49, 50, 51, 52, 53, 54, 55, 56, 57, 58, 59, 60, 61, 62, 63, 64, 65, 66, 67, 68, 69, 70, 71, 72] (by decide +kernel) (by decide +kernel)) (goodIn_sub (fun _ h => List.mem_cons_of_mem _ (List.mem_append_right _ h)) (by decide +kernel))
set_option maxRecDepth 20000 in
theorem gX11_endOf_X11_rowOf : GoodIn wsX11_endOf (wsV RX11 184 RX11 yX11_rowOf wsX11_rowOf) := goodIn_app (goodIn_of _ (by decide +kernel)) ggX11_endOf_X11_rowOf
set_option maxRecDepth 20000 in
theorem ggX11_endOf_X6_get : GoodIn wsX11_endOf wsX6_get := goodIn_r _ [20, 21, 15, 22, 49, 50, 51, 52, 53, 54, 55, 56, 57, 58, 59, 60, 61, 62, 63, 64, 65, 66, 67, 68, 69, 70, 71, 72] (by decide +kernel) (by decide +kernel)
set_option maxRecDepth 20000 in
theorem gX11_endOf_X6_get_u183X7 : GoodIn wsX11_endOf (va_wsU RX11 183 RX7 "TicketGate$Table" ⟨"TicketGate$Tickets", "get", "(II)I"⟩ yX6_get wsX6_get) := goodIn_app (goodIn_of _ (by decide +kernel)) ggX11_endOf_X6_get
theorem dX11_endOf_0 : decode cX11_endOf 0 = .ok (.aload_n 0, 1) := by decide +kernel
theorem dX11_endOf_1 : decode cX11_endOf 1 = .ok (.getfield 33, 3) := by decide +kernel
theorem dX11_endOf_4 : decode cX11_endOf 4 = .ok (.getfield 98, 3) := by decide +kernel
theorem dX11_endOf_7 : decode cX11_endOf 7 = .ok (.aload_n 0, 1) := by decide +kernel
theorem dX11_endOf_8 : decode cX11_endOf 8 = .ok (.iload_n 1, 1) := by decide +kernel
theorem dX11_endOf_9 : decode cX11_endOf 9 = .ok (.invokevirtual 184, 3) := by decide +kernel
theorem dX11_endOf_12 : decode cX11_endOf 12 = .ok (.bipush 6, 2) := by decide +kernel
theorem dX11_endOf_14 : decode cX11_endOf 14 = .ok (.invokevirtual 183, 3) := by decide +kernel
theorem dX11_endOf_17 : decode cX11_endOf 17 = .ok (.ireturn, 1) := by decide +kernel
set_option maxRecDepth 20000 in
theorem ggX11_lastEndOf_X11_rowOf : GoodIn wsX11_lastEndOf wsX11_rowOf := goodIn_ca (goodIn_r _ [6, 7, 8, 1, 9, 10, 11, 12, 13, 14, 15, 16, 17, 18, 19, 20, 21, 22, 23, 24, 25, 26, 27, 31, 32, 33, 34, 35, 36, 37, 38, 39, 40, 41, 42, 43, 44, 45, 46, 47, 48, 49, 50, 51, 52, 53, 54, 55, 56, 57, 58, 59, 60, 61, 62, 63, 64, 65, 66, 67, 68, 69, 70, 71, 72] (by decide +kernel) (by decide +kernel)) (goodIn_sub (fun _ h => List.mem_cons_of_mem _ (List.mem_append_right _ h)) (by decide +kernel))
set_option maxRecDepth 20000 in
theorem gX11_lastEndOf_X11_rowOf : GoodIn wsX11_lastEndOf (wsV RX11 184 RX11 yX11_rowOf wsX11_rowOf) := goodIn_app (goodIn_of _ (by decide +kernel)) ggX11_lastEndOf_X11_rowOf
set_option maxRecDepth 20000 in
theorem ggX11_lastEndOf_X6_get : GoodIn wsX11_lastEndOf wsX6_get := goodIn_r _ [20, 21, 15, 22, 49, 50, 51, 52, 53, 54, 55, 56, 57, 58, 59, 60, 61, 62, 63, 64, 65, 66, 67, 68, 69, 70, 71, 72] (by decide +kernel) (by decide +kernel)
set_option maxRecDepth 20000 in
theorem gX11_lastEndOf_X6_get_u183X7 : GoodIn wsX11_lastEndOf (va_wsU RX11 183 RX7 "TicketGate$Table" ⟨"TicketGate$Tickets", "get", "(II)I"⟩ yX6_get wsX6_get) := goodIn_app (goodIn_of _ (by decide +kernel)) ggX11_lastEndOf_X6_get
theorem dX11_lastEndOf_0 : decode cX11_lastEndOf 0 = .ok (.aload_n 0, 1) := by decide +kernel
theorem dX11_lastEndOf_1 : decode cX11_lastEndOf 1 = .ok (.getfield 33, 3) := by decide +kernel
theorem dX11_lastEndOf_4 : decode cX11_lastEndOf 4 = .ok (.getfield 98, 3) := by decide +kernel
theorem dX11_lastEndOf_7 : decode cX11_lastEndOf 7 = .ok (.aload_n 0, 1) := by decide +kernel
theorem dX11_lastEndOf_8 : decode cX11_lastEndOf 8 = .ok (.iload_n 1, 1) := by decide +kernel
theorem dX11_lastEndOf_9 : decode cX11_lastEndOf 9 = .ok (.invokevirtual 184, 3) := by decide +kernel
theorem dX11_lastEndOf_12 : decode cX11_lastEndOf 12 = .ok (.bipush 7, 2) := by decide +kernel
theorem dX11_lastEndOf_14 : decode cX11_lastEndOf 14 = .ok (.invokevirtual 183, 3) := by decide +kernel
theorem dX11_lastEndOf_17 : decode cX11_lastEndOf 17 = .ok (.ireturn, 1) := by decide +kernel
set_option maxRecDepth 20000 in
theorem ggX11_keyOf_X11_rowOf : GoodIn wsX11_keyOf wsX11_rowOf := goodIn_ca (goodIn_r _ [6, 7, 8, 1, 9, 10, 11, 12, 13, 14, 15, 16, 17, 18, 19, 20, 21, 22, 23, 24, 25, 26, 27, 31, 32, 33, 34, 35, 36, 37, 38, 39, 40, 41, 42, 43, 44, 45, 46, 47, 48, 49, 50, 51, 52, 53, 54, 55, 56, 57, 58, 59, 60, 61, 62, 63, 64, 65, 66, 67, 68, 69, 70, 71, 72] (by decide +kernel) (by decide +kernel)) (goodIn_sub (fun _ h => List.mem_cons_of_mem _ (List.mem_append_right _ h)) (by decide +kernel))
set_option maxRecDepth 20000 in
theorem gX11_keyOf_X11_rowOf : GoodIn wsX11_keyOf (wsV RX11 184 RX11 yX11_rowOf wsX11_rowOf) := goodIn_app (goodIn_of _ (by decide +kernel)) ggX11_keyOf_X11_rowOf
set_option maxRecDepth 20000 in
theorem ggX11_keyOf_X6_get : GoodIn wsX11_keyOf wsX6_get := goodIn_r _ [20, 21, 15, 22, 49, 50, 51, 52, 53, 54, 55, 56, 57, 58, 59, 60, 61, 62, 63, 64, 65, 66, 67, 68, 69, 70, 71, 72] (by decide +kernel) (by decide +kernel)
set_option maxRecDepth 20000 in
theorem gX11_keyOf_X6_get_u183X7 : GoodIn wsX11_keyOf (va_wsU RX11 183 RX7 "TicketGate$Table" ⟨"TicketGate$Tickets", "get", "(II)I"⟩ yX6_get wsX6_get) := goodIn_app (goodIn_of _ (by decide +kernel)) ggX11_keyOf_X6_get
theorem dX11_keyOf_0 : decode cX11_keyOf 0 = .ok (.aload_n 0, 1) := by decide +kernel
theorem dX11_keyOf_1 : decode cX11_keyOf 1 = .ok (.getfield 33, 3) := by decide +kernel
theorem dX11_keyOf_4 : decode cX11_keyOf 4 = .ok (.getfield 98, 3) := by decide +kernel
theorem dX11_keyOf_7 : decode cX11_keyOf 7 = .ok (.aload_n 0, 1) := by decide +kernel
theorem dX11_keyOf_8 : decode cX11_keyOf 8 = .ok (.iload_n 1, 1) := by decide +kernel
theorem dX11_keyOf_9 : decode cX11_keyOf 9 = .ok (.invokevirtual 184, 3) := by decide +kernel
theorem dX11_keyOf_12 : decode cX11_keyOf 12 = .ok (.bipush 8, 2) := by decide +kernel
theorem dX11_keyOf_14 : decode cX11_keyOf 14 = .ok (.invokevirtual 183, 3) := by decide +kernel
theorem dX11_keyOf_17 : decode cX11_keyOf 17 = .ok (.ireturn, 1) := by decide +kernel
set_option maxRecDepth 20000 in
theorem ggX11_isRenewable_X11_rowOf : GoodIn wsX11_isRenewable wsX11_rowOf := goodIn_ca (goodIn_r _ [6, 7, 8, 1, 9, 10, 11, 12, 13, 14, 15, 16, 17, 18, 19, 20, 21, 22, 23, 24, 25, 26, 27, 36, 37, 38, 39, 40, 41, 42, 43, 44, 45, 46, 47, 48, 49, 50, 51, 52, 53, 54, 55, 56, 57, 58, 59, 60, 61, 62, 63, 64, 65, 66, 67, 68, 69, 70, 71, 72, 73, 74, 75, 76, 77] (by decide +kernel) (by decide +kernel)) (goodIn_sub (fun _ h => List.mem_cons_of_mem _ (List.mem_append_right _ h)) (by decide +kernel))
set_option maxRecDepth 20000 in
theorem gX11_isRenewable_X11_rowOf : GoodIn wsX11_isRenewable (wsV RX11 184 RX11 yX11_rowOf wsX11_rowOf) := goodIn_app (goodIn_of _ (by decide +kernel)) ggX11_isRenewable_X11_rowOf
set_option maxRecDepth 20000 in
theorem ggX11_isRenewable_X7_canBeRenewed : GoodIn wsX11_isRenewable wsX7_canBeRenewed := goodIn_r _ [32, 33, 34, 35, 19, 13, 20, 21, 15, 22, 54, 55, 56, 57, 58, 59, 60, 61, 62, 63, 64, 65, 66, 67, 68, 69, 70, 71, 72, 73, 74, 75, 76, 77] (by decide +kernel) (by decide +kernel)
set_option maxRecDepth 20000 in
theorem gX11_isRenewable_X7_canBeRenewed : GoodIn wsX11_isRenewable (wsV RX11 187 RX7 yX7_canBeRenewed wsX7_canBeRenewed) := goodIn_app (goodIn_of _ (by decide +kernel)) ggX11_isRenewable_X7_canBeRenewed
theorem dX11_isRenewable_0 : decode cX11_isRenewable 0 = .ok (.aload_n 0, 1) := by decide +kernel
theorem dX11_isRenewable_1 : decode cX11_isRenewable 1 = .ok (.getfield 33, 3) := by decide +kernel
theorem dX11_isRenewable_4 : decode cX11_isRenewable 4 = .ok (.getfield 98, 3) := by decide +kernel
theorem dX11_isRenewable_7 : decode cX11_isRenewable 7 = .ok (.aload_n 0, 1) := by decide +kernel
theorem dX11_isRenewable_8 : decode cX11_isRenewable 8 = .ok (.iload_n 1, 1) := by decide +kernel
theorem dX11_isRenewable_9 : decode cX11_isRenewable 9 = .ok (.invokevirtual 184, 3) := by decide +kernel
theorem dX11_isRenewable_12 : decode cX11_isRenewable 12 = .ok (.invokevirtual 187, 3) := by decide +kernel
theorem dX11_isRenewable_15 : decode cX11_isRenewable 15 = .ok (.ireturn, 1) := by decide +kernel
set_option maxRecDepth 20000 in
theorem ggX11_isValid_X11_rowOf : GoodIn wsX11_isValid wsX11_rowOf := goodIn_ca (goodIn_r _ [6, 7, 8, 1, 9, 10, 11, 12, 13, 14, 15, 16, 17, 18, 19, 20, 21, 22, 23, 24, 25, 26, 27, 36, 37, 38, 39, 40, 41, 42, 43, 44, 45, 46, 47, 48, 49, 50, 51, 52, 53, 54, 55, 56, 57, 58, 59, 60, 61, 62, 63, 64, 65, 66, 67, 68, 69, 70, 71, 72, 73, 74, 75, 76, 77] (by decide +kernel) (by decide +kernel)) (goodIn_sub (fun _ h => List.mem_cons_of_mem _ (List.mem_append_right _ h)) (by decide +kernel))
set_option maxRecDepth 20000 in
theorem gX11_isValid_X11_rowOf : GoodIn wsX11_isValid (wsV RX11 184 RX11 yX11_rowOf wsX11_rowOf) := goodIn_app (goodIn_of _ (by decide +kernel)) ggX11_isValid_X11_rowOf
set_option maxRecDepth 20000 in
theorem ggX11_isValid_X7_isAlive : GoodIn wsX11_isValid wsX7_isAlive := goodIn_r _ [32, 33, 34, 35, 19, 13, 20, 21, 15, 22, 54, 55, 56, 57, 58, 59, 60, 61, 62, 63, 64, 65, 66, 67, 68, 69, 70, 71, 72, 73, 74, 75, 76, 77] (by decide +kernel) (by decide +kernel)
set_option maxRecDepth 20000 in
theorem gX11_isValid_X7_isAlive : GoodIn wsX11_isValid (wsV RX11 190 RX7 yX7_isAlive wsX7_isAlive) := goodIn_app (goodIn_of _ (by decide +kernel)) ggX11_isValid_X7_isAlive
theorem dX11_isValid_0 : decode cX11_isValid 0 = .ok (.aload_n 0, 1) := by decide +kernel
theorem dX11_isValid_1 : decode cX11_isValid 1 = .ok (.getfield 33, 3) := by decide +kernel
theorem dX11_isValid_4 : decode cX11_isValid 4 = .ok (.getfield 98, 3) := by decide +kernel
theorem dX11_isValid_7 : decode cX11_isValid 7 = .ok (.aload_n 0, 1) := by decide +kernel
theorem dX11_isValid_8 : decode cX11_isValid 8 = .ok (.iload_n 1, 1) := by decide +kernel
theorem dX11_isValid_9 : decode cX11_isValid 9 = .ok (.invokevirtual 184, 3) := by decide +kernel
theorem dX11_isValid_12 : decode cX11_isValid 12 = .ok (.aload_n 0, 1) := by decide +kernel
theorem dX11_isValid_13 : decode cX11_isValid 13 = .ok (.getfield 33, 3) := by decide +kernel
theorem dX11_isValid_16 : decode cX11_isValid 16 = .ok (.getfield 112, 3) := by decide +kernel
theorem dX11_isValid_19 : decode cX11_isValid 19 = .ok (.invokevirtual 190, 3) := by decide +kernel
theorem dX11_isValid_22 : decode cX11_isValid 22 = .ok (.ireturn, 1) := by decide +kernel
set_option maxRecDepth 20000 in
theorem ggX11_minutesLeft_X11_rowOf : GoodIn wsX11_minutesLeft wsX11_rowOf := goodIn_ca (goodIn_r _ [10, 11, 12, 1, 13, 14, 15, 16, 17, 18, 19, 20, 21, 22, 23, 24, 25, 26, 27, 28, 29, 30, 31, 35, 36, 37, 38, 39, 40, 41, 42, 43, 44, 45, 46, 47, 48, 49, 50, 51, 52, 53, 54, 55, 56, 57, 58, 59, 60, 61, 62, 63, 64, 65, 66, 67, 68, 69, 70, 71, 72, 73, 74, 75, 76] (by decide +kernel) (by decide +kernel)) (goodIn_sub (fun _ h => List.mem_cons_of_mem _ (List.mem_append_right _ h)) (by decide +kernel))
set_option maxRecDepth 20000 in
theorem gX11_minutesLeft_X11_rowOf : GoodIn wsX11_minutesLeft (wsV RX11 184 RX11 yX11_rowOf wsX11_rowOf) := goodIn_app (goodIn_of _ (by decide +kernel)) ggX11_minutesLeft_X11_rowOf
set_option maxRecDepth 20000 in
theorem ggX11_minutesLeft_X6_get : GoodIn wsX11_minutesLeft wsX6_get := goodIn_r _ [24, 25, 19, 26, 53, 54, 55, 56, 57, 58, 59, 60, 61, 62, 63, 64, 65, 66, 67, 68, 69, 70, 71, 72, 73, 74, 75, 76] (by decide +kernel) (by decide +kernel)
set_option maxRecDepth 20000 in
theorem gX11_minutesLeft_X6_get_u183X7 : GoodIn wsX11_minutesLeft (va_wsU RX11 183 RX7 "TicketGate$Table" ⟨"TicketGate$Tickets", "get", "(II)I"⟩ yX6_get wsX6_get) := goodIn_app (goodIn_of _ (by decide +kernel)) ggX11_minutesLeft_X6_get
theorem dX11_minutesLeft_0 : decode cX11_minutesLeft 0 = .ok (.iconst 0, 1) := by decide +kernel
theorem dX11_minutesLeft_1 : decode cX11_minutesLeft 1 = .ok (.aload_n 0, 1) := by decide +kernel
theorem dX11_minutesLeft_2 : decode cX11_minutesLeft 2 = .ok (.getfield 33, 3) := by decide +kernel
theorem dX11_minutesLeft_5 : decode cX11_minutesLeft 5 = .ok (.getfield 98, 3) := by decide +kernel
theorem dX11_minutesLeft_8 : decode cX11_minutesLeft 8 = .ok (.aload_n 0, 1) := by decide +kernel
theorem dX11_minutesLeft_9 : decode cX11_minutesLeft 9 = .ok (.iload_n 1, 1) := by decide +kernel
theorem dX11_minutesLeft_10 : decode cX11_minutesLeft 10 = .ok (.invokevirtual 184, 3) := by decide +kernel
theorem dX11_minutesLeft_13 : decode cX11_minutesLeft 13 = .ok (.bipush 6, 2) := by decide +kernel
theorem dX11_minutesLeft_15 : decode cX11_minutesLeft 15 = .ok (.invokevirtual 183, 3) := by decide +kernel
theorem dX11_minutesLeft_18 : decode cX11_minutesLeft 18 = .ok (.aload_n 0, 1) := by decide +kernel
theorem dX11_minutesLeft_19 : decode cX11_minutesLeft 19 = .ok (.getfield 33, 3) := by decide +kernel
theorem dX11_minutesLeft_22 : decode cX11_minutesLeft 22 = .ok (.getfield 112, 3) := by decide +kernel
theorem dX11_minutesLeft_25 : decode cX11_minutesLeft 25 = .ok (.isub, 1) := by decide +kernel
theorem dX11_minutesLeft_26 : decode cX11_minutesLeft 26 = .ok (.invokestatic 193, 3) := by decide +kernel
theorem dX11_minutesLeft_29 : decode cX11_minutesLeft 29 = .ok (.ireturn, 1) := by decide +kernel
set_option maxRecDepth 20000 in
theorem ggX11_loginRefusal_X11_checkUser : GoodIn wsX11_loginRefusal wsX11_checkUser := goodIn_ca (goodIn_r _ [6, 7, 8, 1, 9, 10, 11, 12, 13, 14, 15, 55, 56, 57, 58, 59, 60, 61, 62, 63, 64, 65, 66, 67, 68, 69, 70, 71, 72, 73, 74, 75, 76, 77, 78, 79, 80, 81, 82, 83, 84, 85, 86, 87, 88, 89, 90, 91, 92, 93, 94, 95, 96] (by decide +kernel) (by decide +kernel)) (goodIn_sub (fun _ h => List.mem_cons_of_mem _ (List.mem_append_left _ (List.mem_append_right _ h))) (by decide +kernel))
set_option maxRecDepth 20000 in
theorem gX11_loginRefusal_X11_checkUser : GoodIn wsX11_loginRefusal (wsV RX11 163 RX11 yX11_checkUser wsX11_checkUser) := goodIn_app (goodIn_of _ (by decide +kernel)) ggX11_loginRefusal_X11_checkUser
set_option maxRecDepth 20000 in
theorem ggX11_loginRefusal_X11_checkPassword : GoodIn wsX11_loginRefusal wsX11_checkPassword := goodIn_ca (goodIn_r _ [19, 20, 21] (by decide +kernel) (by decide +kernel)) (goodIn_sub (fun _ h => List.mem_cons_of_mem _ (List.mem_append_right _ h)) (by decide +kernel))
set_option maxRecDepth 20000 in
theorem gX11_loginRefusal_X11_checkPassword : GoodIn wsX11_loginRefusal (wsV RX11 198 RX11 yX11_checkPassword wsX11_checkPassword) := goodIn_app (goodIn_of _ (by decide +kernel)) ggX11_loginRefusal_X11_checkPassword
set_option maxRecDepth 20000 in
theorem ggX11_loginRefusal_X5_whyNoLogin : GoodIn wsX11_loginRefusal wsX5_whyNoLogin := goodIn_r _ [26, 27, 28, 29, 30, 31, 32, 33, 13, 34, 35, 15, 36, 37, 38, 39, 25, 40, 41, 42, 43, 44, 45, 46, 47, 48, 49, 50, 51, 52, 53, 54, 63, 64, 65, 66, 67, 68, 69, 70, 71, 72, 73, 74, 75, 76, 77, 78, 79, 80, 81, 82, 83, 84, 85, 86, 87, 88, 89, 90, 91, 92, 93, 94, 95, 96] (by decide +kernel) (by decide +kernel)
set_option maxRecDepth 20000 in
theorem gX11_loginRefusal_X5_whyNoLogin : GoodIn wsX11_loginRefusal (wsV RX11 201 RX5 yX5_whyNoLogin wsX5_whyNoLogin) := goodIn_app (goodIn_of _ (by decide +kernel)) ggX11_loginRefusal_X5_whyNoLogin
theorem dX11_loginRefusal_0 : decode cX11_loginRefusal 0 = .ok (.aload_n 0, 1) := by decide +kernel
theorem dX11_loginRefusal_1 : decode cX11_loginRefusal 1 = .ok (.iload_n 1, 1) := by decide +kernel
theorem dX11_loginRefusal_2 : decode cX11_loginRefusal 2 = .ok (.invokevirtual 163, 3) := by decide +kernel
theorem dX11_loginRefusal_5 : decode cX11_loginRefusal 5 = .ok (.aload_n 0, 1) := by decide +kernel
theorem dX11_loginRefusal_6 : decode cX11_loginRefusal 6 = .ok (.iload_n 2, 1) := by decide +kernel
theorem dX11_loginRefusal_7 : decode cX11_loginRefusal 7 = .ok (.invokevirtual 198, 3) := by decide +kernel
theorem dX11_loginRefusal_10 : decode cX11_loginRefusal 10 = .ok (.aload_n 0, 1) := by decide +kernel
theorem dX11_loginRefusal_11 : decode cX11_loginRefusal 11 = .ok (.getfield 33, 3) := by decide +kernel
theorem dX11_loginRefusal_14 : decode cX11_loginRefusal 14 = .ok (.iload_n 1, 1) := by decide +kernel
theorem dX11_loginRefusal_15 : decode cX11_loginRefusal 15 = .ok (.iload_n 2, 1) := by decide +kernel
theorem dX11_loginRefusal_16 : decode cX11_loginRefusal 16 = .ok (.invokevirtual 201, 3) := by decide +kernel
theorem dX11_loginRefusal_19 : decode cX11_loginRefusal 19 = .ok (.ireturn, 1) := by decide +kernel
set_option maxRecDepth 20000 in
theorem ggX11_referRefusal_X11_rowOf : GoodIn wsX11_referRefusal wsX11_rowOf := goodIn_ca (goodIn_r _ [6, 7, 8, 1, 9, 10, 11, 12, 13, 14, 15, 16, 17, 18, 19, 20, 21, 22, 23, 24, 25, 26, 27, 88, 89, 90, 91, 92, 93, 94, 95, 96, 97, 98, 99, 100, 101, 102, 103, 104, 105, 106, 107, 108, 109, 110, 111, 112, 113, 114, 115, 116, 117, 118, 119, 120, 121, 122, 123, 124, 125, 126, 127, 128, 129] (by decide +kernel) (by decide +kernel)) (goodIn_sub (fun _ h => List.mem_cons_of_mem _ (List.mem_append_left _ (List.mem_append_right _ h))) (by decide +kernel))
set_option maxRecDepth 20000 in
theorem gX11_referRefusal_X11_rowOf : GoodIn wsX11_referRefusal (wsV RX11 184 RX11 yX11_rowOf wsX11_rowOf) := goodIn_app (goodIn_of _ (by decide +kernel)) ggX11_referRefusal_X11_rowOf
set_option maxRecDepth 20000 in
theorem ggX11_referRefusal_X11_checkRealm : GoodIn wsX11_referRefusal wsX11_checkRealm := goodIn_ca (goodIn_r _ [31, 32, 33, 1, 34, 35, 36, 37, 13, 38, 15, 88, 89, 90, 91, 92, 93, 94, 95, 96, 97, 98, 99, 100, 101, 102, 103, 104, 105, 106, 107, 108, 109, 110, 111, 112, 113, 114, 115, 116, 117, 118, 119, 120, 121, 122, 123, 124, 125, 126, 127, 128, 129] (by decide +kernel) (by decide +kernel)) (goodIn_sub (fun _ h => List.mem_cons_of_mem _ (List.mem_append_right _ h)) (by decide +kernel))
set_option maxRecDepth 20000 in
theorem gX11_referRefusal_X11_checkRealm : GoodIn wsX11_referRefusal (wsV RX11 147 RX11 yX11_checkRealm wsX11_checkRealm) := goodIn_app (goodIn_of _ (by decide +kernel)) ggX11_referRefusal_X11_checkRealm
set_option maxRecDepth 20000 in
theorem ggX11_referRefusal_X5_whyNoReferral : GoodIn wsX11_referRefusal wsX5_whyNoReferral := goodIn_r _ [43, 44, 45, 46, 47, 48, 49, 19, 13, 20, 21, 15, 22, 50, 51, 52, 53, 54, 55, 56, 57, 58, 59, 60, 61, 62, 63, 64, 65, 66, 42, 67, 68, 69, 70, 71, 72, 73, 74, 75, 76, 77, 78, 79, 80, 81, 82, 83, 84, 85, 86, 87, 96, 97, 98, 99, 100, 101, 102, 103, 104, 105, 106, 107, 108, 109, 110, 111, 112, 113, 114, 115, 116, 117, 118, 119, 120, 121, 122, 123, 124, 125, 126, 127, 128, 129] (by decide +kernel) (by decide +kernel)
set_option maxRecDepth 20000 in
theorem gX11_referRefusal_X5_whyNoReferral : GoodIn wsX11_referRefusal (wsV RX11 204 RX5 yX5_whyNoReferral wsX5_whyNoReferral) := goodIn_app (goodIn_of _ (by decide +kernel)) ggX11_referRefusal_X5_whyNoReferral
theorem dX11_referRefusal_0 : decode cX11_referRefusal 0 = .ok (.aload_n 0, 1) := by decide +kernel
theorem dX11_referRefusal_1 : decode cX11_referRefusal 1 = .ok (.iload_n 1, 1) := by decide +kernel
theorem dX11_referRefusal_2 : decode cX11_referRefusal 2 = .ok (.invokevirtual 184, 3) := by decide +kernel
theorem dX11_referRefusal_5 : decode cX11_referRefusal 5 = .ok (.istore_n 3, 1) := by decide +kernel
theorem dX11_referRefusal_6 : decode cX11_referRefusal 6 = .ok (.aload_n 0, 1) := by decide +kernel
theorem dX11_referRefusal_7 : decode cX11_referRefusal 7 = .ok (.iload_n 2, 1) := by decide +kernel
theorem dX11_referRefusal_8 : decode cX11_referRefusal 8 = .ok (.invokevirtual 147, 3) := by decide +kernel
theorem dX11_referRefusal_11 : decode cX11_referRefusal 11 = .ok (.aload_n 0, 1) := by decide +kernel
theorem dX11_referRefusal_12 : decode cX11_referRefusal 12 = .ok (.getfield 33, 3) := by decide +kernel
theorem dX11_referRefusal_15 : decode cX11_referRefusal 15 = .ok (.iload_n 3, 1) := by decide +kernel
theorem dX11_referRefusal_16 : decode cX11_referRefusal 16 = .ok (.iload_n 2, 1) := by decide +kernel
theorem dX11_referRefusal_17 : decode cX11_referRefusal 17 = .ok (.invokevirtual 204, 3) := by decide +kernel
theorem dX11_referRefusal_20 : decode cX11_referRefusal 20 = .ok (.ireturn, 1) := by decide +kernel
set_option maxRecDepth 20000 in
theorem ggX11_requestRefusal_X11_rowOf : GoodIn wsX11_requestRefusal wsX11_rowOf := goodIn_ca (goodIn_r _ [6, 7, 8, 1, 9, 10, 11, 12, 13, 14, 15, 16, 17, 18, 19, 20, 21, 22, 23, 24, 25, 26, 27, 86, 87, 88, 89, 90, 91, 92, 93, 94, 95, 96, 97, 98, 99, 100, 101, 102, 103, 104, 105, 106, 107, 108, 109, 110, 111, 112, 113, 114, 115, 116, 117, 118, 119, 120, 121, 122, 123, 124, 125, 126, 127] (by decide +kernel) (by decide +kernel)) (goodIn_sub (fun _ h => List.mem_cons_of_mem _ (List.mem_append_left _ (List.mem_append_right _ h))) (by decide +kernel))
set_option maxRecDepth 20000 in
theorem gX11_requestRefusal_X11_rowOf : GoodIn wsX11_requestRefusal (wsV RX11 184 RX11 yX11_rowOf wsX11_rowOf) := goodIn_app (goodIn_of _ (by decide +kernel)) ggX11_requestRefusal_X11_rowOf
set_option maxRecDepth 20000 in
theorem ggX11_requestRefusal_X11_checkService : GoodIn wsX11_requestRefusal wsX11_checkService := goodIn_ca (goodIn_r _ [31, 32, 33, 1, 34, 35, 36, 37, 13, 38, 15, 86, 87, 88, 89, 90, 91, 92, 93, 94, 95, 96, 97, 98, 99, 100, 101, 102, 103, 104, 105, 106, 107, 108, 109, 110, 111, 112, 113, 114, 115, 116, 117, 118, 119, 120, 121, 122, 123, 124, 125, 126, 127] (by decide +kernel) (by decide +kernel)) (goodIn_sub (fun _ h => List.mem_cons_of_mem _ (List.mem_append_right _ h)) (by decide +kernel))
set_option maxRecDepth 20000 in
theorem gX11_requestRefusal_X11_checkService : GoodIn wsX11_requestRefusal (wsV RX11 170 RX11 yX11_checkService wsX11_checkService) := goodIn_app (goodIn_of _ (by decide +kernel)) ggX11_requestRefusal_X11_checkService
set_option maxRecDepth 20000 in
theorem ggX11_requestRefusal_X5_whyNoRequest : GoodIn wsX11_requestRefusal wsX5_whyNoRequest := goodIn_r _ [43, 44, 45, 46, 47, 48, 49, 19, 13, 20, 21, 15, 22, 50, 51, 52, 53, 54, 55, 56, 57, 58, 59, 60, 61, 42, 62, 63, 64, 65, 66, 67, 68, 69, 70, 71, 72, 73, 74, 75, 76, 77, 78, 79, 80, 81, 82, 83, 84, 85, 94, 95, 96, 97, 98, 99, 100, 101, 102, 103, 104, 105, 106, 107, 108, 109, 110, 111, 112, 113, 114, 115, 116, 117, 118, 119, 120, 121, 122, 123, 124, 125, 126, 127] (by decide +kernel) (by decide +kernel)
set_option maxRecDepth 20000 in
theorem gX11_requestRefusal_X5_whyNoRequest : GoodIn wsX11_requestRefusal (wsV RX11 207 RX5 yX5_whyNoRequest wsX5_whyNoRequest) := goodIn_app (goodIn_of _ (by decide +kernel)) ggX11_requestRefusal_X5_whyNoRequest
theorem dX11_requestRefusal_0 : decode cX11_requestRefusal 0 = .ok (.aload_n 0, 1) := by decide +kernel
theorem dX11_requestRefusal_1 : decode cX11_requestRefusal 1 = .ok (.iload_n 1, 1) := by decide +kernel
theorem dX11_requestRefusal_2 : decode cX11_requestRefusal 2 = .ok (.invokevirtual 184, 3) := by decide +kernel
theorem dX11_requestRefusal_5 : decode cX11_requestRefusal 5 = .ok (.istore_n 3, 1) := by decide +kernel
theorem dX11_requestRefusal_6 : decode cX11_requestRefusal 6 = .ok (.aload_n 0, 1) := by decide +kernel
theorem dX11_requestRefusal_7 : decode cX11_requestRefusal 7 = .ok (.iload_n 2, 1) := by decide +kernel
theorem dX11_requestRefusal_8 : decode cX11_requestRefusal 8 = .ok (.invokevirtual 170, 3) := by decide +kernel
theorem dX11_requestRefusal_11 : decode cX11_requestRefusal 11 = .ok (.aload_n 0, 1) := by decide +kernel
theorem dX11_requestRefusal_12 : decode cX11_requestRefusal 12 = .ok (.getfield 33, 3) := by decide +kernel
theorem dX11_requestRefusal_15 : decode cX11_requestRefusal 15 = .ok (.iload_n 3, 1) := by decide +kernel
theorem dX11_requestRefusal_16 : decode cX11_requestRefusal 16 = .ok (.iload_n 2, 1) := by decide +kernel
theorem dX11_requestRefusal_17 : decode cX11_requestRefusal 17 = .ok (.invokevirtual 207, 3) := by decide +kernel
theorem dX11_requestRefusal_20 : decode cX11_requestRefusal 20 = .ok (.ireturn, 1) := by decide +kernel
set_option maxRecDepth 20000 in
theorem ggX11_renewRefusal_X11_rowOf : GoodIn wsX11_renewRefusal wsX11_rowOf := goodIn_ca (goodIn_r _ [6, 7, 8, 1, 9, 10, 11, 12, 13, 14, 15, 16, 17, 18, 19, 20, 21, 22, 23, 24, 25, 26, 27, 60, 61, 62, 63, 64, 65, 66, 67, 68, 69, 70, 71, 72, 73, 74, 75, 76, 77, 78, 79, 80, 81, 82, 83, 84, 85, 86, 87, 88, 89, 90, 91, 92, 93, 94, 95, 96, 97, 98, 99, 100, 101] (by decide +kernel) (by decide +kernel)) (goodIn_sub (fun _ h => List.mem_cons_of_mem _ (List.mem_append_right _ h)) (by decide +kernel))
set_option maxRecDepth 20000 in
theorem gX11_renewRefusal_X11_rowOf : GoodIn wsX11_renewRefusal (wsV RX11 184 RX11 yX11_rowOf wsX11_rowOf) := goodIn_app (goodIn_of _ (by decide +kernel)) ggX11_renewRefusal_X11_rowOf
set_option maxRecDepth 20000 in
theorem ggX11_renewRefusal_X5_whyNoRenewal : GoodIn wsX11_renewRefusal wsX5_whyNoRenewal := goodIn_r _ [32, 33, 34, 35, 36, 37, 38, 39, 40, 41, 42, 19, 13, 20, 21, 15, 22, 43, 44, 45, 46, 47, 48, 49, 31, 50, 51, 52, 53, 54, 55, 56, 57, 58, 59, 68, 69, 70, 71, 72, 73, 74, 75, 76, 77, 78, 79, 80, 81, 82, 83, 84, 85, 86, 87, 88, 89, 90, 91, 92, 93, 94, 95, 96, 97, 98, 99, 100, 101] (by decide +kernel) (by decide +kernel)
set_option maxRecDepth 20000 in
theorem gX11_renewRefusal_X5_whyNoRenewal : GoodIn wsX11_renewRefusal (wsV RX11 210 RX5 yX5_whyNoRenewal wsX5_whyNoRenewal) := goodIn_app (goodIn_of _ (by decide +kernel)) ggX11_renewRefusal_X5_whyNoRenewal
theorem dX11_renewRefusal_0 : decode cX11_renewRefusal 0 = .ok (.aload_n 0, 1) := by decide +kernel
theorem dX11_renewRefusal_1 : decode cX11_renewRefusal 1 = .ok (.getfield 33, 3) := by decide +kernel
theorem dX11_renewRefusal_4 : decode cX11_renewRefusal 4 = .ok (.aload_n 0, 1) := by decide +kernel
theorem dX11_renewRefusal_5 : decode cX11_renewRefusal 5 = .ok (.iload_n 1, 1) := by decide +kernel
theorem dX11_renewRefusal_6 : decode cX11_renewRefusal 6 = .ok (.invokevirtual 184, 3) := by decide +kernel
theorem dX11_renewRefusal_9 : decode cX11_renewRefusal 9 = .ok (.invokevirtual 210, 3) := by decide +kernel
theorem dX11_renewRefusal_12 : decode cX11_renewRefusal 12 = .ok (.ireturn, 1) := by decide +kernel
set_option maxRecDepth 20000 in
theorem ggX11_cheeseRefusal_X11_rowOf : GoodIn wsX11_cheeseRefusal wsX11_rowOf := goodIn_ca (goodIn_r _ [6, 7, 8, 1, 9, 10, 11, 12, 13, 14, 15, 16, 17, 18, 19, 20, 21, 22, 23, 24, 25, 26, 27, 83, 84, 85, 86, 87, 88, 89, 90, 91, 92, 93, 94, 95, 96, 97, 98, 99, 100, 101, 102, 103, 104, 105, 106, 107, 108, 109, 110, 111, 112, 113, 114, 115, 116, 117, 118, 119, 120, 121, 122, 123, 124] (by decide +kernel) (by decide +kernel)) (goodIn_sub (fun _ h => List.mem_cons_of_mem _ (List.mem_append_right _ h)) (by decide +kernel))
set_option maxRecDepth 20000 in
theorem gX11_cheeseRefusal_X11_rowOf : GoodIn wsX11_cheeseRefusal (wsV RX11 184 RX11 yX11_rowOf wsX11_rowOf) := goodIn_app (goodIn_of _ (by decide +kernel)) ggX11_cheeseRefusal_X11_rowOf
set_option maxRecDepth 20000 in
theorem ggX11_cheeseRefusal_X5_whyNoCheese : GoodIn wsX11_cheeseRefusal wsX5_whyNoCheese := goodIn_r _ [32, 33, 34, 35, 36, 37, 38, 39, 40, 41, 19, 13, 20, 21, 15, 22, 42, 43, 44, 45, 46, 47, 48, 49, 50, 31, 51, 52, 53, 54, 55, 56, 57, 58, 59, 60, 61, 62, 63, 64, 65, 66, 67, 68, 69, 70, 71, 72, 73, 74, 75, 76, 77, 78, 79, 80, 81, 82, 91, 92, 93, 94, 95, 96, 97, 98, 99, 100, 101, 102, 103, 104, 105, 106, 107, 108, 109, 110, 111, 112, 113, 114, 115, 116, 117, 118, 119, 120, 121, 122, 123, 124] (by decide +kernel) (by decide +kernel)
set_option maxRecDepth 20000 in
theorem gX11_cheeseRefusal_X5_whyNoCheese : GoodIn wsX11_cheeseRefusal (wsV RX11 213 RX5 yX5_whyNoCheese wsX5_whyNoCheese) := goodIn_app (goodIn_of _ (by decide +kernel)) ggX11_cheeseRefusal_X5_whyNoCheese
theorem dX11_cheeseRefusal_0 : decode cX11_cheeseRefusal 0 = .ok (.aload_n 0, 1) := by decide +kernel
theorem dX11_cheeseRefusal_1 : decode cX11_cheeseRefusal 1 = .ok (.getfield 33, 3) := by decide +kernel
theorem dX11_cheeseRefusal_4 : decode cX11_cheeseRefusal 4 = .ok (.aload_n 0, 1) := by decide +kernel
theorem dX11_cheeseRefusal_5 : decode cX11_cheeseRefusal 5 = .ok (.iload_n 1, 1) := by decide +kernel
theorem dX11_cheeseRefusal_6 : decode cX11_cheeseRefusal 6 = .ok (.invokevirtual 184, 3) := by decide +kernel
theorem dX11_cheeseRefusal_9 : decode cX11_cheeseRefusal 9 = .ok (.iconst 0, 1) := by decide +kernel
theorem dX11_cheeseRefusal_10 : decode cX11_cheeseRefusal 10 = .ok (.invokevirtual 213, 3) := by decide +kernel
theorem dX11_cheeseRefusal_13 : decode cX11_cheeseRefusal 13 = .ok (.ireturn, 1) := by decide +kernel
set_option maxRecDepth 20000 in
theorem ggX11_validTickets_X7_countAlive : GoodIn wsX11_validTickets wsX7_countAlive := goodIn_r _ [6, 7, 8, 9, 10, 11, 12, 13, 14, 15, 16, 5, 17, 18, 19, 20, 21, 22, 23, 24, 43, 44, 45, 46, 47, 48, 49, 50, 51, 52, 53, 54, 55, 56, 57, 58, 59, 60, 61, 62, 63, 64, 65, 66] (by decide +kernel) (by decide +kernel)
set_option maxRecDepth 20000 in
theorem gX11_validTickets_X7_countAlive : GoodIn wsX11_validTickets (wsV RX11 216 RX7 yX7_countAlive wsX7_countAlive) := goodIn_app (goodIn_of _ (by decide +kernel)) ggX11_validTickets_X7_countAlive
theorem dX11_validTickets_0 : decode cX11_validTickets 0 = .ok (.aload_n 0, 1) := by decide +kernel
theorem dX11_validTickets_1 : decode cX11_validTickets 1 = .ok (.getfield 33, 3) := by decide +kernel
theorem dX11_validTickets_4 : decode cX11_validTickets 4 = .ok (.getfield 98, 3) := by decide +kernel
theorem dX11_validTickets_7 : decode cX11_validTickets 7 = .ok (.aload_n 0, 1) := by decide +kernel
theorem dX11_validTickets_8 : decode cX11_validTickets 8 = .ok (.getfield 33, 3) := by decide +kernel
theorem dX11_validTickets_11 : decode cX11_validTickets 11 = .ok (.getfield 112, 3) := by decide +kernel
theorem dX11_validTickets_14 : decode cX11_validTickets 14 = .ok (.invokevirtual 216, 3) := by decide +kernel
theorem dX11_validTickets_17 : decode cX11_validTickets 17 = .ok (.ireturn, 1) := by decide +kernel
set_option maxRecDepth 20000 in
theorem ggX11_validAfter_X7_countAlive : GoodIn wsX11_validAfter wsX7_countAlive := goodIn_r _ [8, 9, 10, 11, 12, 13, 14, 15, 16, 17, 18, 7, 19, 20, 21, 22, 23, 24, 25, 26, 45, 46, 47, 48, 49, 50, 51, 52, 53, 54, 55, 56, 57, 58, 59, 60, 61, 62, 63, 64, 65, 66, 67, 68] (by decide +kernel) (by decide +kernel)
set_option maxRecDepth 20000 in
theorem gX11_validAfter_X7_countAlive : GoodIn wsX11_validAfter (wsV RX11 216 RX7 yX7_countAlive wsX7_countAlive) := goodIn_app (goodIn_of _ (by decide +kernel)) ggX11_validAfter_X7_countAlive
theorem dX11_validAfter_0 : decode cX11_validAfter 0 = .ok (.iload_n 1, 1) := by decide +kernel
theorem dX11_validAfter_1 : decode cX11_validAfter 1 = .ok (.ifCond .lt 10, 3) := by decide +kernel
theorem dX11_validAfter_4 : decode cX11_validAfter 4 = .ok (.iload_n 1, 1) := by decide +kernel
theorem dX11_validAfter_5 : decode cX11_validAfter 5 = .ok (.sipush 999, 3) := by decide +kernel
theorem dX11_validAfter_8 : decode cX11_validAfter 8 = .ok (.if_icmp .le 13, 3) := by decide +kernel
theorem dX11_validAfter_11 : decode cX11_validAfter 11 = .ok (.new 88, 3) := by decide +kernel
theorem dX11_validAfter_14 : decode cX11_validAfter 14 = .ok (.dup, 1) := by decide +kernel
theorem dX11_validAfter_15 : decode cX11_validAfter 15 = .ok (.ldc 219, 2) := by decide +kernel
theorem dX11_validAfter_17 : decode cX11_validAfter 17 = .ok (.invokespecial 92, 3) := by decide +kernel
theorem dX11_validAfter_20 : decode cX11_validAfter 20 = .ok (.athrow, 1) := by decide +kernel
theorem dX11_validAfter_21 : decode cX11_validAfter 21 = .ok (.aload_n 0, 1) := by decide +kernel
theorem dX11_validAfter_22 : decode cX11_validAfter 22 = .ok (.getfield 33, 3) := by decide +kernel
theorem dX11_validAfter_25 : decode cX11_validAfter 25 = .ok (.getfield 98, 3) := by decide +kernel
theorem dX11_validAfter_28 : decode cX11_validAfter 28 = .ok (.aload_n 0, 1) := by decide +kernel
theorem dX11_validAfter_29 : decode cX11_validAfter 29 = .ok (.getfield 33, 3) := by decide +kernel
theorem dX11_validAfter_32 : decode cX11_validAfter 32 = .ok (.getfield 112, 3) := by decide +kernel
theorem dX11_validAfter_35 : decode cX11_validAfter 35 = .ok (.iload_n 1, 1) := by decide +kernel
theorem dX11_validAfter_36 : decode cX11_validAfter 36 = .ok (.iadd, 1) := by decide +kernel
theorem dX11_validAfter_37 : decode cX11_validAfter 37 = .ok (.invokevirtual 216, 3) := by decide +kernel
theorem dX11_validAfter_40 : decode cX11_validAfter 40 = .ok (.ireturn, 1) := by decide +kernel
set_option maxRecDepth 20000 in
theorem ggX11_minutesUntilCheese_X11_rowOf : GoodIn wsX11_minutesUntilCheese wsX11_rowOf := goodIn_ca (goodIn_r _ [6, 7, 8, 1, 9, 10, 11, 12, 13, 14, 15, 16, 17, 18, 19, 20, 21, 22, 23, 24, 25, 26, 27, 83, 84, 85, 86, 87, 88, 89, 90, 91, 92, 93, 94, 95, 96, 97, 98, 99, 100, 101, 102, 103, 104, 105, 106, 107, 108, 109, 110, 111, 112, 113, 114, 115, 116, 117, 118, 119, 120, 121, 122, 123, 124] (by decide +kernel) (by decide +kernel)) (goodIn_sub (fun _ h => List.mem_cons_of_mem _ (List.mem_append_right _ h)) (by decide +kernel))
set_option maxRecDepth 20000 in
theorem gX11_minutesUntilCheese_X11_rowOf : GoodIn wsX11_minutesUntilCheese (wsV RX11 184 RX11 yX11_rowOf wsX11_rowOf) := goodIn_app (goodIn_of _ (by decide +kernel)) ggX11_minutesUntilCheese_X11_rowOf
set_option maxRecDepth 20000 in
theorem ggX11_minutesUntilCheese_X5_whyNoCheese : GoodIn wsX11_minutesUntilCheese wsX5_whyNoCheese := goodIn_r _ [32, 33, 34, 35, 36, 37, 38, 39, 40, 41, 19, 13, 20, 21, 15, 22, 42, 43, 44, 45, 46, 47, 48, 49, 50, 31, 51, 52, 53, 54, 55, 56, 57, 58, 59, 60, 61, 62, 63, 64, 65, 66, 67, 68, 69, 70, 71, 72, 73, 74, 75, 76, 77, 78, 79, 80, 81, 82, 91, 92, 93, 94, 95, 96, 97, 98, 99, 100, 101, 102, 103, 104, 105, 106, 107, 108, 109, 110, 111, 112, 113, 114, 115, 116, 117, 118, 119, 120, 121, 122, 123, 124] (by decide +kernel) (by decide +kernel)
set_option maxRecDepth 20000 in
theorem gX11_minutesUntilCheese_X5_whyNoCheese : GoodIn wsX11_minutesUntilCheese (wsV RX11 213 RX5 yX5_whyNoCheese wsX5_whyNoCheese) := goodIn_app (goodIn_of _ (by decide +kernel)) ggX11_minutesUntilCheese_X5_whyNoCheese
theorem dX11_minutesUntilCheese_0 : decode cX11_minutesUntilCheese 0 = .ok (.aload_n 0, 1) := by decide +kernel
theorem dX11_minutesUntilCheese_1 : decode cX11_minutesUntilCheese 1 = .ok (.iload_n 1, 1) := by decide +kernel
theorem dX11_minutesUntilCheese_2 : decode cX11_minutesUntilCheese 2 = .ok (.invokevirtual 184, 3) := by decide +kernel
theorem dX11_minutesUntilCheese_5 : decode cX11_minutesUntilCheese 5 = .ok (.istore_n 2, 1) := by decide +kernel
theorem dX11_minutesUntilCheese_6 : decode cX11_minutesUntilCheese 6 = .ok (.iconst 0, 1) := by decide +kernel
theorem dX11_minutesUntilCheese_7 : decode cX11_minutesUntilCheese 7 = .ok (.istore_n 3, 1) := by decide +kernel
theorem dX11_minutesUntilCheese_8 : decode cX11_minutesUntilCheese 8 = .ok (.iload_n 3, 1) := by decide +kernel
theorem dX11_minutesUntilCheese_9 : decode cX11_minutesUntilCheese 9 = .ok (.bipush 20, 2) := by decide +kernel
theorem dX11_minutesUntilCheese_11 : decode cX11_minutesUntilCheese 11 = .ok (.if_icmp .gt 23, 3) := by decide +kernel
theorem dX11_minutesUntilCheese_14 : decode cX11_minutesUntilCheese 14 = .ok (.aload_n 0, 1) := by decide +kernel
theorem dX11_minutesUntilCheese_15 : decode cX11_minutesUntilCheese 15 = .ok (.getfield 33, 3) := by decide +kernel
theorem dX11_minutesUntilCheese_18 : decode cX11_minutesUntilCheese 18 = .ok (.iload_n 2, 1) := by decide +kernel
theorem dX11_minutesUntilCheese_19 : decode cX11_minutesUntilCheese 19 = .ok (.iload_n 3, 1) := by decide +kernel
theorem dX11_minutesUntilCheese_20 : decode cX11_minutesUntilCheese 20 = .ok (.invokevirtual 213, 3) := by decide +kernel
theorem dX11_minutesUntilCheese_23 : decode cX11_minutesUntilCheese 23 = .ok (.ifCond .ne 5, 3) := by decide +kernel
theorem dX11_minutesUntilCheese_26 : decode cX11_minutesUntilCheese 26 = .ok (.iload_n 3, 1) := by decide +kernel
theorem dX11_minutesUntilCheese_27 : decode cX11_minutesUntilCheese 27 = .ok (.ireturn, 1) := by decide +kernel
theorem dX11_minutesUntilCheese_28 : decode cX11_minutesUntilCheese 28 = .ok (.iinc 3 1, 3) := by decide +kernel
theorem dX11_minutesUntilCheese_31 : decode cX11_minutesUntilCheese 31 = .ok (.goto (-23), 3) := by decide +kernel
theorem dX11_minutesUntilCheese_34 : decode cX11_minutesUntilCheese 34 = .ok (.iconst (-1), 1) := by decide +kernel
theorem dX11_minutesUntilCheese_35 : decode cX11_minutesUntilCheese 35 = .ok (.ireturn, 1) := by decide +kernel
set_option maxRecDepth 20000 in
theorem ggX11_bestTicket_X11_checkUser : GoodIn wsX11_bestTicket wsX11_checkUser := goodIn_ca (goodIn_r _ [6, 7, 8, 1, 9, 10, 11, 12, 13, 14, 15, 45, 46, 47, 48, 49, 50, 51, 52, 53, 54, 55, 56, 57, 58, 59, 60, 61, 62, 63, 64, 65, 66, 67, 68, 69, 70, 71, 72, 73, 74, 75, 76, 77, 78, 79, 80, 81, 82, 83, 84, 85, 86] (by decide +kernel) (by decide +kernel)) (goodIn_sub (fun _ h => List.mem_cons_of_mem _ (List.mem_append_right _ h)) (by decide +kernel))
set_option maxRecDepth 20000 in
theorem gX11_bestTicket_X11_checkUser : GoodIn wsX11_bestTicket (wsV RX11 163 RX11 yX11_checkUser wsX11_checkUser) := goodIn_app (goodIn_of _ (by decide +kernel)) ggX11_bestTicket_X11_checkUser
set_option maxRecDepth 20000 in
theorem ggX11_bestTicket_X11_checkService : GoodIn wsX11_bestTicket wsX11_checkService := goodIn_ca (goodIn_r _ [19, 7, 8, 1, 20, 21, 22, 12, 13, 14, 15, 45, 46, 47, 48, 49, 50, 51, 52, 53, 54, 55, 56, 57, 58, 59, 60, 61, 62, 63, 64, 65, 66, 67, 68, 69, 70, 71, 72, 73, 74, 75, 76, 77, 78, 79, 80, 81, 82, 83, 84, 85, 86] (by decide +kernel) (by decide +kernel)) (goodIn_sub (fun _ h => List.mem_cons_of_mem _ (List.mem_append_right _ h)) (by decide +kernel))
set_option maxRecDepth 20000 in
theorem gX11_bestTicket_X11_checkService : GoodIn wsX11_bestTicket (wsV RX11 170 RX11 yX11_checkService wsX11_checkService) := goodIn_app (goodIn_of _ (by decide +kernel)) ggX11_bestTicket_X11_checkService
set_option maxRecDepth 20000 in
theorem ggX11_bestTicket_X7_longestAlive : GoodIn wsX11_bestTicket wsX7_longestAlive := goodIn_r _ [27, 28, 29, 30, 31, 13, 32, 15, 33, 34, 35, 36, 37, 38, 39, 40, 41, 42, 26, 43, 63, 64, 65, 66, 67, 68, 69, 70, 71, 72, 73, 74, 75, 76, 77, 78, 79, 80, 81, 82, 83, 84, 85, 86] (by decide +kernel) (by decide +kernel)
set_option maxRecDepth 20000 in
theorem gX11_bestTicket_X7_longestAlive : GoodIn wsX11_bestTicket (wsV RX11 221 RX7 yX7_longestAlive wsX7_longestAlive) := goodIn_app (goodIn_of _ (by decide +kernel)) ggX11_bestTicket_X7_longestAlive
set_option maxRecDepth 20000 in
theorem ggX11_bestTicket_X6_get : GoodIn wsX11_bestTicket wsX6_get := goodIn_r _ [37, 38, 15, 39, 63, 64, 65, 66, 67, 68, 69, 70, 71, 72, 73, 74, 75, 76, 77, 78, 79, 80, 81, 82, 83, 84, 85, 86] (by decide +kernel) (by decide +kernel)
set_option maxRecDepth 20000 in
theorem gX11_bestTicket_X6_get_u183X7 : GoodIn wsX11_bestTicket (va_wsU RX11 183 RX7 "TicketGate$Table" ⟨"TicketGate$Tickets", "get", "(II)I"⟩ yX6_get wsX6_get) := goodIn_app (goodIn_of _ (by decide +kernel)) ggX11_bestTicket_X6_get
theorem dX11_bestTicket_0 : decode cX11_bestTicket 0 = .ok (.aload_n 0, 1) := by decide +kernel
theorem dX11_bestTicket_1 : decode cX11_bestTicket 1 = .ok (.iload_n 1, 1) := by decide +kernel
theorem dX11_bestTicket_2 : decode cX11_bestTicket 2 = .ok (.invokevirtual 163, 3) := by decide +kernel
theorem dX11_bestTicket_5 : decode cX11_bestTicket 5 = .ok (.aload_n 0, 1) := by decide +kernel
theorem dX11_bestTicket_6 : decode cX11_bestTicket 6 = .ok (.iload_n 2, 1) := by decide +kernel
theorem dX11_bestTicket_7 : decode cX11_bestTicket 7 = .ok (.invokevirtual 170, 3) := by decide +kernel
theorem dX11_bestTicket_10 : decode cX11_bestTicket 10 = .ok (.aload_n 0, 1) := by decide +kernel
theorem dX11_bestTicket_11 : decode cX11_bestTicket 11 = .ok (.getfield 33, 3) := by decide +kernel
theorem dX11_bestTicket_14 : decode cX11_bestTicket 14 = .ok (.getfield 98, 3) := by decide +kernel
theorem dX11_bestTicket_17 : decode cX11_bestTicket 17 = .ok (.iload_n 1, 1) := by decide +kernel
theorem dX11_bestTicket_18 : decode cX11_bestTicket 18 = .ok (.iload_n 2, 1) := by decide +kernel
theorem dX11_bestTicket_19 : decode cX11_bestTicket 19 = .ok (.aload_n 0, 1) := by decide +kernel
theorem dX11_bestTicket_20 : decode cX11_bestTicket 20 = .ok (.getfield 33, 3) := by decide +kernel
theorem dX11_bestTicket_23 : decode cX11_bestTicket 23 = .ok (.getfield 112, 3) := by decide +kernel
theorem dX11_bestTicket_26 : decode cX11_bestTicket 26 = .ok (.invokevirtual 221, 3) := by decide +kernel
theorem dX11_bestTicket_29 : decode cX11_bestTicket 29 = .ok (.istore_n 3, 1) := by decide +kernel
theorem dX11_bestTicket_30 : decode cX11_bestTicket 30 = .ok (.iload_n 3, 1) := by decide +kernel
theorem dX11_bestTicket_31 : decode cX11_bestTicket 31 = .ok (.iconst (-1), 1) := by decide +kernel
theorem dX11_bestTicket_32 : decode cX11_bestTicket 32 = .ok (.if_icmp .ne 7, 3) := by decide +kernel
theorem dX11_bestTicket_35 : decode cX11_bestTicket 35 = .ok (.iconst (-1), 1) := by decide +kernel
theorem dX11_bestTicket_36 : decode cX11_bestTicket 36 = .ok (.goto 15, 3) := by decide +kernel
theorem dX11_bestTicket_39 : decode cX11_bestTicket 39 = .ok (.aload_n 0, 1) := by decide +kernel
theorem dX11_bestTicket_40 : decode cX11_bestTicket 40 = .ok (.getfield 33, 3) := by decide +kernel
theorem dX11_bestTicket_43 : decode cX11_bestTicket 43 = .ok (.getfield 98, 3) := by decide +kernel
theorem dX11_bestTicket_46 : decode cX11_bestTicket 46 = .ok (.iload_n 3, 1) := by decide +kernel
theorem dX11_bestTicket_47 : decode cX11_bestTicket 47 = .ok (.iconst 0, 1) := by decide +kernel
theorem dX11_bestTicket_48 : decode cX11_bestTicket 48 = .ok (.invokevirtual 183, 3) := by decide +kernel
theorem dX11_bestTicket_51 : decode cX11_bestTicket 51 = .ok (.ireturn, 1) := by decide +kernel
set_option maxRecDepth 20000 in
theorem ggX11_useCount_X6_size : GoodIn wsX11_useCount wsX6_size := goodIn_r _ [7, 8, 27, 28, 29, 30, 31, 32, 33, 34, 35, 36, 37, 38, 39, 40, 41, 42, 43, 44, 45, 46, 47, 48, 49, 50] (by decide +kernel) (by decide +kernel)
set_option maxRecDepth 20000 in
theorem gX11_useCount_X6_size_u229X9 : GoodIn wsX11_useCount (va_wsU RX11 229 RX9 "TicketGate$Table" ⟨"TicketGate$Uses", "size", "()I"⟩ yX6_size wsX6_size) := goodIn_app (goodIn_of _ (by decide +kernel)) ggX11_useCount_X6_size
theorem dX11_useCount_0 : decode cX11_useCount 0 = .ok (.aload_n 0, 1) := by decide +kernel
theorem dX11_useCount_1 : decode cX11_useCount 1 = .ok (.getfield 33, 3) := by decide +kernel
theorem dX11_useCount_4 : decode cX11_useCount 4 = .ok (.getfield 225, 3) := by decide +kernel
theorem dX11_useCount_7 : decode cX11_useCount 7 = .ok (.invokevirtual 229, 3) := by decide +kernel
theorem dX11_useCount_10 : decode cX11_useCount 10 = .ok (.ireturn, 1) := by decide +kernel
set_option maxRecDepth 20000 in
theorem ggX11_cheeseDifference_X6_sumOf : GoodIn wsX11_cheeseDifference wsX6_sumOf := goodIn_r _ [7, 8, 9, 10, 11, 12, 6, 13, 14, 15, 16, 17, 18, 19, 20, 42, 43, 44, 45, 46, 47, 48, 49, 50, 51, 52, 53, 54, 55, 56, 57, 58, 59, 60, 61, 62, 63, 64, 65] (by decide +kernel) (by decide +kernel)
set_option maxRecDepth 20000 in
theorem gX11_cheeseDifference_X6_sumOf_u235X3 : GoodIn wsX11_cheeseDifference (va_wsU RX11 235 RX3 "TicketGate$Table" ⟨"TicketGate$Services", "sumOf", "(I)I"⟩ yX6_sumOf wsX6_sumOf) := goodIn_app (goodIn_of _ (by decide +kernel)) ggX11_cheeseDifference_X6_sumOf
set_option maxRecDepth 20000 in
theorem gX11_cheeseDifference_X6_sumOf_u238X8 : GoodIn wsX11_cheeseDifference (va_wsU RX11 238 RX8 "TicketGate$Table" ⟨"TicketGate$Users", "sumOf", "(I)I"⟩ yX6_sumOf wsX6_sumOf) := goodIn_app (goodIn_of _ (by decide +kernel)) ggX11_cheeseDifference_X6_sumOf
theorem dX11_cheeseDifference_0 : decode cX11_cheeseDifference 0 = .ok (.aload_n 0, 1) := by decide +kernel
theorem dX11_cheeseDifference_1 : decode cX11_cheeseDifference 1 = .ok (.getfield 33, 3) := by decide +kernel
theorem dX11_cheeseDifference_4 : decode cX11_cheeseDifference 4 = .ok (.getfield 232, 3) := by decide +kernel
theorem dX11_cheeseDifference_7 : decode cX11_cheeseDifference 7 = .ok (.aload_n 0, 1) := by decide +kernel
theorem dX11_cheeseDifference_8 : decode cX11_cheeseDifference 8 = .ok (.getfield 33, 3) := by decide +kernel
theorem dX11_cheeseDifference_11 : decode cX11_cheeseDifference 11 = .ok (.getfield 132, 3) := by decide +kernel
theorem dX11_cheeseDifference_14 : decode cX11_cheeseDifference 14 = .ok (.iconst 2, 1) := by decide +kernel
theorem dX11_cheeseDifference_15 : decode cX11_cheeseDifference 15 = .ok (.invokevirtual 235, 3) := by decide +kernel
theorem dX11_cheeseDifference_18 : decode cX11_cheeseDifference 18 = .ok (.isub, 1) := by decide +kernel
theorem dX11_cheeseDifference_19 : decode cX11_cheeseDifference 19 = .ok (.aload_n 0, 1) := by decide +kernel
theorem dX11_cheeseDifference_20 : decode cX11_cheeseDifference 20 = .ok (.getfield 33, 3) := by decide +kernel
theorem dX11_cheeseDifference_23 : decode cX11_cheeseDifference 23 = .ok (.getfield 125, 3) := by decide +kernel
theorem dX11_cheeseDifference_26 : decode cX11_cheeseDifference 26 = .ok (.iconst 4, 1) := by decide +kernel
theorem dX11_cheeseDifference_27 : decode cX11_cheeseDifference 27 = .ok (.invokevirtual 238, 3) := by decide +kernel
theorem dX11_cheeseDifference_30 : decode cX11_cheeseDifference 30 = .ok (.isub, 1) := by decide +kernel
theorem dX11_cheeseDifference_31 : decode cX11_cheeseDifference 31 = .ok (.ireturn, 1) := by decide +kernel
set_option maxRecDepth 20000 in
theorem ggX11_lifeErrors_X7_countLifeErrors : GoodIn wsX11_lifeErrors wsX7_countLifeErrors := goodIn_r _ [6, 7, 8, 9, 10, 11, 12, 13, 14, 15, 16, 17, 18, 19, 20, 39, 40, 41, 42, 43, 44, 45, 46, 47, 48, 49, 50, 51, 52, 53, 54, 55, 56, 57, 58, 59, 60, 61, 62] (by decide +kernel) (by decide +kernel)
set_option maxRecDepth 20000 in
theorem gX11_lifeErrors_X7_countLifeErrors : GoodIn wsX11_lifeErrors (wsV RX11 239 RX7 yX7_countLifeErrors wsX7_countLifeErrors) := goodIn_app (goodIn_of _ (by decide +kernel)) ggX11_lifeErrors_X7_countLifeErrors
theorem dX11_lifeErrors_0 : decode cX11_lifeErrors 0 = .ok (.aload_n 0, 1) := by decide +kernel
theorem dX11_lifeErrors_1 : decode cX11_lifeErrors 1 = .ok (.getfield 33, 3) := by decide +kernel
theorem dX11_lifeErrors_4 : decode cX11_lifeErrors 4 = .ok (.getfield 98, 3) := by decide +kernel
theorem dX11_lifeErrors_7 : decode cX11_lifeErrors 7 = .ok (.invokevirtual 239, 3) := by decide +kernel
theorem dX11_lifeErrors_10 : decode cX11_lifeErrors 10 = .ok (.ireturn, 1) := by decide +kernel
set_option maxRecDepth 20000 in
theorem ggX11_distanceErrors_X2_countDistanceErrors : GoodIn wsX11_distanceErrors wsX2_countDistanceErrors := goodIn_r _ [6, 7, 8, 9, 10, 11, 12, 13, 14, 15, 16, 17, 18, 19, 20, 21, 22, 23, 24, 25, 26, 27, 28, 29, 30, 31, 32, 33, 34, 35, 36, 37, 38, 39, 40, 41, 42, 43, 44, 45, 5, 46, 47, 48, 49, 50, 51, 52, 53, 54, 55, 56, 57, 58, 59, 60, 61, 62, 63, 64, 65, 66, 67, 68, 69, 70, 71, 72, 73, 74, 75, 76, 77, 78, 79, 80, 81, 82, 101, 102, 103, 104, 105, 106, 107, 108, 109, 110, 111, 112, 113, 114, 115, 116, 117, 118, 119, 120, 121, 122, 123, 124] (by decide +kernel) (by decide +kernel)
set_option maxRecDepth 20000 in
theorem gX11_distanceErrors_X2_countDistanceErrors : GoodIn wsX11_distanceErrors (wsV RX11 242 RX2 yX2_countDistanceErrors wsX2_countDistanceErrors) := goodIn_app (goodIn_of _ (by decide +kernel)) ggX11_distanceErrors_X2_countDistanceErrors
theorem dX11_distanceErrors_0 : decode cX11_distanceErrors 0 = .ok (.aload_n 0, 1) := by decide +kernel
theorem dX11_distanceErrors_1 : decode cX11_distanceErrors 1 = .ok (.getfield 33, 3) := by decide +kernel
theorem dX11_distanceErrors_4 : decode cX11_distanceErrors 4 = .ok (.getfield 118, 3) := by decide +kernel
theorem dX11_distanceErrors_7 : decode cX11_distanceErrors 7 = .ok (.invokevirtual 242, 3) := by decide +kernel
theorem dX11_distanceErrors_10 : decode cX11_distanceErrors 10 = .ok (.ireturn, 1) := by decide +kernel
set_option maxRecDepth 20000 in
theorem ggX11_validShare_X6_size : GoodIn wsX11_validShare wsX6_size := goodIn_r _ [7, 8, 49, 50, 51, 52, 53, 54, 55, 56, 57, 58, 59, 60, 61, 62, 63, 64, 65, 66, 67, 68, 69, 70, 71, 72] (by decide +kernel) (by decide +kernel)
set_option maxRecDepth 20000 in
theorem gX11_validShare_X6_size_u102X7 : GoodIn wsX11_validShare (va_wsU RX11 102 RX7 "TicketGate$Table" ⟨"TicketGate$Tickets", "size", "()I"⟩ yX6_size wsX6_size) := goodIn_app (goodIn_of _ (by decide +kernel)) ggX11_validShare_X6_size
set_option maxRecDepth 20000 in
theorem ggX11_validShare_X11_validTickets : GoodIn wsX11_validShare wsX11_validTickets := goodIn_r _ [13, 1, 14, 15, 16, 17, 18, 19, 3, 4, 5, 6, 7, 8, 20, 21, 22, 23, 24, 25, 26, 27, 28, 29, 30, 31, 32, 33, 34, 35, 36, 37, 38, 39, 40, 41, 42, 43, 44, 45, 46, 47, 48, 49, 50, 51, 52, 53, 54, 55, 56, 57, 58, 59, 60, 61, 62, 63, 64, 65, 66, 67, 68, 69, 70, 71, 72] (by decide +kernel) (by decide +kernel)
set_option maxRecDepth 20000 in
theorem gX11_validShare_X11_validTickets : GoodIn wsX11_validShare (wsV RX11 245 RX11 yX11_validTickets wsX11_validTickets) := goodIn_app (goodIn_of _ (by decide +kernel)) ggX11_validShare_X11_validTickets
theorem dX11_validShare_0 : decode cX11_validShare 0 = .ok (.aload_n 0, 1) := by decide +kernel
theorem dX11_validShare_1 : decode cX11_validShare 1 = .ok (.getfield 33, 3) := by decide +kernel
theorem dX11_validShare_4 : decode cX11_validShare 4 = .ok (.getfield 98, 3) := by decide +kernel
theorem dX11_validShare_7 : decode cX11_validShare 7 = .ok (.invokevirtual 102, 3) := by decide +kernel
theorem dX11_validShare_10 : decode cX11_validShare 10 = .ok (.istore_n 1, 1) := by decide +kernel
theorem dX11_validShare_11 : decode cX11_validShare 11 = .ok (.iload_n 1, 1) := by decide +kernel
theorem dX11_validShare_12 : decode cX11_validShare 12 = .ok (.ifCond .ne 7, 3) := by decide +kernel
theorem dX11_validShare_15 : decode cX11_validShare 15 = .ok (.fconst 0, 1) := by decide +kernel
theorem dX11_validShare_16 : decode cX11_validShare 16 = .ok (.goto 11, 3) := by decide +kernel
theorem dX11_validShare_19 : decode cX11_validShare 19 = .ok (.aload_n 0, 1) := by decide +kernel
theorem dX11_validShare_20 : decode cX11_validShare 20 = .ok (.invokevirtual 245, 3) := by decide +kernel
theorem dX11_validShare_23 : decode cX11_validShare 23 = .ok (.i2f, 1) := by decide +kernel
theorem dX11_validShare_24 : decode cX11_validShare 24 = .ok (.iload_n 1, 1) := by decide +kernel
theorem dX11_validShare_25 : decode cX11_validShare 25 = .ok (.i2f, 1) := by decide +kernel
theorem dX11_validShare_26 : decode cX11_validShare 26 = .ok (.fdiv, 1) := by decide +kernel
theorem dX11_validShare_27 : decode cX11_validShare 27 = .ok (.freturn, 1) := by decide +kernel
set_option maxRecDepth 20000 in
theorem ggX11_averageLife_X6_size : GoodIn wsX11_averageLife wsX6_size := goodIn_r _ [7, 8, 44, 45, 46, 47, 48, 49, 50, 51, 52, 53, 54, 55, 56, 57, 58, 59, 60, 61, 62, 63, 64, 65, 66, 67] (by decide +kernel) (by decide +kernel)
set_option maxRecDepth 20000 in
theorem gX11_averageLife_X6_size_u102X7 : GoodIn wsX11_averageLife (va_wsU RX11 102 RX7 "TicketGate$Table" ⟨"TicketGate$Tickets", "size", "()I"⟩ yX6_size wsX6_size) := goodIn_app (goodIn_of _ (by decide +kernel)) ggX11_averageLife_X6_size
set_option maxRecDepth 20000 in
theorem ggX11_averageLife_X6_sumOf : GoodIn wsX11_averageLife wsX6_sumOf := goodIn_r _ [13, 8, 14, 15, 16, 17, 6, 18, 19, 20, 21, 22, 23, 24, 25, 44, 45, 46, 47, 48, 49, 50, 51, 52, 53, 54, 55, 56, 57, 58, 59, 60, 61, 62, 63, 64, 65, 66, 67] (by decide +kernel) (by decide +kernel)
set_option maxRecDepth 20000 in
theorem gX11_averageLife_X6_sumOf_u248X7 : GoodIn wsX11_averageLife (va_wsU RX11 248 RX7 "TicketGate$Table" ⟨"TicketGate$Tickets", "sumOf", "(I)I"⟩ yX6_sumOf wsX6_sumOf) := goodIn_app (goodIn_of _ (by decide +kernel)) ggX11_averageLife_X6_sumOf
theorem dX11_averageLife_0 : decode cX11_averageLife 0 = .ok (.aload_n 0, 1) := by decide +kernel
theorem dX11_averageLife_1 : decode cX11_averageLife 1 = .ok (.getfield 33, 3) := by decide +kernel
theorem dX11_averageLife_4 : decode cX11_averageLife 4 = .ok (.getfield 98, 3) := by decide +kernel
theorem dX11_averageLife_7 : decode cX11_averageLife 7 = .ok (.invokevirtual 102, 3) := by decide +kernel
theorem dX11_averageLife_10 : decode cX11_averageLife 10 = .ok (.istore_n 1, 1) := by decide +kernel
theorem dX11_averageLife_11 : decode cX11_averageLife 11 = .ok (.aload_n 0, 1) := by decide +kernel
theorem dX11_averageLife_12 : decode cX11_averageLife 12 = .ok (.getfield 33, 3) := by decide +kernel
theorem dX11_averageLife_15 : decode cX11_averageLife 15 = .ok (.getfield 98, 3) := by decide +kernel
theorem dX11_averageLife_18 : decode cX11_averageLife 18 = .ok (.bipush 6, 2) := by decide +kernel
theorem dX11_averageLife_20 : decode cX11_averageLife 20 = .ok (.invokevirtual 248, 3) := by decide +kernel
theorem dX11_averageLife_23 : decode cX11_averageLife 23 = .ok (.aload_n 0, 1) := by decide +kernel
theorem dX11_averageLife_24 : decode cX11_averageLife 24 = .ok (.getfield 33, 3) := by decide +kernel
theorem dX11_averageLife_27 : decode cX11_averageLife 27 = .ok (.getfield 98, 3) := by decide +kernel
theorem dX11_averageLife_30 : decode cX11_averageLife 30 = .ok (.iconst 5, 1) := by decide +kernel
theorem dX11_averageLife_31 : decode cX11_averageLife 31 = .ok (.invokevirtual 248, 3) := by decide +kernel
theorem dX11_averageLife_34 : decode cX11_averageLife 34 = .ok (.isub, 1) := by decide +kernel
theorem dX11_averageLife_35 : decode cX11_averageLife 35 = .ok (.istore_n 2, 1) := by decide +kernel
theorem dX11_averageLife_36 : decode cX11_averageLife 36 = .ok (.iload_n 1, 1) := by decide +kernel
theorem dX11_averageLife_37 : decode cX11_averageLife 37 = .ok (.ifCond .ne 7, 3) := by decide +kernel
theorem dX11_averageLife_40 : decode cX11_averageLife 40 = .ok (.dconst 0, 1) := by decide +kernel
theorem dX11_averageLife_41 : decode cX11_averageLife 41 = .ok (.goto 8, 3) := by decide +kernel
theorem dX11_averageLife_44 : decode cX11_averageLife 44 = .ok (.iload_n 2, 1) := by decide +kernel
theorem dX11_averageLife_45 : decode cX11_averageLife 45 = .ok (.i2d, 1) := by decide +kernel
theorem dX11_averageLife_46 : decode cX11_averageLife 46 = .ok (.iload_n 1, 1) := by decide +kernel
theorem dX11_averageLife_47 : decode cX11_averageLife 47 = .ok (.i2d, 1) := by decide +kernel
theorem dX11_averageLife_48 : decode cX11_averageLife 48 = .ok (.ddiv, 1) := by decide +kernel
theorem dX11_averageLife_49 : decode cX11_averageLife 49 = .ok (.dreturn, 1) := by decide +kernel
set_option maxRecDepth 20000 in
theorem ggX11_login_X11_checkUser : GoodIn wsX11_login wsX11_checkUser := goodIn_ca (goodIn_r _ [6, 7, 8, 1, 9, 10, 11, 12, 13, 14, 15, 190, 191, 192, 193, 194, 195, 196, 197, 198, 199, 200, 201, 202, 203, 204, 205, 206, 207, 208, 209, 210, 211, 212, 213, 214, 215, 216, 217, 218, 219, 220, 221, 222, 223, 224, 225, 226, 227, 228, 229, 230, 231] (by decide +kernel) (by decide +kernel)) (goodIn_sub (fun _ h => List.mem_cons_of_mem _ (List.mem_append_left _ (List.mem_append_left _ (List.mem_append_right _ h)))) (by decide +kernel))
set_option maxRecDepth 20000 in
theorem gX11_login_X11_checkUser : GoodIn wsX11_login (wsV RX11 163 RX11 yX11_checkUser wsX11_checkUser) := goodIn_app (goodIn_of _ (by decide +kernel)) ggX11_login_X11_checkUser
set_option maxRecDepth 20000 in
theorem ggX11_login_X11_checkPassword : GoodIn wsX11_login wsX11_checkPassword := goodIn_ca (goodIn_r _ [19, 20, 21] (by decide +kernel) (by decide +kernel)) (goodIn_sub (fun _ h => List.mem_cons_of_mem _ (List.mem_append_left _ (List.mem_append_right _ h))) (by decide +kernel))
set_option maxRecDepth 20000 in
theorem gX11_login_X11_checkPassword : GoodIn wsX11_login (wsV RX11 198 RX11 yX11_checkPassword wsX11_checkPassword) := goodIn_app (goodIn_of _ (by decide +kernel)) ggX11_login_X11_checkPassword
set_option maxRecDepth 20000 in
theorem ggX11_login_X5_whyNoLogin : GoodIn wsX11_login wsX5_whyNoLogin := goodIn_r _ [26, 27, 28, 29, 30, 31, 32, 33, 13, 34, 35, 15, 36, 37, 38, 39, 25, 40, 41, 42, 43, 44, 45, 46, 47, 48, 49, 50, 51, 52, 53, 54, 198, 199, 200, 201, 202, 203, 204, 205, 206, 207, 208, 209, 210, 211, 212, 213, 214, 215, 216, 217, 218, 219, 220, 221, 222, 223, 224, 225, 226, 227, 228, 229, 230, 231] (by decide +kernel) (by decide +kernel)
set_option maxRecDepth 20000 in
theorem gX11_login_X5_whyNoLogin : GoodIn wsX11_login (wsV RX11 201 RX5 yX5_whyNoLogin wsX5_whyNoLogin) := goodIn_app (goodIn_of _ (by decide +kernel)) ggX11_login_X5_whyNoLogin
set_option maxRecDepth 20000 in
theorem ggX11_login_X11_checkAllowed : GoodIn wsX11_login wsX11_checkAllowed := goodIn_ca (goodIn_r _ [58, 59, 60] (by decide +kernel) (by decide +kernel)) (goodIn_sub (fun _ h => List.mem_cons_of_mem _ (List.mem_append_right _ h)) (by decide +kernel))
set_option maxRecDepth 20000 in
theorem gX11_login_X11_checkAllowed : GoodIn wsX11_login (wsV RX11 249 RX11 yX11_checkAllowed wsX11_checkAllowed) := goodIn_app (goodIn_of _ (by decide +kernel)) ggX11_login_X11_checkAllowed
set_option maxRecDepth 20000 in
theorem ggX11_login_X11_remember : GoodIn wsX11_login wsX11_remember := goodIn_r _ [64, 65, 66, 1, 67, 68, 69, 44, 70, 71, 72, 73, 74, 75, 76, 77, 78, 25, 79, 80, 81, 82, 83, 84, 85, 86, 41, 87, 88, 89, 27, 90, 91, 92, 93, 94, 95, 96, 29, 97, 98, 99, 100, 101, 102, 103, 104, 105, 13, 106, 107, 54, 35, 108, 109, 110, 111, 36, 112, 113, 114, 115, 116, 117, 118, 119, 120, 121, 122, 123, 124, 125, 126, 127, 128, 129, 130, 131, 132, 28, 133, 134, 135, 136, 137, 138, 139, 140, 141, 142, 143, 144, 145, 15, 146, 147, 148, 149, 150, 151, 152, 153, 154, 155, 156, 157, 190, 191, 192, 193, 194, 195, 196, 197, 232, 198, 199, 200, 201, 202, 203, 204, 205, 206, 207, 208, 209, 210, 211, 220, 221, 222, 223, 212, 213, 214, 215, 216, 217, 218, 219, 224, 225, 226, 227, 228, 229, 230, 231] (by decide +kernel) (by decide +kernel)
set_option maxRecDepth 20000 in
theorem gX11_login_X11_remember : GoodIn wsX11_login (wsV RX11 95 RX11 yX11_remember wsX11_remember) := goodIn_app (goodIn_of _ (by decide +kernel)) ggX11_login_X11_remember
set_option maxRecDepth 20000 in
theorem ggX11_login_X5_makeLogin : GoodIn wsX11_login wsX5_makeLogin := goodIn_r _ [161, 27, 162, 29, 30, 31, 32, 33, 13, 34, 35, 15, 36, 163, 164, 165, 25, 166, 134, 132, 167, 168, 169, 170, 171, 54, 172, 173, 174, 175, 176, 177, 178, 179, 180, 133, 181, 182, 183, 184, 41, 185, 69, 44, 70, 186, 109, 110, 187, 188, 189, 46, 47, 48, 198, 199, 200, 201, 202, 203, 204, 205, 206, 207, 208, 209, 210, 211, 212, 213, 214, 215, 216, 217, 218, 219, 220, 221, 222, 223, 224, 225, 226, 227, 228, 229, 230, 231] (by decide +kernel) (by decide +kernel)
set_option maxRecDepth 20000 in
theorem gX11_login_X5_makeLogin : GoodIn wsX11_login (wsV RX11 252 RX5 yX5_makeLogin wsX5_makeLogin) := goodIn_app (goodIn_of _ (by decide +kernel)) ggX11_login_X5_makeLogin
theorem dX11_login_0 : decode cX11_login 0 = .ok (.aload_n 0, 1) := by decide +kernel
theorem dX11_login_1 : decode cX11_login 1 = .ok (.iload_n 1, 1) := by decide +kernel
theorem dX11_login_2 : decode cX11_login 2 = .ok (.invokevirtual 163, 3) := by decide +kernel
theorem dX11_login_5 : decode cX11_login 5 = .ok (.aload_n 0, 1) := by decide +kernel
theorem dX11_login_6 : decode cX11_login 6 = .ok (.iload_n 2, 1) := by decide +kernel
theorem dX11_login_7 : decode cX11_login 7 = .ok (.invokevirtual 198, 3) := by decide +kernel
theorem dX11_login_10 : decode cX11_login 10 = .ok (.aload_n 0, 1) := by decide +kernel
theorem dX11_login_11 : decode cX11_login 11 = .ok (.aload_n 0, 1) := by decide +kernel
theorem dX11_login_12 : decode cX11_login 12 = .ok (.getfield 33, 3) := by decide +kernel
theorem dX11_login_15 : decode cX11_login 15 = .ok (.iload_n 1, 1) := by decide +kernel
theorem dX11_login_16 : decode cX11_login 16 = .ok (.iload_n 2, 1) := by decide +kernel
theorem dX11_login_17 : decode cX11_login 17 = .ok (.invokevirtual 201, 3) := by decide +kernel
theorem dX11_login_20 : decode cX11_login 20 = .ok (.invokevirtual 249, 3) := by decide +kernel
theorem dX11_login_23 : decode cX11_login 23 = .ok (.aload_n 0, 1) := by decide +kernel
theorem dX11_login_24 : decode cX11_login 24 = .ok (.invokevirtual 95, 3) := by decide +kernel
theorem dX11_login_27 : decode cX11_login 27 = .ok (.aload_n 0, 1) := by decide +kernel
theorem dX11_login_28 : decode cX11_login 28 = .ok (.getfield 33, 3) := by decide +kernel
theorem dX11_login_31 : decode cX11_login 31 = .ok (.iload_n 1, 1) := by decide +kernel
theorem dX11_login_32 : decode cX11_login 32 = .ok (.iload_n 3, 1) := by decide +kernel
theorem dX11_login_33 : decode cX11_login 33 = .ok (.invokevirtual 252, 3) := by decide +kernel
theorem dX11_login_36 : decode cX11_login 36 = .ok (.ireturn, 1) := by decide +kernel
set_option maxRecDepth 20000 in
theorem ggX11_refer_X11_rowOf : GoodIn wsX11_refer wsX11_rowOf := goodIn_ca (goodIn_r _ [6, 7, 8, 1, 9, 10, 11, 12, 13, 14, 15, 16, 17, 18, 19, 20, 21, 22, 23, 24, 25, 26, 27, 224, 225, 226, 227, 228, 229, 230, 231, 232, 233, 234, 235, 236, 237, 238, 239, 240, 241, 242, 243, 244, 245, 246, 247, 248, 249, 250, 251, 252, 253, 254, 255, 256, 257, 258, 259, 260, 261, 262, 263, 264, 265] (by decide +kernel) (by decide +kernel)) (goodIn_sub (fun _ h => List.mem_cons_of_mem _ (List.mem_append_left _ (List.mem_append_left _ (List.mem_append_right _ h)))) (by decide +kernel))
set_option maxRecDepth 20000 in
theorem gX11_refer_X11_rowOf : GoodIn wsX11_refer (wsV RX11 184 RX11 yX11_rowOf wsX11_rowOf) := goodIn_app (goodIn_of _ (by decide +kernel)) ggX11_refer_X11_rowOf
set_option maxRecDepth 20000 in
theorem ggX11_refer_X11_checkRealm : GoodIn wsX11_refer wsX11_checkRealm := goodIn_ca (goodIn_r _ [31, 32, 33, 1, 34, 35, 36, 37, 13, 38, 15, 224, 225, 226, 227, 228, 229, 230, 231, 232, 233, 234, 235, 236, 237, 238, 239, 240, 241, 242, 243, 244, 245, 246, 247, 248, 249, 250, 251, 252, 253, 254, 255, 256, 257, 258, 259, 260, 261, 262, 263, 264, 265] (by decide +kernel) (by decide +kernel)) (goodIn_sub (fun _ h => List.mem_cons_of_mem _ (List.mem_append_left _ (List.mem_append_right _ h))) (by decide +kernel))
set_option maxRecDepth 20000 in
theorem gX11_refer_X11_checkRealm : GoodIn wsX11_refer (wsV RX11 147 RX11 yX11_checkRealm wsX11_checkRealm) := goodIn_app (goodIn_of _ (by decide +kernel)) ggX11_refer_X11_checkRealm
set_option maxRecDepth 20000 in
theorem ggX11_refer_X5_whyNoReferral : GoodIn wsX11_refer wsX5_whyNoReferral := goodIn_r _ [43, 44, 45, 46, 47, 48, 49, 19, 13, 20, 21, 15, 22, 50, 51, 52, 53, 54, 55, 56, 57, 58, 59, 60, 61, 62, 63, 64, 65, 66, 42, 67, 68, 69, 70, 71, 72, 73, 74, 75, 76, 77, 78, 79, 80, 81, 82, 83, 84, 85, 86, 87, 232, 233, 234, 235, 236, 237, 238, 239, 240, 241, 242, 243, 244, 245, 246, 247, 248, 249, 250, 251, 252, 253, 254, 255, 256, 257, 258, 259, 260, 261, 262, 263, 264, 265] (by decide +kernel) (by decide +kernel)
set_option maxRecDepth 20000 in
theorem gX11_refer_X5_whyNoReferral : GoodIn wsX11_refer (wsV RX11 204 RX5 yX5_whyNoReferral wsX5_whyNoReferral) := goodIn_app (goodIn_of _ (by decide +kernel)) ggX11_refer_X5_whyNoReferral
set_option maxRecDepth 20000 in
theorem ggX11_refer_X11_checkAllowed : GoodIn wsX11_refer wsX11_checkAllowed := goodIn_ca (goodIn_r _ [91, 92, 93] (by decide +kernel) (by decide +kernel)) (goodIn_sub (fun _ h => List.mem_cons_of_mem _ (List.mem_append_right _ h)) (by decide +kernel))
set_option maxRecDepth 20000 in
theorem gX11_refer_X11_checkAllowed : GoodIn wsX11_refer (wsV RX11 249 RX11 yX11_checkAllowed wsX11_checkAllowed) := goodIn_app (goodIn_of _ (by decide +kernel)) ggX11_refer_X11_checkAllowed
set_option maxRecDepth 20000 in
theorem ggX11_refer_X11_remember : GoodIn wsX11_refer wsX11_remember := goodIn_r _ [97, 98, 99, 1, 100, 101, 102, 76, 103, 104, 105, 106, 107, 108, 109, 110, 111, 42, 112, 113, 114, 115, 116, 117, 118, 59, 46, 119, 120, 121, 73, 122, 123, 124, 125, 126, 127, 53, 44, 128, 129, 130, 131, 132, 133, 134, 135, 136, 13, 137, 138, 87, 21, 139, 140, 141, 142, 22, 143, 144, 145, 146, 147, 148, 149, 150, 151, 152, 153, 154, 155, 156, 157, 158, 159, 160, 161, 162, 45, 68, 163, 164, 165, 166, 167, 168, 169, 170, 171, 172, 173, 174, 175, 15, 176, 177, 178, 179, 180, 181, 182, 183, 184, 185, 186, 187, 224, 225, 226, 227, 228, 229, 230, 231, 266, 232, 233, 234, 235, 236, 237, 238, 239, 240, 241, 242, 243, 244, 245, 254, 255, 256, 257, 246, 247, 248, 249, 250, 251, 252, 253, 258, 259, 260, 261, 262, 263, 264, 265] (by decide +kernel) (by decide +kernel)
set_option maxRecDepth 20000 in
theorem gX11_refer_X11_remember : GoodIn wsX11_refer (wsV RX11 95 RX11 yX11_remember wsX11_remember) := goodIn_app (goodIn_of _ (by decide +kernel)) ggX11_refer_X11_remember
set_option maxRecDepth 20000 in
theorem ggX11_refer_X5_makeReferral : GoodIn wsX11_refer wsX5_makeReferral := goodIn_r _ [191, 44, 47, 48, 49, 19, 13, 20, 21, 15, 22, 192, 193, 194, 42, 195, 164, 45, 196, 197, 198, 199, 200, 87, 201, 202, 203, 204, 205, 206, 207, 208, 209, 163, 210, 211, 212, 213, 214, 215, 216, 53, 217, 55, 218, 219, 220, 221, 46, 222, 102, 76, 103, 223, 140, 141, 81, 62, 63, 232, 233, 234, 235, 236, 237, 238, 239, 240, 241, 242, 243, 244, 245, 246, 247, 248, 249, 250, 251, 252, 253, 254, 255, 256, 257, 258, 259, 260, 261, 262, 263, 264, 265] (by decide +kernel) (by decide +kernel)
set_option maxRecDepth 20000 in
theorem gX11_refer_X5_makeReferral : GoodIn wsX11_refer (wsV RX11 256 RX5 yX5_makeReferral wsX5_makeReferral) := goodIn_app (goodIn_of _ (by decide +kernel)) ggX11_refer_X5_makeReferral
theorem dX11_refer_0 : decode cX11_refer 0 = .ok (.aload_n 0, 1) := by decide +kernel
theorem dX11_refer_1 : decode cX11_refer 1 = .ok (.iload_n 1, 1) := by decide +kernel
theorem dX11_refer_2 : decode cX11_refer 2 = .ok (.invokevirtual 184, 3) := by decide +kernel
theorem dX11_refer_5 : decode cX11_refer 5 = .ok (.istore_n 3, 1) := by decide +kernel
theorem dX11_refer_6 : decode cX11_refer 6 = .ok (.aload_n 0, 1) := by decide +kernel
theorem dX11_refer_7 : decode cX11_refer 7 = .ok (.iload_n 2, 1) := by decide +kernel
theorem dX11_refer_8 : decode cX11_refer 8 = .ok (.invokevirtual 147, 3) := by decide +kernel
theorem dX11_refer_11 : decode cX11_refer 11 = .ok (.aload_n 0, 1) := by decide +kernel
theorem dX11_refer_12 : decode cX11_refer 12 = .ok (.aload_n 0, 1) := by decide +kernel
theorem dX11_refer_13 : decode cX11_refer 13 = .ok (.getfield 33, 3) := by decide +kernel
theorem dX11_refer_16 : decode cX11_refer 16 = .ok (.iload_n 3, 1) := by decide +kernel
theorem dX11_refer_17 : decode cX11_refer 17 = .ok (.iload_n 2, 1) := by decide +kernel
theorem dX11_refer_18 : decode cX11_refer 18 = .ok (.invokevirtual 204, 3) := by decide +kernel
theorem dX11_refer_21 : decode cX11_refer 21 = .ok (.invokevirtual 249, 3) := by decide +kernel
