set_option maxRecDepth 20000 in
theorem gX12_finish_X12_semicolon : GoodIn wsX12_finish (wsV RX12 202 RX12 yX12_semicolon wsX12_semicolon) := goodIn_app (goodIn_of _ (by decide +kernel)) ggX12_finish_X12_semicolon
set_option maxRecDepth 20000 in
theorem ggX12_finish_X12_next : GoodIn wsX12_finish wsX12_next := goodIn_r _ [18, 13, 19, 20, 21, 4, 22, 23, 8, 24, 25, 6, 26, 27, 28, 29, 30, 31, 7, 32, 33, 34, 35, 36, 37, 38, 39, 40, 41, 42, 43, 44, 45, 46, 47, 48, 49, 50, 51, 52, 53, 54, 55, 56, 57, 58, 59] (by decide +kernel) (by decide +kernel)
set_option maxRecDepth 20000 in
theorem gX12_finish_X12_next : GoodIn wsX12_finish (wsV RX12 199 RX12 yX12_next wsX12_next) := goodIn_app (goodIn_of _ (by decide +kernel)) ggX12_finish_X12_next
theorem dX12_finish_0 : decode cX12_finish 0 = .ok (.aload_n 0, 1) := by decide +kernel
theorem dX12_finish_1 : decode cX12_finish 1 = .ok (.invokevirtual 202, 3) := by decide +kernel
theorem dX12_finish_4 : decode cX12_finish 4 = .ok (.aload_n 0, 1) := by decide +kernel
theorem dX12_finish_5 : decode cX12_finish 5 = .ok (.invokevirtual 199, 3) := by decide +kernel
theorem dX12_finish_8 : decode cX12_finish 8 = .ok (.return_, 1) := by decide +kernel
set_option maxRecDepth 20000 in
theorem ggX12_mayDo_X12_semicolon : GoodIn wsX12_mayDo wsX12_semicolon := goodIn_r _ [6, 7, 8, 9, 10, 11, 12, 5, 13, 1, 14, 15, 16, 17, 18, 19, 20, 21, 22, 23, 24, 25, 26, 27, 28, 29, 30, 31, 32, 33, 34, 35, 36] (by decide +kernel) (by decide +kernel)
set_option maxRecDepth 20000 in
theorem gX12_mayDo_X12_semicolon : GoodIn wsX12_mayDo (wsV RX12 202 RX12 yX12_semicolon wsX12_semicolon) := goodIn_app (goodIn_of _ (by decide +kernel)) ggX12_mayDo_X12_semicolon
set_option maxRecDepth 20000 in
theorem ggX12_mayDo_X12_check : GoodIn wsX12_mayDo wsX12_check := goodIn_r _ [13, 1, 9, 14, 15, 16, 17, 18, 19, 20, 21, 22, 23, 24, 25, 26, 27, 28, 29, 30, 31, 32, 33, 34, 35, 36] (by decide +kernel) (by decide +kernel)
set_option maxRecDepth 20000 in
theorem gX12_mayDo_X12_check : GoodIn wsX12_mayDo (wsV RX12 196 RX12 yX12_check wsX12_check) := goodIn_app (goodIn_of _ (by decide +kernel)) ggX12_mayDo_X12_check
theorem dX12_mayDo_0 : decode cX12_mayDo 0 = .ok (.aload_n 0, 1) := by decide +kernel
theorem dX12_mayDo_1 : decode cX12_mayDo 1 = .ok (.invokevirtual 202, 3) := by decide +kernel
theorem dX12_mayDo_4 : decode cX12_mayDo 4 = .ok (.aload_n 0, 1) := by decide +kernel
theorem dX12_mayDo_5 : decode cX12_mayDo 5 = .ok (.aload_n 0, 1) := by decide +kernel
theorem dX12_mayDo_6 : decode cX12_mayDo 6 = .ok (.getfield 164, 3) := by decide +kernel
theorem dX12_mayDo_9 : decode cX12_mayDo 9 = .ok (.ifCond .ne 7, 3) := by decide +kernel
theorem dX12_mayDo_12 : decode cX12_mayDo 12 = .ok (.iload_n 1, 1) := by decide +kernel
theorem dX12_mayDo_13 : decode cX12_mayDo 13 = .ok (.ifCond .ne 7, 3) := by decide +kernel
theorem dX12_mayDo_16 : decode cX12_mayDo 16 = .ok (.iconst 1, 1) := by decide +kernel
theorem dX12_mayDo_17 : decode cX12_mayDo 17 = .ok (.goto 4, 3) := by decide +kernel
theorem dX12_mayDo_20 : decode cX12_mayDo 20 = .ok (.iconst 0, 1) := by decide +kernel
theorem dX12_mayDo_21 : decode cX12_mayDo 21 = .ok (.bipush 6, 2) := by decide +kernel
theorem dX12_mayDo_23 : decode cX12_mayDo 23 = .ok (.invokevirtual 196, 3) := by decide +kernel
theorem dX12_mayDo_26 : decode cX12_mayDo 26 = .ok (.pop, 1) := by decide +kernel
theorem dX12_mayDo_27 : decode cX12_mayDo 27 = .ok (.aload_n 0, 1) := by decide +kernel
theorem dX12_mayDo_28 : decode cX12_mayDo 28 = .ok (.getfield 164, 3) := by decide +kernel
theorem dX12_mayDo_31 : decode cX12_mayDo 31 = .ok (.ifCond .ne 7, 3) := by decide +kernel
theorem dX12_mayDo_34 : decode cX12_mayDo 34 = .ok (.iconst 1, 1) := by decide +kernel
theorem dX12_mayDo_35 : decode cX12_mayDo 35 = .ok (.goto 4, 3) := by decide +kernel
theorem dX12_mayDo_38 : decode cX12_mayDo 38 = .ok (.iconst 0, 1) := by decide +kernel
theorem dX12_mayDo_39 : decode cX12_mayDo 39 = .ok (.ireturn, 1) := by decide +kernel
set_option maxRecDepth 20000 in
theorem ggX12_nameFrom_X12_isBetween : GoodIn wsX12_nameFrom wsX12_isBetween := goodIn_r _ [5] (by decide +kernel) (by decide +kernel)
set_option maxRecDepth 20000 in
theorem gX12_nameFrom_X12_isBetween : GoodIn wsX12_nameFrom (va_wsS RX12 167 yX12_isBetween wsX12_isBetween) := goodIn_app (goodIn_of _ (by decide +kernel)) ggX12_nameFrom_X12_isBetween
set_option maxRecDepth 20000 in
theorem ggX12_nameFrom_X12_isLetter : GoodIn wsX12_nameFrom wsX12_isLetter := goodIn_r _ [8, 2, 3, 4, 5] (by decide +kernel) (by decide +kernel)
set_option maxRecDepth 20000 in
theorem gX12_nameFrom_X12_isLetter : GoodIn wsX12_nameFrom (va_wsS RX12 188 yX12_isLetter wsX12_isLetter) := goodIn_app (goodIn_of _ (by decide +kernel)) ggX12_nameFrom_X12_isLetter
theorem dX12_nameFrom_0 : decode cX12_nameFrom 0 = .ok (.iload_n 2, 1) := by decide +kernel
theorem dX12_nameFrom_1 : decode cX12_nameFrom 1 = .ok (.iconst 1, 1) := by decide +kernel
theorem dX12_nameFrom_2 : decode cX12_nameFrom 2 = .ok (.iconst 4, 1) := by decide +kernel
theorem dX12_nameFrom_3 : decode cX12_nameFrom 3 = .ok (.invokestatic 167, 3) := by decide +kernel
theorem dX12_nameFrom_6 : decode cX12_nameFrom 6 = .ok (.ifCond .ne 5, 3) := by decide +kernel
theorem dX12_nameFrom_9 : decode cX12_nameFrom 9 = .ok (.iconst (-1), 1) := by decide +kernel
theorem dX12_nameFrom_10 : decode cX12_nameFrom 10 = .ok (.ireturn, 1) := by decide +kernel
theorem dX12_nameFrom_11 : decode cX12_nameFrom 11 = .ok (.iconst 0, 1) := by decide +kernel
theorem dX12_nameFrom_12 : decode cX12_nameFrom 12 = .ok (.istore_n 3, 1) := by decide +kernel
theorem dX12_nameFrom_13 : decode cX12_nameFrom 13 = .ok (.iconst 0, 1) := by decide +kernel
theorem dX12_nameFrom_14 : decode cX12_nameFrom 14 = .ok (.istore 4, 2) := by decide +kernel
theorem dX12_nameFrom_16 : decode cX12_nameFrom 16 = .ok (.iload 4, 2) := by decide +kernel
theorem dX12_nameFrom_18 : decode cX12_nameFrom 18 = .ok (.iconst 4, 1) := by decide +kernel
theorem dX12_nameFrom_19 : decode cX12_nameFrom 19 = .ok (.if_icmp .ge 60, 3) := by decide +kernel
theorem dX12_nameFrom_22 : decode cX12_nameFrom 22 = .ok (.iload 4, 2) := by decide +kernel
theorem dX12_nameFrom_24 : decode cX12_nameFrom 24 = .ok (.iload_n 2, 1) := by decide +kernel
theorem dX12_nameFrom_25 : decode cX12_nameFrom 25 = .ok (.if_icmp .ge 20, 3) := by decide +kernel
theorem dX12_nameFrom_28 : decode cX12_nameFrom 28 = .ok (.aload_n 0, 1) := by decide +kernel
theorem dX12_nameFrom_29 : decode cX12_nameFrom 29 = .ok (.getfield 32, 3) := by decide +kernel
theorem dX12_nameFrom_32 : decode cX12_nameFrom 32 = .ok (.iload_n 1, 1) := by decide +kernel
theorem dX12_nameFrom_33 : decode cX12_nameFrom 33 = .ok (.iload 4, 2) := by decide +kernel
theorem dX12_nameFrom_35 : decode cX12_nameFrom 35 = .ok (.iadd, 1) := by decide +kernel
theorem dX12_nameFrom_36 : decode cX12_nameFrom 36 = .ok (.iaload, 1) := by decide +kernel
theorem dX12_nameFrom_37 : decode cX12_nameFrom 37 = .ok (.invokestatic 188, 3) := by decide +kernel
theorem dX12_nameFrom_40 : decode cX12_nameFrom 40 = .ok (.ifCond .ne 5, 3) := by decide +kernel
theorem dX12_nameFrom_43 : decode cX12_nameFrom 43 = .ok (.iconst (-1), 1) := by decide +kernel
theorem dX12_nameFrom_44 : decode cX12_nameFrom 44 = .ok (.ireturn, 1) := by decide +kernel
theorem dX12_nameFrom_45 : decode cX12_nameFrom 45 = .ok (.iload_n 3, 1) := by decide +kernel
theorem dX12_nameFrom_46 : decode cX12_nameFrom 46 = .ok (.bipush 27, 2) := by decide +kernel
theorem dX12_nameFrom_48 : decode cX12_nameFrom 48 = .ok (.imul, 1) := by decide +kernel
theorem dX12_nameFrom_49 : decode cX12_nameFrom 49 = .ok (.iload 4, 2) := by decide +kernel
theorem dX12_nameFrom_51 : decode cX12_nameFrom 51 = .ok (.iload_n 2, 1) := by decide +kernel
theorem dX12_nameFrom_52 : decode cX12_nameFrom 52 = .ok (.if_icmp .ge 18, 3) := by decide +kernel
theorem dX12_nameFrom_55 : decode cX12_nameFrom 55 = .ok (.aload_n 0, 1) := by decide +kernel
theorem dX12_nameFrom_56 : decode cX12_nameFrom 56 = .ok (.getfield 32, 3) := by decide +kernel
theorem dX12_nameFrom_59 : decode cX12_nameFrom 59 = .ok (.iload_n 1, 1) := by decide +kernel
theorem dX12_nameFrom_60 : decode cX12_nameFrom 60 = .ok (.iload 4, 2) := by decide +kernel
theorem dX12_nameFrom_62 : decode cX12_nameFrom 62 = .ok (.iadd, 1) := by decide +kernel
theorem dX12_nameFrom_63 : decode cX12_nameFrom 63 = .ok (.iaload, 1) := by decide +kernel
theorem dX12_nameFrom_64 : decode cX12_nameFrom 64 = .ok (.bipush 96, 2) := by decide +kernel
theorem dX12_nameFrom_66 : decode cX12_nameFrom 66 = .ok (.isub, 1) := by decide +kernel
theorem dX12_nameFrom_67 : decode cX12_nameFrom 67 = .ok (.goto 4, 3) := by decide +kernel
theorem dX12_nameFrom_70 : decode cX12_nameFrom 70 = .ok (.iconst 0, 1) := by decide +kernel
theorem dX12_nameFrom_71 : decode cX12_nameFrom 71 = .ok (.iadd, 1) := by decide +kernel
theorem dX12_nameFrom_72 : decode cX12_nameFrom 72 = .ok (.istore_n 3, 1) := by decide +kernel
theorem dX12_nameFrom_73 : decode cX12_nameFrom 73 = .ok (.iinc 4 1, 3) := by decide +kernel
theorem dX12_nameFrom_76 : decode cX12_nameFrom 76 = .ok (.goto (-60), 3) := by decide +kernel
theorem dX12_nameFrom_79 : decode cX12_nameFrom 79 = .ok (.iload_n 3, 1) := by decide +kernel
theorem dX12_nameFrom_80 : decode cX12_nameFrom 80 = .ok (.ireturn, 1) := by decide +kernel
set_option maxRecDepth 20000 in
theorem ggX12_realmNamed_X12_ofRealm : GoodIn wsX12_realmNamed wsX12_ofRealm := goodIn_r _ [4] (by decide +kernel) (by decide +kernel)
set_option maxRecDepth 20000 in
theorem gX12_realmNamed_X12_ofRealm : GoodIn wsX12_realmNamed (va_wsS RX12 91 yX12_ofRealm wsX12_ofRealm) := goodIn_app (goodIn_of _ (by decide +kernel)) ggX12_realmNamed_X12_ofRealm
theorem dX12_realmNamed_0 : decode cX12_realmNamed 0 = .ok (.iconst 0, 1) := by decide +kernel
theorem dX12_realmNamed_1 : decode cX12_realmNamed 1 = .ok (.istore_n 2, 1) := by decide +kernel
theorem dX12_realmNamed_2 : decode cX12_realmNamed 2 = .ok (.iload_n 2, 1) := by decide +kernel
theorem dX12_realmNamed_3 : decode cX12_realmNamed 3 = .ok (.aload_n 0, 1) := by decide +kernel
theorem dX12_realmNamed_4 : decode cX12_realmNamed 4 = .ok (.iconst 3, 1) := by decide +kernel
theorem dX12_realmNamed_5 : decode cX12_realmNamed 5 = .ok (.iaload, 1) := by decide +kernel
theorem dX12_realmNamed_6 : decode cX12_realmNamed 6 = .ok (.if_icmp .ge 23, 3) := by decide +kernel
theorem dX12_realmNamed_9 : decode cX12_realmNamed 9 = .ok (.aload_n 0, 1) := by decide +kernel
theorem dX12_realmNamed_10 : decode cX12_realmNamed 10 = .ok (.iload_n 2, 1) := by decide +kernel
theorem dX12_realmNamed_11 : decode cX12_realmNamed 11 = .ok (.invokestatic 91, 3) := by decide +kernel
theorem dX12_realmNamed_14 : decode cX12_realmNamed 14 = .ok (.iconst 0, 1) := by decide +kernel
theorem dX12_realmNamed_15 : decode cX12_realmNamed 15 = .ok (.iadd, 1) := by decide +kernel
theorem dX12_realmNamed_16 : decode cX12_realmNamed 16 = .ok (.iaload, 1) := by decide +kernel
theorem dX12_realmNamed_17 : decode cX12_realmNamed 17 = .ok (.iload_n 1, 1) := by decide +kernel
theorem dX12_realmNamed_18 : decode cX12_realmNamed 18 = .ok (.if_icmp .ne 5, 3) := by decide +kernel
theorem dX12_realmNamed_21 : decode cX12_realmNamed 21 = .ok (.iload_n 2, 1) := by decide +kernel
theorem dX12_realmNamed_22 : decode cX12_realmNamed 22 = .ok (.ireturn, 1) := by decide +kernel
theorem dX12_realmNamed_23 : decode cX12_realmNamed 23 = .ok (.iinc 2 1, 3) := by decide +kernel
theorem dX12_realmNamed_26 : decode cX12_realmNamed 26 = .ok (.goto (-24), 3) := by decide +kernel
theorem dX12_realmNamed_29 : decode cX12_realmNamed 29 = .ok (.iconst (-1), 1) := by decide +kernel
theorem dX12_realmNamed_30 : decode cX12_realmNamed 30 = .ok (.ireturn, 1) := by decide +kernel
set_option maxRecDepth 20000 in
theorem ggX12_userNamed_X12_ofUser : GoodIn wsX12_userNamed wsX12_ofUser := goodIn_r _ [4] (by decide +kernel) (by decide +kernel)
set_option maxRecDepth 20000 in
theorem gX12_userNamed_X12_ofUser : GoodIn wsX12_userNamed (va_wsS RX12 87 yX12_ofUser wsX12_ofUser) := goodIn_app (goodIn_of _ (by decide +kernel)) ggX12_userNamed_X12_ofUser
theorem dX12_userNamed_0 : decode cX12_userNamed 0 = .ok (.iconst 0, 1) := by decide +kernel
theorem dX12_userNamed_1 : decode cX12_userNamed 1 = .ok (.istore_n 2, 1) := by decide +kernel
theorem dX12_userNamed_2 : decode cX12_userNamed 2 = .ok (.iload_n 2, 1) := by decide +kernel
theorem dX12_userNamed_3 : decode cX12_userNamed 3 = .ok (.aload_n 0, 1) := by decide +kernel
theorem dX12_userNamed_4 : decode cX12_userNamed 4 = .ok (.iconst 4, 1) := by decide +kernel
theorem dX12_userNamed_5 : decode cX12_userNamed 5 = .ok (.iaload, 1) := by decide +kernel
theorem dX12_userNamed_6 : decode cX12_userNamed 6 = .ok (.if_icmp .ge 23, 3) := by decide +kernel
theorem dX12_userNamed_9 : decode cX12_userNamed 9 = .ok (.aload_n 0, 1) := by decide +kernel
theorem dX12_userNamed_10 : decode cX12_userNamed 10 = .ok (.iload_n 2, 1) := by decide +kernel
theorem dX12_userNamed_11 : decode cX12_userNamed 11 = .ok (.invokestatic 87, 3) := by decide +kernel
theorem dX12_userNamed_14 : decode cX12_userNamed 14 = .ok (.iconst 0, 1) := by decide +kernel
theorem dX12_userNamed_15 : decode cX12_userNamed 15 = .ok (.iadd, 1) := by decide +kernel
theorem dX12_userNamed_16 : decode cX12_userNamed 16 = .ok (.iaload, 1) := by decide +kernel
theorem dX12_userNamed_17 : decode cX12_userNamed 17 = .ok (.iload_n 1, 1) := by decide +kernel
theorem dX12_userNamed_18 : decode cX12_userNamed 18 = .ok (.if_icmp .ne 5, 3) := by decide +kernel
theorem dX12_userNamed_21 : decode cX12_userNamed 21 = .ok (.iload_n 2, 1) := by decide +kernel
theorem dX12_userNamed_22 : decode cX12_userNamed 22 = .ok (.ireturn, 1) := by decide +kernel
theorem dX12_userNamed_23 : decode cX12_userNamed 23 = .ok (.iinc 2 1, 3) := by decide +kernel
theorem dX12_userNamed_26 : decode cX12_userNamed 26 = .ok (.goto (-24), 3) := by decide +kernel
theorem dX12_userNamed_29 : decode cX12_userNamed 29 = .ok (.iconst (-1), 1) := by decide +kernel
theorem dX12_userNamed_30 : decode cX12_userNamed 30 = .ok (.ireturn, 1) := by decide +kernel
set_option maxRecDepth 20000 in
theorem ggX12_serviceNamed_X12_ofService : GoodIn wsX12_serviceNamed wsX12_ofService := goodIn_r _ [4] (by decide +kernel) (by decide +kernel)
set_option maxRecDepth 20000 in
theorem gX12_serviceNamed_X12_ofService : GoodIn wsX12_serviceNamed (va_wsS RX12 122 yX12_ofService wsX12_ofService) := goodIn_app (goodIn_of _ (by decide +kernel)) ggX12_serviceNamed_X12_ofService
theorem dX12_serviceNamed_0 : decode cX12_serviceNamed 0 = .ok (.iconst 0, 1) := by decide +kernel
theorem dX12_serviceNamed_1 : decode cX12_serviceNamed 1 = .ok (.istore_n 2, 1) := by decide +kernel
theorem dX12_serviceNamed_2 : decode cX12_serviceNamed 2 = .ok (.iload_n 2, 1) := by decide +kernel
theorem dX12_serviceNamed_3 : decode cX12_serviceNamed 3 = .ok (.aload_n 0, 1) := by decide +kernel
theorem dX12_serviceNamed_4 : decode cX12_serviceNamed 4 = .ok (.iconst 5, 1) := by decide +kernel
theorem dX12_serviceNamed_5 : decode cX12_serviceNamed 5 = .ok (.iaload, 1) := by decide +kernel
theorem dX12_serviceNamed_6 : decode cX12_serviceNamed 6 = .ok (.if_icmp .ge 23, 3) := by decide +kernel
theorem dX12_serviceNamed_9 : decode cX12_serviceNamed 9 = .ok (.aload_n 0, 1) := by decide +kernel
theorem dX12_serviceNamed_10 : decode cX12_serviceNamed 10 = .ok (.iload_n 2, 1) := by decide +kernel
theorem dX12_serviceNamed_11 : decode cX12_serviceNamed 11 = .ok (.invokestatic 122, 3) := by decide +kernel
theorem dX12_serviceNamed_14 : decode cX12_serviceNamed 14 = .ok (.iconst 0, 1) := by decide +kernel
theorem dX12_serviceNamed_15 : decode cX12_serviceNamed 15 = .ok (.iadd, 1) := by decide +kernel
theorem dX12_serviceNamed_16 : decode cX12_serviceNamed 16 = .ok (.iaload, 1) := by decide +kernel
theorem dX12_serviceNamed_17 : decode cX12_serviceNamed 17 = .ok (.iload_n 1, 1) := by decide +kernel
theorem dX12_serviceNamed_18 : decode cX12_serviceNamed 18 = .ok (.if_icmp .ne 5, 3) := by decide +kernel
theorem dX12_serviceNamed_21 : decode cX12_serviceNamed 21 = .ok (.iload_n 2, 1) := by decide +kernel
theorem dX12_serviceNamed_22 : decode cX12_serviceNamed 22 = .ok (.ireturn, 1) := by decide +kernel
theorem dX12_serviceNamed_23 : decode cX12_serviceNamed 23 = .ok (.iinc 2 1, 3) := by decide +kernel
theorem dX12_serviceNamed_26 : decode cX12_serviceNamed 26 = .ok (.goto (-24), 3) := by decide +kernel
theorem dX12_serviceNamed_29 : decode cX12_serviceNamed 29 = .ok (.iconst (-1), 1) := by decide +kernel
theorem dX12_serviceNamed_30 : decode cX12_serviceNamed 30 = .ok (.ireturn, 1) := by decide +kernel
set_option maxRecDepth 20000 in
theorem ggX12_named_X12_realmNamed : GoodIn wsX12_named wsX12_realmNamed := goodIn_r _ [4, 5, 6, 3, 7] (by decide +kernel) (by decide +kernel)
set_option maxRecDepth 20000 in
theorem gX12_named_X12_realmNamed : GoodIn wsX12_named (va_wsS RX12 205 yX12_realmNamed wsX12_realmNamed) := goodIn_app (goodIn_of _ (by decide +kernel)) ggX12_named_X12_realmNamed
set_option maxRecDepth 20000 in
theorem ggX12_named_X12_userNamed : GoodIn wsX12_named wsX12_userNamed := goodIn_r _ [10, 11, 12, 3, 13] (by decide +kernel) (by decide +kernel)
set_option maxRecDepth 20000 in
theorem gX12_named_X12_userNamed : GoodIn wsX12_named (va_wsS RX12 208 yX12_userNamed wsX12_userNamed) := goodIn_app (goodIn_of _ (by decide +kernel)) ggX12_named_X12_userNamed
set_option maxRecDepth 20000 in
theorem ggX12_named_X12_serviceNamed : GoodIn wsX12_named wsX12_serviceNamed := goodIn_r _ [16, 17, 18, 3, 19] (by decide +kernel) (by decide +kernel)
set_option maxRecDepth 20000 in
theorem gX12_named_X12_serviceNamed : GoodIn wsX12_named (va_wsS RX12 211 yX12_serviceNamed wsX12_serviceNamed) := goodIn_app (goodIn_of _ (by decide +kernel)) ggX12_named_X12_serviceNamed
theorem dX12_named_0 : decode cX12_named 0 = .ok (.aload_n 0, 1) := by decide +kernel
theorem dX12_named_1 : decode cX12_named 1 = .ok (.iload_n 1, 1) := by decide +kernel
theorem dX12_named_2 : decode cX12_named 2 = .ok (.invokestatic 205, 3) := by decide +kernel
theorem dX12_named_5 : decode cX12_named 5 = .ok (.istore_n 2, 1) := by decide +kernel
theorem dX12_named_6 : decode cX12_named 6 = .ok (.iload_n 2, 1) := by decide +kernel
theorem dX12_named_7 : decode cX12_named 7 = .ok (.iconst (-1), 1) := by decide +kernel
theorem dX12_named_8 : decode cX12_named 8 = .ok (.if_icmp .eq 5, 3) := by decide +kernel
theorem dX12_named_11 : decode cX12_named 11 = .ok (.iload_n 2, 1) := by decide +kernel
theorem dX12_named_12 : decode cX12_named 12 = .ok (.ireturn, 1) := by decide +kernel
theorem dX12_named_13 : decode cX12_named 13 = .ok (.aload_n 0, 1) := by decide +kernel
theorem dX12_named_14 : decode cX12_named 14 = .ok (.iload_n 1, 1) := by decide +kernel
theorem dX12_named_15 : decode cX12_named 15 = .ok (.invokestatic 208, 3) := by decide +kernel
theorem dX12_named_18 : decode cX12_named 18 = .ok (.istore_n 3, 1) := by decide +kernel
theorem dX12_named_19 : decode cX12_named 19 = .ok (.iload_n 3, 1) := by decide +kernel
theorem dX12_named_20 : decode cX12_named 20 = .ok (.iconst (-1), 1) := by decide +kernel
theorem dX12_named_21 : decode cX12_named 21 = .ok (.if_icmp .eq 8, 3) := by decide +kernel
theorem dX12_named_24 : decode cX12_named 24 = .ok (.bipush 100, 2) := by decide +kernel
theorem dX12_named_26 : decode cX12_named 26 = .ok (.iload_n 3, 1) := by decide +kernel
theorem dX12_named_27 : decode cX12_named 27 = .ok (.iadd, 1) := by decide +kernel
theorem dX12_named_28 : decode cX12_named 28 = .ok (.ireturn, 1) := by decide +kernel
theorem dX12_named_29 : decode cX12_named 29 = .ok (.aload_n 0, 1) := by decide +kernel
theorem dX12_named_30 : decode cX12_named 30 = .ok (.iload_n 1, 1) := by decide +kernel
theorem dX12_named_31 : decode cX12_named 31 = .ok (.invokestatic 211, 3) := by decide +kernel
theorem dX12_named_34 : decode cX12_named 34 = .ok (.istore 4, 2) := by decide +kernel
theorem dX12_named_36 : decode cX12_named 36 = .ok (.iload 4, 2) := by decide +kernel
theorem dX12_named_38 : decode cX12_named 38 = .ok (.iconst (-1), 1) := by decide +kernel
theorem dX12_named_39 : decode cX12_named 39 = .ok (.if_icmp .ne 7, 3) := by decide +kernel
theorem dX12_named_42 : decode cX12_named 42 = .ok (.iconst (-1), 1) := by decide +kernel
theorem dX12_named_43 : decode cX12_named 43 = .ok (.goto 9, 3) := by decide +kernel
theorem dX12_named_46 : decode cX12_named 46 = .ok (.sipush 200, 3) := by decide +kernel
theorem dX12_named_49 : decode cX12_named 49 = .ok (.iload 4, 2) := by decide +kernel
theorem dX12_named_51 : decode cX12_named 51 = .ok (.iadd, 1) := by decide +kernel
theorem dX12_named_52 : decode cX12_named 52 = .ok (.ireturn, 1) := by decide +kernel
set_option maxRecDepth 20000 in
theorem ggX12_newName_X12_check : GoodIn wsX12_newName wsX12_check := goodIn_r _ [10, 2, 3, 11, 60, 61, 62, 63, 64, 65, 66, 67, 68, 69, 70, 71, 72, 73, 74, 75, 76, 77, 78, 79, 80, 81] (by decide +kernel) (by decide +kernel)
set_option maxRecDepth 20000 in
theorem gX12_newName_X12_check : GoodIn wsX12_newName (wsV RX12 196 RX12 yX12_check wsX12_check) := goodIn_app (goodIn_of _ (by decide +kernel)) ggX12_newName_X12_check
set_option maxRecDepth 20000 in
theorem ggX12_newName_X12_nameFrom : GoodIn wsX12_newName wsX12_nameFrom := goodIn_r _ [15, 16, 17, 18, 9, 19, 20, 21, 22, 60, 61, 62, 63, 64, 65, 66, 67, 68, 69, 70, 71, 72, 73, 74, 75, 76, 77, 78, 79, 80, 81] (by decide +kernel) (by decide +kernel)
set_option maxRecDepth 20000 in
theorem gX12_newName_X12_nameFrom : GoodIn wsX12_newName (wsV RX12 214 RX12 yX12_nameFrom wsX12_nameFrom) := goodIn_app (goodIn_of _ (by decide +kernel)) ggX12_newName_X12_nameFrom
set_option maxRecDepth 20000 in
theorem ggX12_newName_X12_named : GoodIn wsX12_newName wsX12_named := goodIn_r _ [25, 26, 27, 9, 28, 29, 30, 31, 32, 33, 34, 35, 36, 37, 38, 39, 40, 41, 42, 43] (by decide +kernel) (by decide +kernel)
set_option maxRecDepth 20000 in
theorem gX12_newName_X12_named : GoodIn wsX12_newName (va_wsS RX12 217 yX12_named wsX12_named) := goodIn_app (goodIn_of _ (by decide +kernel)) ggX12_newName_X12_named
set_option maxRecDepth 20000 in
theorem ggX12_newName_X12_next : GoodIn wsX12_newName wsX12_next := goodIn_r _ [47, 2, 48, 49, 50, 9, 51, 52, 3, 4, 53, 1, 54, 55, 56, 57, 58, 59, 16, 20, 21, 22, 17, 18, 19, 60, 61, 62, 63, 64, 65, 66, 67, 68, 69, 70, 71, 72, 73, 74, 75, 76, 77, 78, 79, 80, 81] (by decide +kernel) (by decide +kernel)
set_option maxRecDepth 20000 in
theorem gX12_newName_X12_next : GoodIn wsX12_newName (wsV RX12 199 RX12 yX12_next wsX12_next) := goodIn_app (goodIn_of _ (by decide +kernel)) ggX12_newName_X12_next
theorem dX12_newName_0 : decode cX12_newName 0 = .ok (.aload_n 0, 1) := by decide +kernel
theorem dX12_newName_1 : decode cX12_newName 1 = .ok (.aload_n 0, 1) := by decide +kernel
theorem dX12_newName_2 : decode cX12_newName 2 = .ok (.getfield 185, 3) := by decide +kernel
theorem dX12_newName_5 : decode cX12_newName 5 = .ok (.iconst 3, 1) := by decide +kernel
theorem dX12_newName_6 : decode cX12_newName 6 = .ok (.if_icmp .ne 7, 3) := by decide +kernel
theorem dX12_newName_9 : decode cX12_newName 9 = .ok (.iconst 1, 1) := by decide +kernel
theorem dX12_newName_10 : decode cX12_newName 10 = .ok (.goto 4, 3) := by decide +kernel
theorem dX12_newName_13 : decode cX12_newName 13 = .ok (.iconst 0, 1) := by decide +kernel
theorem dX12_newName_14 : decode cX12_newName 14 = .ok (.iconst 1, 1) := by decide +kernel
theorem dX12_newName_15 : decode cX12_newName 15 = .ok (.invokevirtual 196, 3) := by decide +kernel
theorem dX12_newName_18 : decode cX12_newName 18 = .ok (.pop, 1) := by decide +kernel
theorem dX12_newName_19 : decode cX12_newName 19 = .ok (.aload_n 0, 1) := by decide +kernel
theorem dX12_newName_20 : decode cX12_newName 20 = .ok (.getfield 164, 3) := by decide +kernel
theorem dX12_newName_23 : decode cX12_newName 23 = .ok (.ifCond .ne 18, 3) := by decide +kernel
theorem dX12_newName_26 : decode cX12_newName 26 = .ok (.aload_n 0, 1) := by decide +kernel
theorem dX12_newName_27 : decode cX12_newName 27 = .ok (.aload_n 0, 1) := by decide +kernel
theorem dX12_newName_28 : decode cX12_newName 28 = .ok (.getfield 176, 3) := by decide +kernel
theorem dX12_newName_31 : decode cX12_newName 31 = .ok (.aload_n 0, 1) := by decide +kernel
theorem dX12_newName_32 : decode cX12_newName 32 = .ok (.getfield 179, 3) := by decide +kernel
theorem dX12_newName_35 : decode cX12_newName 35 = .ok (.invokevirtual 214, 3) := by decide +kernel
theorem dX12_newName_38 : decode cX12_newName 38 = .ok (.goto 4, 3) := by decide +kernel
theorem dX12_newName_41 : decode cX12_newName 41 = .ok (.iconst 0, 1) := by decide +kernel
theorem dX12_newName_42 : decode cX12_newName 42 = .ok (.istore_n 1, 1) := by decide +kernel
theorem dX12_newName_43 : decode cX12_newName 43 = .ok (.aload_n 0, 1) := by decide +kernel
theorem dX12_newName_44 : decode cX12_newName 44 = .ok (.iload_n 1, 1) := by decide +kernel
theorem dX12_newName_45 : decode cX12_newName 45 = .ok (.iconst (-1), 1) := by decide +kernel
theorem dX12_newName_46 : decode cX12_newName 46 = .ok (.if_icmp .eq 7, 3) := by decide +kernel
theorem dX12_newName_49 : decode cX12_newName 49 = .ok (.iconst 1, 1) := by decide +kernel
theorem dX12_newName_50 : decode cX12_newName 50 = .ok (.goto 4, 3) := by decide +kernel
theorem dX12_newName_53 : decode cX12_newName 53 = .ok (.iconst 0, 1) := by decide +kernel
theorem dX12_newName_54 : decode cX12_newName 54 = .ok (.iconst 2, 1) := by decide +kernel
theorem dX12_newName_55 : decode cX12_newName 55 = .ok (.invokevirtual 196, 3) := by decide +kernel
theorem dX12_newName_58 : decode cX12_newName 58 = .ok (.pop, 1) := by decide +kernel
theorem dX12_newName_59 : decode cX12_newName 59 = .ok (.aload_n 0, 1) := by decide +kernel
theorem dX12_newName_60 : decode cX12_newName 60 = .ok (.aload_n 0, 1) := by decide +kernel
theorem dX12_newName_61 : decode cX12_newName 61 = .ok (.getfield 164, 3) := by decide +kernel
theorem dX12_newName_64 : decode cX12_newName 64 = .ok (.ifCond .ne 15, 3) := by decide +kernel
theorem dX12_newName_67 : decode cX12_newName 67 = .ok (.aload_n 0, 1) := by decide +kernel
theorem dX12_newName_68 : decode cX12_newName 68 = .ok (.getfield 13, 3) := by decide +kernel
theorem dX12_newName_71 : decode cX12_newName 71 = .ok (.iload_n 1, 1) := by decide +kernel
theorem dX12_newName_72 : decode cX12_newName 72 = .ok (.invokestatic 217, 3) := by decide +kernel
theorem dX12_newName_75 : decode cX12_newName 75 = .ok (.iconst (-1), 1) := by decide +kernel
theorem dX12_newName_76 : decode cX12_newName 76 = .ok (.if_icmp .ne 7, 3) := by decide +kernel
theorem dX12_newName_79 : decode cX12_newName 79 = .ok (.iconst 1, 1) := by decide +kernel
theorem dX12_newName_80 : decode cX12_newName 80 = .ok (.goto 4, 3) := by decide +kernel
theorem dX12_newName_83 : decode cX12_newName 83 = .ok (.iconst 0, 1) := by decide +kernel
theorem dX12_newName_84 : decode cX12_newName 84 = .ok (.iconst 3, 1) := by decide +kernel
theorem dX12_newName_85 : decode cX12_newName 85 = .ok (.invokevirtual 196, 3) := by decide +kernel
theorem dX12_newName_88 : decode cX12_newName 88 = .ok (.pop, 1) := by decide +kernel
theorem dX12_newName_89 : decode cX12_newName 89 = .ok (.aload_n 0, 1) := by decide +kernel
theorem dX12_newName_90 : decode cX12_newName 90 = .ok (.invokevirtual 199, 3) := by decide +kernel
theorem dX12_newName_93 : decode cX12_newName 93 = .ok (.iload_n 1, 1) := by decide +kernel
theorem dX12_newName_94 : decode cX12_newName 94 = .ok (.ireturn, 1) := by decide +kernel
set_option maxRecDepth 20000 in
theorem ggX12_nameHere_X12_check : GoodIn wsX12_nameHere wsX12_check := goodIn_r _ [9, 2, 3, 10, 22, 23, 24, 25, 26, 27, 28, 29, 30, 31, 32, 33, 34, 35, 36, 37, 38, 39, 40, 41, 42, 43] (by decide +kernel) (by decide +kernel)
set_option maxRecDepth 20000 in
theorem gX12_nameHere_X12_check : GoodIn wsX12_nameHere (wsV RX12 196 RX12 yX12_check wsX12_check) := goodIn_app (goodIn_of _ (by decide +kernel)) ggX12_nameHere_X12_check
set_option maxRecDepth 20000 in
theorem ggX12_nameHere_X12_nameFrom : GoodIn wsX12_nameHere wsX12_nameFrom := goodIn_r _ [14, 15, 16, 17, 8, 18, 19, 20, 21, 22, 23, 24, 25, 26, 27, 28, 29, 30, 31, 32, 33, 34, 35, 36, 37, 38, 39, 40, 41, 42, 43] (by decide +kernel) (by decide +kernel)
set_option maxRecDepth 20000 in
theorem gX12_nameHere_X12_nameFrom : GoodIn wsX12_nameHere (wsV RX12 214 RX12 yX12_nameFrom wsX12_nameFrom) := goodIn_app (goodIn_of _ (by decide +kernel)) ggX12_nameHere_X12_nameFrom
theorem dX12_nameHere_0 : decode cX12_nameHere 0 = .ok (.aload_n 0, 1) := by decide +kernel
theorem dX12_nameHere_1 : decode cX12_nameHere 1 = .ok (.aload_n 0, 1) := by decide +kernel
theorem dX12_nameHere_2 : decode cX12_nameHere 2 = .ok (.getfield 185, 3) := by decide +kernel
theorem dX12_nameHere_5 : decode cX12_nameHere 5 = .ok (.iconst 3, 1) := by decide +kernel
theorem dX12_nameHere_6 : decode cX12_nameHere 6 = .ok (.if_icmp .ne 7, 3) := by decide +kernel
theorem dX12_nameHere_9 : decode cX12_nameHere 9 = .ok (.iconst 1, 1) := by decide +kernel
theorem dX12_nameHere_10 : decode cX12_nameHere 10 = .ok (.goto 4, 3) := by decide +kernel
theorem dX12_nameHere_13 : decode cX12_nameHere 13 = .ok (.iconst 0, 1) := by decide +kernel
theorem dX12_nameHere_14 : decode cX12_nameHere 14 = .ok (.iconst 1, 1) := by decide +kernel
theorem dX12_nameHere_15 : decode cX12_nameHere 15 = .ok (.invokevirtual 196, 3) := by decide +kernel
theorem dX12_nameHere_18 : decode cX12_nameHere 18 = .ok (.pop, 1) := by decide +kernel
theorem dX12_nameHere_19 : decode cX12_nameHere 19 = .ok (.aload_n 0, 1) := by decide +kernel
theorem dX12_nameHere_20 : decode cX12_nameHere 20 = .ok (.getfield 164, 3) := by decide +kernel
theorem dX12_nameHere_23 : decode cX12_nameHere 23 = .ok (.ifCond .ne 18, 3) := by decide +kernel
theorem dX12_nameHere_26 : decode cX12_nameHere 26 = .ok (.aload_n 0, 1) := by decide +kernel
theorem dX12_nameHere_27 : decode cX12_nameHere 27 = .ok (.aload_n 0, 1) := by decide +kernel
theorem dX12_nameHere_28 : decode cX12_nameHere 28 = .ok (.getfield 176, 3) := by decide +kernel
theorem dX12_nameHere_31 : decode cX12_nameHere 31 = .ok (.aload_n 0, 1) := by decide +kernel
theorem dX12_nameHere_32 : decode cX12_nameHere 32 = .ok (.getfield 179, 3) := by decide +kernel
theorem dX12_nameHere_35 : decode cX12_nameHere 35 = .ok (.invokevirtual 214, 3) := by decide +kernel
theorem dX12_nameHere_38 : decode cX12_nameHere 38 = .ok (.goto 4, 3) := by decide +kernel
theorem dX12_nameHere_41 : decode cX12_nameHere 41 = .ok (.iconst 0, 1) := by decide +kernel
theorem dX12_nameHere_42 : decode cX12_nameHere 42 = .ok (.ireturn, 1) := by decide +kernel
set_option maxRecDepth 20000 in
theorem ggX12_exists_X12_check : GoodIn wsX12_exists wsX12_check := goodIn_r _ [6, 1, 7, 8, 34, 35, 36, 37, 38, 39, 40, 41, 42, 43, 44, 45, 46, 47, 48, 49, 50, 51, 52, 53, 54, 55] (by decide +kernel) (by decide +kernel)
set_option maxRecDepth 20000 in
theorem gX12_exists_X12_check : GoodIn wsX12_exists (wsV RX12 196 RX12 yX12_check wsX12_check) := goodIn_app (goodIn_of _ (by decide +kernel)) ggX12_exists_X12_check
set_option maxRecDepth 20000 in
theorem ggX12_exists_X12_next : GoodIn wsX12_exists wsX12_next := goodIn_r _ [12, 1, 13, 14, 15, 5, 16, 17, 7, 18, 19, 20, 21, 22, 23, 24, 25, 26, 27, 28, 29, 30, 31, 32, 33, 34, 35, 36, 37, 38, 39, 40, 41, 42, 43, 44, 45, 46, 47, 48, 49, 50, 51, 52, 53, 54, 55] (by decide +kernel) (by decide +kernel)
set_option maxRecDepth 20000 in
theorem gX12_exists_X12_next : GoodIn wsX12_exists (wsV RX12 199 RX12 yX12_next wsX12_next) := goodIn_app (goodIn_of _ (by decide +kernel)) ggX12_exists_X12_next
theorem dX12_exists_0 : decode cX12_exists 0 = .ok (.aload_n 0, 1) := by decide +kernel
theorem dX12_exists_1 : decode cX12_exists 1 = .ok (.aload_n 0, 1) := by decide +kernel
theorem dX12_exists_2 : decode cX12_exists 2 = .ok (.getfield 164, 3) := by decide +kernel
theorem dX12_exists_5 : decode cX12_exists 5 = .ok (.ifCond .ne 8, 3) := by decide +kernel
theorem dX12_exists_8 : decode cX12_exists 8 = .ok (.iload_n 1, 1) := by decide +kernel
theorem dX12_exists_9 : decode cX12_exists 9 = .ok (.iconst (-1), 1) := by decide +kernel
theorem dX12_exists_10 : decode cX12_exists 10 = .ok (.if_icmp .eq 7, 3) := by decide +kernel
theorem dX12_exists_13 : decode cX12_exists 13 = .ok (.iconst 1, 1) := by decide +kernel
theorem dX12_exists_14 : decode cX12_exists 14 = .ok (.goto 4, 3) := by decide +kernel
theorem dX12_exists_17 : decode cX12_exists 17 = .ok (.iconst 0, 1) := by decide +kernel
theorem dX12_exists_18 : decode cX12_exists 18 = .ok (.iconst 4, 1) := by decide +kernel
theorem dX12_exists_19 : decode cX12_exists 19 = .ok (.invokevirtual 196, 3) := by decide +kernel
theorem dX12_exists_22 : decode cX12_exists 22 = .ok (.pop, 1) := by decide +kernel
theorem dX12_exists_23 : decode cX12_exists 23 = .ok (.aload_n 0, 1) := by decide +kernel
theorem dX12_exists_24 : decode cX12_exists 24 = .ok (.invokevirtual 199, 3) := by decide +kernel
theorem dX12_exists_27 : decode cX12_exists 27 = .ok (.aload_n 0, 1) := by decide +kernel
theorem dX12_exists_28 : decode cX12_exists 28 = .ok (.getfield 164, 3) := by decide +kernel
theorem dX12_exists_31 : decode cX12_exists 31 = .ok (.ifCond .ne 7, 3) := by decide +kernel
theorem dX12_exists_34 : decode cX12_exists 34 = .ok (.iload_n 1, 1) := by decide +kernel
theorem dX12_exists_35 : decode cX12_exists 35 = .ok (.goto 4, 3) := by decide +kernel
theorem dX12_exists_38 : decode cX12_exists 38 = .ok (.iconst 0, 1) := by decide +kernel
theorem dX12_exists_39 : decode cX12_exists 39 = .ok (.ireturn, 1) := by decide +kernel
set_option maxRecDepth 20000 in
theorem ggX12_realmHere_X12_nameHere : GoodIn wsX12_realmHere wsX12_nameHere := goodIn_r _ [6, 7, 8, 9, 10, 11, 12, 13, 5, 14, 15, 16, 17, 18, 19, 20, 21, 22, 23, 24, 25, 26, 53, 54, 55, 56, 57, 58, 59, 60, 61, 62, 63, 64, 65, 66, 67, 68, 69, 70, 71, 72, 73, 74] (by decide +kernel) (by decide +kernel)
set_option maxRecDepth 20000 in
theorem gX12_realmHere_X12_nameHere : GoodIn wsX12_realmHere (wsV RX12 220 RX12 yX12_nameHere wsX12_nameHere) := goodIn_app (goodIn_of _ (by decide +kernel)) ggX12_realmHere_X12_nameHere
set_option maxRecDepth 20000 in
theorem ggX12_realmHere_X12_realmNamed : GoodIn wsX12_realmHere wsX12_realmNamed := goodIn_r _ [29, 30, 31, 5, 32] (by decide +kernel) (by decide +kernel)
set_option maxRecDepth 20000 in
theorem gX12_realmHere_X12_realmNamed : GoodIn wsX12_realmHere (va_wsS RX12 205 yX12_realmNamed wsX12_realmNamed) := goodIn_app (goodIn_of _ (by decide +kernel)) ggX12_realmHere_X12_realmNamed
set_option maxRecDepth 20000 in
theorem ggX12_realmHere_X12_exists : GoodIn wsX12_realmHere wsX12_exists := goodIn_r _ [36, 8, 11, 12, 13, 5, 14, 9, 15, 37, 38, 39, 40, 41, 42, 43, 44, 45, 10, 46, 7, 47, 48, 49, 50, 51, 52, 20, 24, 25, 26, 21, 22, 23, 53, 54, 55, 56, 57, 58, 59, 60, 61, 62, 63, 64, 65, 66, 67, 68, 69, 70, 71, 72, 73, 74] (by decide +kernel) (by decide +kernel)
set_option maxRecDepth 20000 in
theorem gX12_realmHere_X12_exists : GoodIn wsX12_realmHere (wsV RX12 223 RX12 yX12_exists wsX12_exists) := goodIn_app (goodIn_of _ (by decide +kernel)) ggX12_realmHere_X12_exists
theorem dX12_realmHere_0 : decode cX12_realmHere 0 = .ok (.aload_n 0, 1) := by decide +kernel
theorem dX12_realmHere_1 : decode cX12_realmHere 1 = .ok (.aload_n 0, 1) := by decide +kernel
theorem dX12_realmHere_2 : decode cX12_realmHere 2 = .ok (.getfield 13, 3) := by decide +kernel
theorem dX12_realmHere_5 : decode cX12_realmHere 5 = .ok (.aload_n 0, 1) := by decide +kernel
theorem dX12_realmHere_6 : decode cX12_realmHere 6 = .ok (.invokevirtual 220, 3) := by decide +kernel
theorem dX12_realmHere_9 : decode cX12_realmHere 9 = .ok (.invokestatic 205, 3) := by decide +kernel
theorem dX12_realmHere_12 : decode cX12_realmHere 12 = .ok (.invokevirtual 223, 3) := by decide +kernel
theorem dX12_realmHere_15 : decode cX12_realmHere 15 = .ok (.ireturn, 1) := by decide +kernel
set_option maxRecDepth 20000 in
theorem ggX12_userHere_X12_nameHere : GoodIn wsX12_userHere wsX12_nameHere := goodIn_r _ [6, 7, 8, 9, 10, 11, 12, 13, 5, 14, 15, 16, 17, 18, 19, 20, 21, 22, 23, 24, 25, 26, 53, 54, 55, 56, 57, 58, 59, 60, 61, 62, 63, 64, 65, 66, 67, 68, 69, 70, 71, 72, 73, 74] (by decide +kernel) (by decide +kernel)
set_option maxRecDepth 20000 in
theorem gX12_userHere_X12_nameHere : GoodIn wsX12_userHere (wsV RX12 220 RX12 yX12_nameHere wsX12_nameHere) := goodIn_app (goodIn_of _ (by decide +kernel)) ggX12_userHere_X12_nameHere
set_option maxRecDepth 20000 in
theorem ggX12_userHere_X12_userNamed : GoodIn wsX12_userHere wsX12_userNamed := goodIn_r _ [29, 30, 31, 5, 32] (by decide +kernel) (by decide +kernel)
set_option maxRecDepth 20000 in
theorem gX12_userHere_X12_userNamed : GoodIn wsX12_userHere (va_wsS RX12 208 yX12_userNamed wsX12_userNamed) := goodIn_app (goodIn_of _ (by decide +kernel)) ggX12_userHere_X12_userNamed
set_option maxRecDepth 20000 in
theorem ggX12_userHere_X12_exists : GoodIn wsX12_userHere wsX12_exists := goodIn_r _ [36, 8, 11, 12, 13, 5, 14, 9, 15, 37, 38, 39, 40, 41, 42, 43, 44, 45, 10, 46, 7, 47, 48, 49, 50, 51, 52, 20, 24, 25, 26, 21, 22, 23, 53, 54, 55, 56, 57, 58, 59, 60, 61, 62, 63, 64, 65, 66, 67, 68, 69, 70, 71, 72, 73, 74] (by decide +kernel) (by decide +kernel)
set_option maxRecDepth 20000 in
theorem gX12_userHere_X12_exists : GoodIn wsX12_userHere (wsV RX12 223 RX12 yX12_exists wsX12_exists) := goodIn_app (goodIn_of _ (by decide +kernel)) ggX12_userHere_X12_exists
theorem dX12_userHere_0 : decode cX12_userHere 0 = .ok (.aload_n 0, 1) := by decide +kernel
theorem dX12_userHere_1 : decode cX12_userHere 1 = .ok (.aload_n 0, 1) := by decide +kernel
theorem dX12_userHere_2 : decode cX12_userHere 2 = .ok (.getfield 13, 3) := by decide +kernel
theorem dX12_userHere_5 : decode cX12_userHere 5 = .ok (.aload_n 0, 1) := by decide +kernel
theorem dX12_userHere_6 : decode cX12_userHere 6 = .ok (.invokevirtual 220, 3) := by decide +kernel
theorem dX12_userHere_9 : decode cX12_userHere 9 = .ok (.invokestatic 208, 3) := by decide +kernel
theorem dX12_userHere_12 : decode cX12_userHere 12 = .ok (.invokevirtual 223, 3) := by decide +kernel
theorem dX12_userHere_15 : decode cX12_userHere 15 = .ok (.ireturn, 1) := by decide +kernel
set_option maxRecDepth 20000 in
theorem ggX12_serviceHere_X12_nameHere : GoodIn wsX12_serviceHere wsX12_nameHere := goodIn_r _ [6, 7, 8, 9, 10, 11, 12, 13, 5, 14, 15, 16, 17, 18, 19, 20, 21, 22, 23, 24, 25, 26, 53, 54, 55, 56, 57, 58, 59, 60, 61, 62, 63, 64, 65, 66, 67, 68, 69, 70, 71, 72, 73, 74] (by decide +kernel) (by decide +kernel)
set_option maxRecDepth 20000 in
theorem gX12_serviceHere_X12_nameHere : GoodIn wsX12_serviceHere (wsV RX12 220 RX12 yX12_nameHere wsX12_nameHere) := goodIn_app (goodIn_of _ (by decide +kernel)) ggX12_serviceHere_X12_nameHere
set_option maxRecDepth 20000 in
theorem ggX12_serviceHere_X12_serviceNamed : GoodIn wsX12_serviceHere wsX12_serviceNamed := goodIn_r _ [29, 30, 31, 5, 32] (by decide +kernel) (by decide +kernel)
set_option maxRecDepth 20000 in
theorem gX12_serviceHere_X12_serviceNamed : GoodIn wsX12_serviceHere (va_wsS RX12 211 yX12_serviceNamed wsX12_serviceNamed) := goodIn_app (goodIn_of _ (by decide +kernel)) ggX12_serviceHere_X12_serviceNamed
set_option maxRecDepth 20000 in
theorem ggX12_serviceHere_X12_exists : GoodIn wsX12_serviceHere wsX12_exists := goodIn_r _ [36, 8, 11, 12, 13, 5, 14, 9, 15, 37, 38, 39, 40, 41, 42, 43, 44, 45, 10, 46, 7, 47, 48, 49, 50, 51, 52, 20, 24, 25, 26, 21, 22, 23, 53, 54, 55, 56, 57, 58, 59, 60, 61, 62, 63, 64, 65, 66, 67, 68, 69, 70, 71, 72, 73, 74] (by decide +kernel) (by decide +kernel)
set_option maxRecDepth 20000 in
theorem gX12_serviceHere_X12_exists : GoodIn wsX12_serviceHere (wsV RX12 223 RX12 yX12_exists wsX12_exists) := goodIn_app (goodIn_of _ (by decide +kernel)) ggX12_serviceHere_X12_exists
theorem dX12_serviceHere_0 : decode cX12_serviceHere 0 = .ok (.aload_n 0, 1) := by decide +kernel
theorem dX12_serviceHere_1 : decode cX12_serviceHere 1 = .ok (.aload_n 0, 1) := by decide +kernel
theorem dX12_serviceHere_2 : decode cX12_serviceHere 2 = .ok (.getfield 13, 3) := by decide +kernel
theorem dX12_serviceHere_5 : decode cX12_serviceHere 5 = .ok (.aload_n 0, 1) := by decide +kernel
theorem dX12_serviceHere_6 : decode cX12_serviceHere 6 = .ok (.invokevirtual 220, 3) := by decide +kernel
theorem dX12_serviceHere_9 : decode cX12_serviceHere 9 = .ok (.invokestatic 211, 3) := by decide +kernel
theorem dX12_serviceHere_12 : decode cX12_serviceHere 12 = .ok (.invokevirtual 223, 3) := by decide +kernel
theorem dX12_serviceHere_15 : decode cX12_serviceHere 15 = .ok (.ireturn, 1) := by decide +kernel
set_option maxRecDepth 20000 in
theorem ggX12_ticketHere_X12_check : GoodIn wsX12_ticketHere wsX12_check := goodIn_r _ [9, 2, 10, 11, 45, 46, 47, 48, 49, 50, 51, 52, 53, 54, 55, 56, 57, 58, 59, 60, 61, 62, 63, 64, 65, 66] (by decide +kernel) (by decide +kernel)
set_option maxRecDepth 20000 in
theorem gX12_ticketHere_X12_check : GoodIn wsX12_ticketHere (wsV RX12 196 RX12 yX12_check wsX12_check) := goodIn_app (goodIn_of _ (by decide +kernel)) ggX12_ticketHere_X12_check
set_option maxRecDepth 20000 in
theorem ggX12_ticketHere_X12_find : GoodIn wsX12_ticketHere wsX12_find := goodIn_r _ [14, 15, 16, 8, 17] (by decide +kernel) (by decide +kernel)
set_option maxRecDepth 20000 in
theorem gX12_ticketHere_X12_find : GoodIn wsX12_ticketHere (va_wsS RX12 226 yX12_find wsX12_find) := goodIn_app (goodIn_of _ (by decide +kernel)) ggX12_ticketHere_X12_find
set_option maxRecDepth 20000 in
theorem ggX12_ticketHere_X12_exists : GoodIn wsX12_ticketHere wsX12_exists := goodIn_r _ [21, 2, 5, 6, 7, 8, 9, 10, 11, 22, 23, 24, 25, 26, 27, 28, 29, 30, 31, 4, 1, 32, 33, 34, 35, 36, 37, 38, 39, 40, 41, 42, 43, 44, 45, 46, 47, 48, 49, 50, 51, 52, 53, 54, 55, 56, 57, 58, 59, 60, 61, 62, 63, 64, 65, 66] (by decide +kernel) (by decide +kernel)
set_option maxRecDepth 20000 in
theorem gX12_ticketHere_X12_exists : GoodIn wsX12_ticketHere (wsV RX12 223 RX12 yX12_exists wsX12_exists) := goodIn_app (goodIn_of _ (by decide +kernel)) ggX12_ticketHere_X12_exists
theorem dX12_ticketHere_0 : decode cX12_ticketHere 0 = .ok (.aload_n 0, 1) := by decide +kernel
theorem dX12_ticketHere_1 : decode cX12_ticketHere 1 = .ok (.aload_n 0, 1) := by decide +kernel
theorem dX12_ticketHere_2 : decode cX12_ticketHere 2 = .ok (.getfield 185, 3) := by decide +kernel
theorem dX12_ticketHere_5 : decode cX12_ticketHere 5 = .ok (.iconst 2, 1) := by decide +kernel
theorem dX12_ticketHere_6 : decode cX12_ticketHere 6 = .ok (.if_icmp .ne 7, 3) := by decide +kernel
theorem dX12_ticketHere_9 : decode cX12_ticketHere 9 = .ok (.iconst 1, 1) := by decide +kernel
theorem dX12_ticketHere_10 : decode cX12_ticketHere 10 = .ok (.goto 4, 3) := by decide +kernel
theorem dX12_ticketHere_13 : decode cX12_ticketHere 13 = .ok (.iconst 0, 1) := by decide +kernel
theorem dX12_ticketHere_14 : decode cX12_ticketHere 14 = .ok (.iconst 1, 1) := by decide +kernel
theorem dX12_ticketHere_15 : decode cX12_ticketHere 15 = .ok (.invokevirtual 196, 3) := by decide +kernel
theorem dX12_ticketHere_18 : decode cX12_ticketHere 18 = .ok (.pop, 1) := by decide +kernel
theorem dX12_ticketHere_19 : decode cX12_ticketHere 19 = .ok (.aload_n 0, 1) := by decide +kernel
theorem dX12_ticketHere_20 : decode cX12_ticketHere 20 = .ok (.aload_n 0, 1) := by decide +kernel
theorem dX12_ticketHere_21 : decode cX12_ticketHere 21 = .ok (.getfield 164, 3) := by decide +kernel
theorem dX12_ticketHere_24 : decode cX12_ticketHere 24 = .ok (.ifCond .ne 17, 3) := by decide +kernel
theorem dX12_ticketHere_27 : decode cX12_ticketHere 27 = .ok (.aload_n 0, 1) := by decide +kernel
theorem dX12_ticketHere_28 : decode cX12_ticketHere 28 = .ok (.getfield 13, 3) := by decide +kernel
theorem dX12_ticketHere_31 : decode cX12_ticketHere 31 = .ok (.aload_n 0, 1) := by decide +kernel
theorem dX12_ticketHere_32 : decode cX12_ticketHere 32 = .ok (.getfield 182, 3) := by decide +kernel
theorem dX12_ticketHere_35 : decode cX12_ticketHere 35 = .ok (.invokestatic 226, 3) := by decide +kernel
theorem dX12_ticketHere_38 : decode cX12_ticketHere 38 = .ok (.goto 4, 3) := by decide +kernel
theorem dX12_ticketHere_41 : decode cX12_ticketHere 41 = .ok (.iconst 0, 1) := by decide +kernel
theorem dX12_ticketHere_42 : decode cX12_ticketHere 42 = .ok (.invokevirtual 223, 3) := by decide +kernel
theorem dX12_ticketHere_45 : decode cX12_ticketHere 45 = .ok (.ireturn, 1) := by decide +kernel
set_option maxRecDepth 20000 in
theorem ggX12_clockHere_X12_is : GoodIn wsX12_clockHere wsX12_is := goodIn_r _ [5, 6, 7, 8, 9, 10, 11, 12, 13, 14, 15, 16, 17, 18, 19, 20, 21, 22, 23, 24, 25, 26, 27, 28, 29, 30, 31, 32, 33, 34, 35, 36, 37, 38, 39, 40, 41, 42, 43, 44, 45, 46, 47, 48, 49, 50, 51, 52, 53, 54, 55, 56, 57, 58, 91, 92, 93, 94, 95, 96, 97, 98, 99, 100, 101, 102, 103, 104, 105, 106, 107, 108, 109, 110, 111, 112] (by decide +kernel) (by decide +kernel)
set_option maxRecDepth 20000 in
theorem gX12_clockHere_X12_is : GoodIn wsX12_clockHere (wsV RX12 231 RX12 yX12_is wsX12_is) := goodIn_app (goodIn_of _ (by decide +kernel)) ggX12_clockHere_X12_is
set_option maxRecDepth 20000 in
theorem ggX12_clockHere_X12_check : GoodIn wsX12_clockHere wsX12_check := goodIn_r _ [62, 63, 9, 64, 91, 92, 93, 94, 95, 96, 97, 98, 99, 100, 101, 102, 103, 104, 105, 106, 107, 108, 109, 110, 111, 112] (by decide +kernel) (by decide +kernel)
set_option maxRecDepth 20000 in
theorem gX12_clockHere_X12_check : GoodIn wsX12_clockHere (wsV RX12 196 RX12 yX12_check wsX12_check) := goodIn_app (goodIn_of _ (by decide +kernel)) ggX12_clockHere_X12_check
set_option maxRecDepth 20000 in
theorem ggX12_clockHere_X12_next : GoodIn wsX12_clockHere wsX12_next := goodIn_r _ [68, 63, 69, 70, 71, 4, 72, 73, 9, 7, 74, 6, 75, 76, 77, 78, 79, 80, 8, 81, 82, 83, 84, 85, 86, 91, 92, 93, 94, 95, 96, 97, 98, 99, 100, 101, 102, 103, 104, 105, 106, 107, 108, 109, 110, 111, 112] (by decide +kernel) (by decide +kernel)
set_option maxRecDepth 20000 in
theorem gX12_clockHere_X12_next : GoodIn wsX12_clockHere (wsV RX12 199 RX12 yX12_next wsX12_next) := goodIn_app (goodIn_of _ (by decide +kernel)) ggX12_clockHere_X12_next
set_option maxRecDepth 20000 in
theorem ggX12_clockHere_X12_number : GoodIn wsX12_clockHere wsX12_number := goodIn_r _ [90, 6, 74, 63, 59, 60, 61, 4, 62, 9, 64, 84, 85, 86, 65, 66, 67, 68, 69, 70, 71, 72, 73, 7, 75, 76, 77, 78, 79, 80, 8, 81, 82, 83, 91, 92, 93, 94, 95, 96, 97, 98, 99, 100, 101, 102, 103, 104, 105, 106, 107, 108, 109, 110, 111, 112] (by decide +kernel) (by decide +kernel)
set_option maxRecDepth 20000 in
theorem gX12_clockHere_X12_number : GoodIn wsX12_clockHere (wsV RX12 239 RX12 yX12_number wsX12_number) := goodIn_app (goodIn_of _ (by decide +kernel)) ggX12_clockHere_X12_number
theorem dX12_clockHere_0 : decode cX12_clockHere 0 = .ok (.aload_n 0, 1) := by decide +kernel
theorem dX12_clockHere_1 : decode cX12_clockHere 1 = .ok (.ldc 229, 2) := by decide +kernel
theorem dX12_clockHere_3 : decode cX12_clockHere 3 = .ok (.invokevirtual 231, 3) := by decide +kernel
theorem dX12_clockHere_6 : decode cX12_clockHere 6 = .ok (.istore_n 1, 1) := by decide +kernel
theorem dX12_clockHere_7 : decode cX12_clockHere 7 = .ok (.aload_n 0, 1) := by decide +kernel
theorem dX12_clockHere_8 : decode cX12_clockHere 8 = .ok (.ldc 235, 2) := by decide +kernel
theorem dX12_clockHere_10 : decode cX12_clockHere 10 = .ok (.invokevirtual 231, 3) := by decide +kernel
theorem dX12_clockHere_13 : decode cX12_clockHere 13 = .ok (.istore_n 2, 1) := by decide +kernel
theorem dX12_clockHere_14 : decode cX12_clockHere 14 = .ok (.aload_n 0, 1) := by decide +kernel
theorem dX12_clockHere_15 : decode cX12_clockHere 15 = .ok (.iload_n 1, 1) := by decide +kernel
theorem dX12_clockHere_16 : decode cX12_clockHere 16 = .ok (.ifCond .ne 16, 3) := by decide +kernel
theorem dX12_clockHere_19 : decode cX12_clockHere 19 = .ok (.iload_n 2, 1) := by decide +kernel
theorem dX12_clockHere_20 : decode cX12_clockHere 20 = .ok (.ifCond .ne 12, 3) := by decide +kernel
theorem dX12_clockHere_23 : decode cX12_clockHere 23 = .ok (.aload_n 0, 1) := by decide +kernel
theorem dX12_clockHere_24 : decode cX12_clockHere 24 = .ok (.ldc 237, 2) := by decide +kernel
theorem dX12_clockHere_26 : decode cX12_clockHere 26 = .ok (.invokevirtual 231, 3) := by decide +kernel
theorem dX12_clockHere_29 : decode cX12_clockHere 29 = .ok (.ifCond .eq 7, 3) := by decide +kernel
theorem dX12_clockHere_32 : decode cX12_clockHere 32 = .ok (.iconst 1, 1) := by decide +kernel
theorem dX12_clockHere_33 : decode cX12_clockHere 33 = .ok (.goto 4, 3) := by decide +kernel
theorem dX12_clockHere_36 : decode cX12_clockHere 36 = .ok (.iconst 0, 1) := by decide +kernel
theorem dX12_clockHere_37 : decode cX12_clockHere 37 = .ok (.iconst 1, 1) := by decide +kernel
theorem dX12_clockHere_38 : decode cX12_clockHere 38 = .ok (.invokevirtual 196, 3) := by decide +kernel
theorem dX12_clockHere_41 : decode cX12_clockHere 41 = .ok (.pop, 1) := by decide +kernel
theorem dX12_clockHere_42 : decode cX12_clockHere 42 = .ok (.aload_n 0, 1) := by decide +kernel
theorem dX12_clockHere_43 : decode cX12_clockHere 43 = .ok (.invokevirtual 199, 3) := by decide +kernel
theorem dX12_clockHere_46 : decode cX12_clockHere 46 = .ok (.iload_n 2, 1) := by decide +kernel
theorem dX12_clockHere_47 : decode cX12_clockHere 47 = .ok (.ifCond .eq 7, 3) := by decide +kernel
theorem dX12_clockHere_50 : decode cX12_clockHere 50 = .ok (.iconst 0, 1) := by decide +kernel
theorem dX12_clockHere_51 : decode cX12_clockHere 51 = .ok (.goto 10, 3) := by decide +kernel
theorem dX12_clockHere_54 : decode cX12_clockHere 54 = .ok (.aload_n 0, 1) := by decide +kernel
theorem dX12_clockHere_55 : decode cX12_clockHere 55 = .ok (.iconst 1, 1) := by decide +kernel
theorem dX12_clockHere_56 : decode cX12_clockHere 56 = .ok (.bipush 9, 2) := by decide +kernel
theorem dX12_clockHere_58 : decode cX12_clockHere 58 = .ok (.invokevirtual 239, 3) := by decide +kernel
theorem dX12_clockHere_61 : decode cX12_clockHere 61 = .ok (.istore_n 3, 1) := by decide +kernel
theorem dX12_clockHere_62 : decode cX12_clockHere 62 = .ok (.iload_n 1, 1) := by decide +kernel
theorem dX12_clockHere_63 : decode cX12_clockHere 63 = .ok (.ifCond .eq 7, 3) := by decide +kernel
theorem dX12_clockHere_66 : decode cX12_clockHere 66 = .ok (.iload_n 3, 1) := by decide +kernel
theorem dX12_clockHere_67 : decode cX12_clockHere 67 = .ok (.goto 5, 3) := by decide +kernel
theorem dX12_clockHere_70 : decode cX12_clockHere 70 = .ok (.iload_n 3, 1) := by decide +kernel
theorem dX12_clockHere_71 : decode cX12_clockHere 71 = .ok (.ineg, 1) := by decide +kernel
theorem dX12_clockHere_72 : decode cX12_clockHere 72 = .ok (.ireturn, 1) := by decide +kernel
set_option maxRecDepth 20000 in
theorem ggX12_readRealm_X12_check : GoodIn wsX12_readRealm wsX12_check := goodIn_r _ [7, 2, 8, 9, 133, 134, 135, 136, 137, 138, 139, 140, 141, 142, 143, 144, 145, 146, 147, 148, 149, 150, 151, 152, 153, 154] (by decide +kernel) (by decide +kernel)
set_option maxRecDepth 20000 in
theorem gX12_readRealm_X12_check : GoodIn wsX12_readRealm (wsV RX12 196 RX12 yX12_check wsX12_check) := goodIn_app (goodIn_of _ (by decide +kernel)) ggX12_readRealm_X12_check
set_option maxRecDepth 20000 in
theorem ggX12_readRealm_X12_next : GoodIn wsX12_readRealm wsX12_next := goodIn_r _ [13, 2, 14, 15, 16, 6, 17, 18, 8, 19, 20, 21, 22, 23, 24, 25, 26, 27, 28, 29, 30, 31, 32, 33, 34, 133, 134, 135, 136, 137, 138, 139, 140, 141, 142, 143, 144, 145, 146, 147, 148, 149, 150, 151, 152, 153, 154] (by decide +kernel) (by decide +kernel)
set_option maxRecDepth 20000 in
theorem gX12_readRealm_X12_next : GoodIn wsX12_readRealm (wsV RX12 199 RX12 yX12_next wsX12_next) := goodIn_app (goodIn_of _ (by decide +kernel)) ggX12_readRealm_X12_next
set_option maxRecDepth 20000 in
theorem ggX12_readRealm_X12_newName : GoodIn wsX12_readRealm wsX12_newName := goodIn_r _ [38, 21, 2, 8, 19, 1, 3, 4, 5, 6, 7, 9, 39, 40, 41, 42, 28, 32, 33, 34, 29, 30, 31, 43, 44, 45, 46, 47, 48, 49, 50, 51, 52, 53, 54, 55, 56, 57, 58, 59, 60, 61, 62, 63, 10, 11, 12, 13, 14, 15, 16, 17, 18, 20, 22, 23, 24, 25, 26, 27, 133, 134, 135, 136, 137, 138, 139, 140, 141, 142, 143, 144, 145, 146, 147, 148, 149, 150, 151, 152, 153, 154] (by decide +kernel) (by decide +kernel)
set_option maxRecDepth 20000 in
theorem gX12_readRealm_X12_newName : GoodIn wsX12_readRealm (wsV RX12 242 RX12 yX12_newName wsX12_newName) := goodIn_app (goodIn_of _ (by decide +kernel)) ggX12_readRealm_X12_newName
set_option maxRecDepth 20000 in
theorem ggX12_readRealm_X12_number : GoodIn wsX12_readRealm wsX12_number := goodIn_r _ [67, 21, 20, 2, 3, 4, 5, 6, 7, 8, 9, 32, 33, 34, 10, 11, 12, 13, 14, 15, 16, 17, 18, 19, 22, 23, 24, 25, 26, 27, 28, 29, 30, 31, 133, 134, 135, 136, 137, 138, 139, 140, 141, 142, 143, 144, 145, 146, 147, 148, 149, 150, 151, 152, 153, 154] (by decide +kernel) (by decide +kernel)
set_option maxRecDepth 20000 in
theorem gX12_readRealm_X12_number : GoodIn wsX12_readRealm (wsV RX12 239 RX12 yX12_number wsX12_number) := goodIn_app (goodIn_of _ (by decide +kernel)) ggX12_readRealm_X12_number
set_option maxRecDepth 20000 in
theorem ggX12_readRealm_X12_clockHere : GoodIn wsX12_readRealm wsX12_clockHere := goodIn_r _ [71, 72, 73, 74, 6, 75, 21, 19, 28, 8, 76, 77, 78, 79, 80, 81, 82, 83, 84, 85, 86, 87, 88, 89, 90, 91, 92, 93, 94, 95, 96, 97, 98, 99, 100, 101, 102, 103, 104, 105, 106, 107, 108, 109, 110, 111, 112, 113, 114, 115, 116, 117, 118, 119, 120, 121, 122, 123, 124, 3, 4, 5, 7, 2, 9, 10, 11, 12, 13, 14, 15, 16, 17, 18, 20, 22, 23, 24, 25, 26, 27, 29, 30, 31, 32, 33, 34, 64, 65, 66, 67, 133, 134, 135, 136, 137, 138, 139, 140, 141, 142, 143, 144, 145, 146, 147, 148, 149, 150, 151, 152, 153, 154] (by decide +kernel) (by decide +kernel)
set_option maxRecDepth 20000 in
theorem gX12_readRealm_X12_clockHere : GoodIn wsX12_readRealm (wsV RX12 245 RX12 yX12_clockHere wsX12_clockHere) := goodIn_app (goodIn_of _ (by decide +kernel)) ggX12_readRealm_X12_clockHere
set_option maxRecDepth 20000 in
theorem ggX12_readRealm_X12_finish : GoodIn wsX12_readRealm wsX12_finish := goodIn_r _ [128, 129, 130, 131, 6, 132, 21, 28, 8, 3, 4, 5, 7, 2, 9, 10, 11, 12, 13, 14, 15, 16, 17, 18, 19, 20, 22, 23, 24, 25, 26, 27, 29, 30, 31, 32, 33, 34, 133, 134, 135, 136, 137, 138, 139, 140, 141, 142, 143, 144, 145, 146, 147, 148, 149, 150, 151, 152, 153, 154] (by decide +kernel) (by decide +kernel)
set_option maxRecDepth 20000 in
theorem gX12_readRealm_X12_finish : GoodIn wsX12_readRealm (wsV RX12 248 RX12 yX12_finish wsX12_finish) := goodIn_app (goodIn_of _ (by decide +kernel)) ggX12_readRealm_X12_finish
set_option maxRecDepth 20000 in
theorem ggX12_readRealm_X12_ofRealm : GoodIn wsX12_readRealm wsX12_ofRealm := goodIn_r _ [51] (by decide +kernel) (by decide +kernel)
set_option maxRecDepth 20000 in
theorem gX12_readRealm_X12_ofRealm : GoodIn wsX12_readRealm (va_wsS RX12 91 yX12_ofRealm wsX12_ofRealm) := goodIn_app (goodIn_of _ (by decide +kernel)) ggX12_readRealm_X12_ofRealm
theorem dX12_readRealm_0 : decode cX12_readRealm 0 = .ok (.aload_n 0, 1) := by decide +kernel
theorem dX12_readRealm_1 : decode cX12_readRealm 1 = .ok (.aload_n 0, 1) := by decide +kernel
theorem dX12_readRealm_2 : decode cX12_readRealm 2 = .ok (.getfield 13, 3) := by decide +kernel
theorem dX12_readRealm_5 : decode cX12_readRealm 5 = .ok (.iconst 3, 1) := by decide +kernel
theorem dX12_readRealm_6 : decode cX12_readRealm 6 = .ok (.iaload, 1) := by decide +kernel
theorem dX12_readRealm_7 : decode cX12_readRealm 7 = .ok (.iconst 5, 1) := by decide +kernel
theorem dX12_readRealm_8 : decode cX12_readRealm 8 = .ok (.if_icmp .ge 7, 3) := by decide +kernel
theorem dX12_readRealm_11 : decode cX12_readRealm 11 = .ok (.iconst 1, 1) := by decide +kernel
theorem dX12_readRealm_12 : decode cX12_readRealm 12 = .ok (.goto 4, 3) := by decide +kernel
theorem dX12_readRealm_15 : decode cX12_readRealm 15 = .ok (.iconst 0, 1) := by decide +kernel
theorem dX12_readRealm_16 : decode cX12_readRealm 16 = .ok (.iconst 5, 1) := by decide +kernel
theorem dX12_readRealm_17 : decode cX12_readRealm 17 = .ok (.invokevirtual 196, 3) := by decide +kernel
theorem dX12_readRealm_20 : decode cX12_readRealm 20 = .ok (.pop, 1) := by decide +kernel
theorem dX12_readRealm_21 : decode cX12_readRealm 21 = .ok (.aload_n 0, 1) := by decide +kernel
theorem dX12_readRealm_22 : decode cX12_readRealm 22 = .ok (.invokevirtual 199, 3) := by decide +kernel
theorem dX12_readRealm_25 : decode cX12_readRealm 25 = .ok (.aload_n 0, 1) := by decide +kernel
theorem dX12_readRealm_26 : decode cX12_readRealm 26 = .ok (.invokevirtual 242, 3) := by decide +kernel
theorem dX12_readRealm_29 : decode cX12_readRealm 29 = .ok (.istore_n 1, 1) := by decide +kernel
theorem dX12_readRealm_30 : decode cX12_readRealm 30 = .ok (.aload_n 0, 1) := by decide +kernel
theorem dX12_readRealm_31 : decode cX12_readRealm 31 = .ok (.iconst 1, 1) := by decide +kernel
theorem dX12_readRealm_32 : decode cX12_readRealm 32 = .ok (.sipush 999, 3) := by decide +kernel
theorem dX12_readRealm_35 : decode cX12_readRealm 35 = .ok (.invokevirtual 239, 3) := by decide +kernel
theorem dX12_readRealm_38 : decode cX12_readRealm 38 = .ok (.istore_n 2, 1) := by decide +kernel
theorem dX12_readRealm_39 : decode cX12_readRealm 39 = .ok (.aload_n 0, 1) := by decide +kernel
theorem dX12_readRealm_40 : decode cX12_readRealm 40 = .ok (.iconst 0, 1) := by decide +kernel
theorem dX12_readRealm_41 : decode cX12_readRealm 41 = .ok (.sipush 9999, 3) := by decide +kernel
theorem dX12_readRealm_44 : decode cX12_readRealm 44 = .ok (.invokevirtual 239, 3) := by decide +kernel
theorem dX12_readRealm_47 : decode cX12_readRealm 47 = .ok (.istore_n 3, 1) := by decide +kernel
theorem dX12_readRealm_48 : decode cX12_readRealm 48 = .ok (.aload_n 0, 1) := by decide +kernel
theorem dX12_readRealm_49 : decode cX12_readRealm 49 = .ok (.invokevirtual 245, 3) := by decide +kernel
theorem dX12_readRealm_52 : decode cX12_readRealm 52 = .ok (.istore 4, 2) := by decide +kernel
theorem dX12_readRealm_54 : decode cX12_readRealm 54 = .ok (.aload_n 0, 1) := by decide +kernel
theorem dX12_readRealm_55 : decode cX12_readRealm 55 = .ok (.invokevirtual 248, 3) := by decide +kernel
theorem dX12_readRealm_58 : decode cX12_readRealm 58 = .ok (.aload_n 0, 1) := by decide +kernel
theorem dX12_readRealm_59 : decode cX12_readRealm 59 = .ok (.getfield 164, 3) := by decide +kernel
theorem dX12_readRealm_62 : decode cX12_readRealm 62 = .ok (.ifCond .ne 65, 3) := by decide +kernel
theorem dX12_readRealm_65 : decode cX12_readRealm 65 = .ok (.aload_n 0, 1) := by decide +kernel
theorem dX12_readRealm_66 : decode cX12_readRealm 66 = .ok (.getfield 13, 3) := by decide +kernel
theorem dX12_readRealm_69 : decode cX12_readRealm 69 = .ok (.iconst 3, 1) := by decide +kernel
theorem dX12_readRealm_70 : decode cX12_readRealm 70 = .ok (.iaload, 1) := by decide +kernel
theorem dX12_readRealm_71 : decode cX12_readRealm 71 = .ok (.invokestatic 91, 3) := by decide +kernel
theorem dX12_readRealm_74 : decode cX12_readRealm 74 = .ok (.istore 5, 2) := by decide +kernel
theorem dX12_readRealm_76 : decode cX12_readRealm 76 = .ok (.aload_n 0, 1) := by decide +kernel
theorem dX12_readRealm_77 : decode cX12_readRealm 77 = .ok (.getfield 13, 3) := by decide +kernel
theorem dX12_readRealm_80 : decode cX12_readRealm 80 = .ok (.iload 5, 2) := by decide +kernel
theorem dX12_readRealm_82 : decode cX12_readRealm 82 = .ok (.iconst 0, 1) := by decide +kernel
theorem dX12_readRealm_83 : decode cX12_readRealm 83 = .ok (.iadd, 1) := by decide +kernel
theorem dX12_readRealm_84 : decode cX12_readRealm 84 = .ok (.iload_n 1, 1) := by decide +kernel
theorem dX12_readRealm_85 : decode cX12_readRealm 85 = .ok (.iastore, 1) := by decide +kernel
theorem dX12_readRealm_86 : decode cX12_readRealm 86 = .ok (.aload_n 0, 1) := by decide +kernel
theorem dX12_readRealm_87 : decode cX12_readRealm 87 = .ok (.getfield 13, 3) := by decide +kernel
theorem dX12_readRealm_90 : decode cX12_readRealm 90 = .ok (.iload 5, 2) := by decide +kernel
theorem dX12_readRealm_92 : decode cX12_readRealm 92 = .ok (.iconst 1, 1) := by decide +kernel
theorem dX12_readRealm_93 : decode cX12_readRealm 93 = .ok (.iadd, 1) := by decide +kernel
theorem dX12_readRealm_94 : decode cX12_readRealm 94 = .ok (.iload_n 2, 1) := by decide +kernel
theorem dX12_readRealm_95 : decode cX12_readRealm 95 = .ok (.iastore, 1) := by decide +kernel
theorem dX12_readRealm_96 : decode cX12_readRealm 96 = .ok (.aload_n 0, 1) := by decide +kernel
theorem dX12_readRealm_97 : decode cX12_readRealm 97 = .ok (.getfield 13, 3) := by decide +kernel
theorem dX12_readRealm_100 : decode cX12_readRealm 100 = .ok (.iload 5, 2) := by decide +kernel
theorem dX12_readRealm_102 : decode cX12_readRealm 102 = .ok (.iconst 2, 1) := by decide +kernel
theorem dX12_readRealm_103 : decode cX12_readRealm 103 = .ok (.iadd, 1) := by decide +kernel
theorem dX12_readRealm_104 : decode cX12_readRealm 104 = .ok (.iload_n 3, 1) := by decide +kernel
theorem dX12_readRealm_105 : decode cX12_readRealm 105 = .ok (.iastore, 1) := by decide +kernel
theorem dX12_readRealm_106 : decode cX12_readRealm 106 = .ok (.aload_n 0, 1) := by decide +kernel
theorem dX12_readRealm_107 : decode cX12_readRealm 107 = .ok (.getfield 13, 3) := by decide +kernel
theorem dX12_readRealm_110 : decode cX12_readRealm 110 = .ok (.iload 5, 2) := by decide +kernel
theorem dX12_readRealm_112 : decode cX12_readRealm 112 = .ok (.iconst 3, 1) := by decide +kernel
theorem dX12_readRealm_113 : decode cX12_readRealm 113 = .ok (.iadd, 1) := by decide +kernel
theorem dX12_readRealm_114 : decode cX12_readRealm 114 = .ok (.iload 4, 2) := by decide +kernel
theorem dX12_readRealm_116 : decode cX12_readRealm 116 = .ok (.iastore, 1) := by decide +kernel
theorem dX12_readRealm_117 : decode cX12_readRealm 117 = .ok (.aload_n 0, 1) := by decide +kernel
theorem dX12_readRealm_118 : decode cX12_readRealm 118 = .ok (.getfield 13, 3) := by decide +kernel
theorem dX12_readRealm_121 : decode cX12_readRealm 121 = .ok (.iconst 3, 1) := by decide +kernel
theorem dX12_readRealm_122 : decode cX12_readRealm 122 = .ok (.dup2, 1) := by decide +kernel
theorem dX12_readRealm_123 : decode cX12_readRealm 123 = .ok (.iaload, 1) := by decide +kernel
theorem dX12_readRealm_124 : decode cX12_readRealm 124 = .ok (.iconst 1, 1) := by decide +kernel
theorem dX12_readRealm_125 : decode cX12_readRealm 125 = .ok (.iadd, 1) := by decide +kernel
theorem dX12_readRealm_126 : decode cX12_readRealm 126 = .ok (.iastore, 1) := by decide +kernel
theorem dX12_readRealm_127 : decode cX12_readRealm 127 = .ok (.return_, 1) := by decide +kernel
set_option maxRecDepth 20000 in
theorem ggX12_readTrust_X12_next : GoodIn wsX12_readTrust wsX12_next := goodIn_r _ [7, 2, 8, 9, 10, 6, 11, 12, 13, 14, 15, 16, 17, 18, 19, 20, 21, 22, 23, 24, 25, 26, 27, 28, 29, 68, 69, 70, 71, 72, 73, 74, 75, 76, 77, 78, 79, 80, 81, 82, 83, 84, 85, 86, 87, 88, 89] (by decide +kernel) (by decide +kernel)
set_option maxRecDepth 20000 in
theorem gX12_readTrust_X12_next : GoodIn wsX12_readTrust (wsV RX12 199 RX12 yX12_next wsX12_next) := goodIn_app (goodIn_of _ (by decide +kernel)) ggX12_readTrust_X12_next
set_option maxRecDepth 20000 in
theorem ggX12_readTrust_X12_realmHere : GoodIn wsX12_readTrust wsX12_realmHere := goodIn_r _ [33, 1, 34, 35, 36, 6, 37, 16, 2, 13, 14, 38, 39, 40, 41, 42, 43, 44, 45, 46, 23, 27, 28, 29, 24, 25, 26, 47, 48, 49, 50, 51, 52, 53, 54, 55, 56, 3, 4, 5, 7, 8, 9, 10, 11, 12, 15, 17, 18, 19, 20, 21, 22, 68, 69, 70, 71, 72, 73, 74, 75, 76, 77, 78, 79, 80, 81, 82, 83, 84, 85, 86, 87, 88, 89] (by decide +kernel) (by decide +kernel)
set_option maxRecDepth 20000 in
theorem gX12_readTrust_X12_realmHere : GoodIn wsX12_readTrust (wsV RX12 251 RX12 yX12_realmHere wsX12_realmHere) := goodIn_app (goodIn_of _ (by decide +kernel)) ggX12_readTrust_X12_realmHere
set_option maxRecDepth 20000 in
theorem ggX12_readTrust_X12_nameHere : GoodIn wsX12_readTrust wsX12_nameHere := goodIn_r _ [37, 16, 2, 13, 14, 38, 39, 40, 6, 41, 42, 43, 44, 45, 46, 23, 27, 28, 29, 24, 25, 26, 68, 69, 70, 71, 72, 73, 74, 75, 76, 77, 78, 79, 80, 81, 82, 83, 84, 85, 86, 87, 88, 89] (by decide +kernel) (by decide +kernel)
set_option maxRecDepth 20000 in
theorem gX12_readTrust_X12_nameHere : GoodIn wsX12_readTrust (wsV RX12 220 RX12 yX12_nameHere wsX12_nameHere) := goodIn_app (goodIn_of _ (by decide +kernel)) ggX12_readTrust_X12_nameHere
set_option maxRecDepth 20000 in
theorem ggX12_readTrust_X12_realmNamed : GoodIn wsX12_readTrust wsX12_realmNamed := goodIn_r _ [49, 50, 51, 6, 52] (by decide +kernel) (by decide +kernel)
set_option maxRecDepth 20000 in
theorem gX12_readTrust_X12_realmNamed : GoodIn wsX12_readTrust (va_wsS RX12 205 yX12_realmNamed wsX12_realmNamed) := goodIn_app (goodIn_of _ (by decide +kernel)) ggX12_readTrust_X12_realmNamed
set_option maxRecDepth 20000 in
theorem ggX12_readTrust_X12_check : GoodIn wsX12_readTrust wsX12_check := goodIn_r _ [41, 2, 13, 42, 68, 69, 70, 71, 72, 73, 74, 75, 76, 77, 78, 79, 80, 81, 82, 83, 84, 85, 86, 87, 88, 89] (by decide +kernel) (by decide +kernel)
set_option maxRecDepth 20000 in
theorem gX12_readTrust_X12_check : GoodIn wsX12_readTrust (wsV RX12 196 RX12 yX12_check wsX12_check) := goodIn_app (goodIn_of _ (by decide +kernel)) ggX12_readTrust_X12_check
set_option maxRecDepth 20000 in
theorem ggX12_readTrust_X12_exists : GoodIn wsX12_readTrust wsX12_exists := goodIn_r _ [56, 2, 38, 39, 40, 6, 41, 13, 42, 3, 4, 5, 7, 8, 9, 10, 11, 12, 14, 15, 16, 17, 18, 19, 20, 21, 22, 23, 24, 25, 26, 27, 28, 29, 68, 69, 70, 71, 72, 73, 74, 75, 76, 77, 78, 79, 80, 81, 82, 83, 84, 85, 86, 87, 88, 89] (by decide +kernel) (by decide +kernel)
set_option maxRecDepth 20000 in
theorem gX12_readTrust_X12_exists : GoodIn wsX12_readTrust (wsV RX12 223 RX12 yX12_exists wsX12_exists) := goodIn_app (goodIn_of _ (by decide +kernel)) ggX12_readTrust_X12_exists
set_option maxRecDepth 20000 in
theorem ggX12_readTrust_X12_trusted : GoodIn wsX12_readTrust wsX12_trusted := goodIn_r _ [59] (by decide +kernel) (by decide +kernel)
set_option maxRecDepth 20000 in
theorem gX12_readTrust_X12_trusted : GoodIn wsX12_readTrust (va_wsS RX12 75 yX12_trusted wsX12_trusted) := goodIn_app (goodIn_of _ (by decide +kernel)) ggX12_readTrust_X12_trusted
set_option maxRecDepth 20000 in
theorem ggX12_readTrust_X12_mayDo : GoodIn wsX12_readTrust wsX12_mayDo := goodIn_r _ [63, 2, 64, 65, 66, 6, 67, 16, 23, 13, 38, 39, 40, 41, 42, 68, 69, 70, 71, 72, 73, 74, 75, 76, 77, 78, 79, 80, 81, 82, 83, 84, 85, 86, 87, 88, 89] (by decide +kernel) (by decide +kernel)
set_option maxRecDepth 20000 in
theorem gX12_readTrust_X12_mayDo : GoodIn wsX12_readTrust (wsV RX12 254 RX12 yX12_mayDo wsX12_mayDo) := goodIn_app (goodIn_of _ (by decide +kernel)) ggX12_readTrust_X12_mayDo
theorem dX12_readTrust_0 : decode cX12_readTrust 0 = .ok (.aload_n 0, 1) := by decide +kernel
theorem dX12_readTrust_1 : decode cX12_readTrust 1 = .ok (.invokevirtual 199, 3) := by decide +kernel
theorem dX12_readTrust_4 : decode cX12_readTrust 4 = .ok (.aload_n 0, 1) := by decide +kernel
theorem dX12_readTrust_5 : decode cX12_readTrust 5 = .ok (.invokevirtual 251, 3) := by decide +kernel
theorem dX12_readTrust_8 : decode cX12_readTrust 8 = .ok (.istore_n 1, 1) := by decide +kernel
theorem dX12_readTrust_9 : decode cX12_readTrust 9 = .ok (.aload_n 0, 1) := by decide +kernel
theorem dX12_readTrust_10 : decode cX12_readTrust 10 = .ok (.getfield 13, 3) := by decide +kernel
theorem dX12_readTrust_13 : decode cX12_readTrust 13 = .ok (.aload_n 0, 1) := by decide +kernel
theorem dX12_readTrust_14 : decode cX12_readTrust 14 = .ok (.invokevirtual 220, 3) := by decide +kernel
theorem dX12_readTrust_17 : decode cX12_readTrust 17 = .ok (.invokestatic 205, 3) := by decide +kernel
theorem dX12_readTrust_20 : decode cX12_readTrust 20 = .ok (.istore_n 2, 1) := by decide +kernel
theorem dX12_readTrust_21 : decode cX12_readTrust 21 = .ok (.aload_n 0, 1) := by decide +kernel
theorem dX12_readTrust_22 : decode cX12_readTrust 22 = .ok (.aload_n 0, 1) := by decide +kernel
theorem dX12_readTrust_23 : decode cX12_readTrust 23 = .ok (.getfield 164, 3) := by decide +kernel
theorem dX12_readTrust_26 : decode cX12_readTrust 26 = .ok (.ifCond .ne 8, 3) := by decide +kernel
theorem dX12_readTrust_29 : decode cX12_readTrust 29 = .ok (.iload_n 2, 1) := by decide +kernel
theorem dX12_readTrust_30 : decode cX12_readTrust 30 = .ok (.iload_n 1, 1) := by decide +kernel
theorem dX12_readTrust_31 : decode cX12_readTrust 31 = .ok (.if_icmp .eq 7, 3) := by decide +kernel
theorem dX12_readTrust_34 : decode cX12_readTrust 34 = .ok (.iconst 1, 1) := by decide +kernel
theorem dX12_readTrust_35 : decode cX12_readTrust 35 = .ok (.goto 4, 3) := by decide +kernel
theorem dX12_readTrust_38 : decode cX12_readTrust 38 = .ok (.iconst 0, 1) := by decide +kernel
theorem dX12_readTrust_39 : decode cX12_readTrust 39 = .ok (.iconst 3, 1) := by decide +kernel
theorem dX12_readTrust_40 : decode cX12_readTrust 40 = .ok (.invokevirtual 196, 3) := by decide +kernel
theorem dX12_readTrust_43 : decode cX12_readTrust 43 = .ok (.pop, 1) := by decide +kernel
theorem dX12_readTrust_44 : decode cX12_readTrust 44 = .ok (.aload_n 0, 1) := by decide +kernel
theorem dX12_readTrust_45 : decode cX12_readTrust 45 = .ok (.iload_n 2, 1) := by decide +kernel
theorem dX12_readTrust_46 : decode cX12_readTrust 46 = .ok (.invokevirtual 223, 3) := by decide +kernel
theorem dX12_readTrust_49 : decode cX12_readTrust 49 = .ok (.istore_n 2, 1) := by decide +kernel
theorem dX12_readTrust_50 : decode cX12_readTrust 50 = .ok (.aload_n 0, 1) := by decide +kernel
theorem dX12_readTrust_51 : decode cX12_readTrust 51 = .ok (.aload_n 0, 1) := by decide +kernel
theorem dX12_readTrust_52 : decode cX12_readTrust 52 = .ok (.getfield 164, 3) := by decide +kernel
theorem dX12_readTrust_55 : decode cX12_readTrust 55 = .ok (.ifCond .ne 19, 3) := by decide +kernel
theorem dX12_readTrust_58 : decode cX12_readTrust 58 = .ok (.aload_n 0, 1) := by decide +kernel
theorem dX12_readTrust_59 : decode cX12_readTrust 59 = .ok (.getfield 13, 3) := by decide +kernel
theorem dX12_readTrust_62 : decode cX12_readTrust 62 = .ok (.iload_n 1, 1) := by decide +kernel
theorem dX12_readTrust_63 : decode cX12_readTrust 63 = .ok (.iload_n 2, 1) := by decide +kernel
theorem dX12_readTrust_64 : decode cX12_readTrust 64 = .ok (.invokestatic 75, 3) := by decide +kernel
theorem dX12_readTrust_67 : decode cX12_readTrust 67 = .ok (.ifCond .eq 7, 3) := by decide +kernel
theorem dX12_readTrust_70 : decode cX12_readTrust 70 = .ok (.iconst 1, 1) := by decide +kernel
theorem dX12_readTrust_71 : decode cX12_readTrust 71 = .ok (.goto 4, 3) := by decide +kernel
theorem dX12_readTrust_74 : decode cX12_readTrust 74 = .ok (.iconst 0, 1) := by decide +kernel
theorem dX12_readTrust_75 : decode cX12_readTrust 75 = .ok (.invokevirtual 254, 3) := by decide +kernel
theorem dX12_readTrust_78 : decode cX12_readTrust 78 = .ok (.ifCond .eq 17, 3) := by decide +kernel
theorem dX12_readTrust_81 : decode cX12_readTrust 81 = .ok (.aload_n 0, 1) := by decide +kernel
theorem dX12_readTrust_82 : decode cX12_readTrust 82 = .ok (.getfield 13, 3) := by decide +kernel
theorem dX12_readTrust_85 : decode cX12_readTrust 85 = .ok (.bipush 30, 2) := by decide +kernel
theorem dX12_readTrust_87 : decode cX12_readTrust 87 = .ok (.iconst 5, 1) := by decide +kernel
theorem dX12_readTrust_88 : decode cX12_readTrust 88 = .ok (.iload_n 1, 1) := by decide +kernel
theorem dX12_readTrust_89 : decode cX12_readTrust 89 = .ok (.imul, 1) := by decide +kernel
theorem dX12_readTrust_90 : decode cX12_readTrust 90 = .ok (.iadd, 1) := by decide +kernel
theorem dX12_readTrust_91 : decode cX12_readTrust 91 = .ok (.iload_n 2, 1) := by decide +kernel
theorem dX12_readTrust_92 : decode cX12_readTrust 92 = .ok (.iadd, 1) := by decide +kernel
theorem dX12_readTrust_93 : decode cX12_readTrust 93 = .ok (.iconst 1, 1) := by decide +kernel
theorem dX12_readTrust_94 : decode cX12_readTrust 94 = .ok (.iastore, 1) := by decide +kernel
theorem dX12_readTrust_95 : decode cX12_readTrust 95 = .ok (.aload_n 0, 1) := by decide +kernel
theorem dX12_readTrust_96 : decode cX12_readTrust 96 = .ok (.invokevirtual 199, 3) := by decide +kernel
theorem dX12_readTrust_99 : decode cX12_readTrust 99 = .ok (.return_, 1) := by decide +kernel
set_option maxRecDepth 20000 in
theorem ggX12_readUser_X12_check : GoodIn wsX12_readUser wsX12_check := goodIn_r _ [7, 2, 8, 9, 145, 146, 147, 148, 149, 150, 151, 152, 153, 154, 155, 156, 157, 158, 159, 160, 161, 162, 163, 164, 165, 166] (by decide +kernel) (by decide +kernel)
set_option maxRecDepth 20000 in
theorem gX12_readUser_X12_check : GoodIn wsX12_readUser (wsV RX12 196 RX12 yX12_check wsX12_check) := goodIn_app (goodIn_of _ (by decide +kernel)) ggX12_readUser_X12_check
set_option maxRecDepth 20000 in
theorem ggX12_readUser_X12_next : GoodIn wsX12_readUser wsX12_next := goodIn_r _ [13, 2, 14, 15, 16, 6, 17, 18, 8, 19, 20, 21, 22, 23, 24, 25, 26, 27, 28, 29, 30, 31, 32, 33, 34, 145, 146, 147, 148, 149, 150, 151, 152, 153, 154, 155, 156, 157, 158, 159, 160, 161, 162, 163, 164, 165, 166] (by decide +kernel) (by decide +kernel)
set_option maxRecDepth 20000 in
theorem gX12_readUser_X12_next : GoodIn wsX12_readUser (wsV RX12 199 RX12 yX12_next wsX12_next) := goodIn_app (goodIn_of _ (by decide +kernel)) ggX12_readUser_X12_next
set_option maxRecDepth 20000 in
theorem ggX12_readUser_X12_newName : GoodIn wsX12_readUser wsX12_newName := goodIn_r _ [38, 21, 2, 8, 19, 1, 3, 4, 5, 6, 7, 9, 39, 40, 41, 42, 28, 32, 33, 34, 29, 30, 31, 43, 44, 45, 46, 47, 48, 49, 50, 51, 52, 53, 54, 55, 56, 57, 58, 59, 60, 61, 62, 63, 10, 11, 12, 13, 14, 15, 16, 17, 18, 20, 22, 23, 24, 25, 26, 27, 145, 146, 147, 148, 149, 150, 151, 152, 153, 154, 155, 156, 157, 158, 159, 160, 161, 162, 163, 164, 165, 166] (by decide +kernel) (by decide +kernel)
set_option maxRecDepth 20000 in
theorem gX12_readUser_X12_newName : GoodIn wsX12_readUser (wsV RX12 242 RX12 yX12_newName wsX12_newName) := goodIn_app (goodIn_of _ (by decide +kernel)) ggX12_readUser_X12_newName
set_option maxRecDepth 20000 in
theorem ggX12_readUser_X12_realmHere : GoodIn wsX12_readUser wsX12_realmHere := goodIn_r _ [67, 1, 68, 69, 70, 6, 71, 21, 2, 8, 19, 3, 4, 5, 7, 9, 39, 40, 41, 42, 28, 32, 33, 34, 29, 30, 31, 46, 47, 48, 49, 50, 51, 72, 73, 74, 75, 10, 11, 12, 13, 14, 15, 16, 17, 18, 20, 22, 23, 24, 25, 26, 27, 145, 146, 147, 148, 149, 150, 151, 152, 153, 154, 155, 156, 157, 158, 159, 160, 161, 162, 163, 164, 165, 166] (by decide +kernel) (by decide +kernel)
set_option maxRecDepth 20000 in
theorem gX12_readUser_X12_realmHere : GoodIn wsX12_readUser (wsV RX12 251 RX12 yX12_realmHere wsX12_realmHere) := goodIn_app (goodIn_of _ (by decide +kernel)) ggX12_readUser_X12_realmHere
set_option maxRecDepth 20000 in
theorem ggX12_readUser_X12_number : GoodIn wsX12_readUser wsX12_number := goodIn_r _ [79, 21, 20, 2, 3, 4, 5, 6, 7, 8, 9, 32, 33, 34, 10, 11, 12, 13, 14, 15, 16, 17, 18, 19, 22, 23, 24, 25, 26, 27, 28, 29, 30, 31, 145, 146, 147, 148, 149, 150, 151, 152, 153, 154, 155, 156, 157, 158, 159, 160, 161, 162, 163, 164, 165, 166] (by decide +kernel) (by decide +kernel)
set_option maxRecDepth 20000 in
theorem gX12_readUser_X12_number : GoodIn wsX12_readUser (wsV RX12 239 RX12 yX12_number wsX12_number) := goodIn_app (goodIn_of _ (by decide +kernel)) ggX12_readUser_X12_number
set_option maxRecDepth 20000 in
theorem ggX12_readUser_X12_clockHere : GoodIn wsX12_readUser wsX12_clockHere := goodIn_r _ [83, 84, 85, 86, 6, 87, 21, 19, 28, 8, 88, 89, 90, 91, 92, 93, 94, 95, 96, 97, 98, 99, 100, 101, 102, 103, 104, 105, 106, 107, 108, 109, 110, 111, 112, 113, 114, 115, 116, 117, 118, 119, 120, 121, 122, 123, 124, 125, 126, 127, 128, 129, 130, 131, 132, 133, 134, 135, 136, 3, 4, 5, 7, 2, 9, 10, 11, 12, 13, 14, 15, 16, 17, 18, 20, 22, 23, 24, 25, 26, 27, 29, 30, 31, 32, 33, 34, 76, 77, 78, 79, 145, 146, 147, 148, 149, 150, 151, 152, 153, 154, 155, 156, 157, 158, 159, 160, 161, 162, 163, 164, 165, 166] (by decide +kernel) (by decide +kernel)
set_option maxRecDepth 20000 in
theorem gX12_readUser_X12_clockHere : GoodIn wsX12_readUser (wsV RX12 245 RX12 yX12_clockHere wsX12_clockHere) := goodIn_app (goodIn_of _ (by decide +kernel)) ggX12_readUser_X12_clockHere
set_option maxRecDepth 20000 in
theorem ggX12_readUser_X12_finish : GoodIn wsX12_readUser wsX12_finish := goodIn_r _ [140, 141, 142, 143, 6, 144, 21, 28, 8, 3, 4, 5, 7, 2, 9, 10, 11, 12, 13, 14, 15, 16, 17, 18, 19, 20, 22, 23, 24, 25, 26, 27, 29, 30, 31, 32, 33, 34, 145, 146, 147, 148, 149, 150, 151, 152, 153, 154, 155, 156, 157, 158, 159, 160, 161, 162, 163, 164, 165, 166] (by decide +kernel) (by decide +kernel)
set_option maxRecDepth 20000 in
theorem gX12_readUser_X12_finish : GoodIn wsX12_readUser (wsV RX12 248 RX12 yX12_finish wsX12_finish) := goodIn_app (goodIn_of _ (by decide +kernel)) ggX12_readUser_X12_finish
set_option maxRecDepth 20000 in
theorem ggX12_readUser_X12_ofUser : GoodIn wsX12_readUser wsX12_ofUser := goodIn_r _ [57] (by decide +kernel) (by decide +kernel)
set_option maxRecDepth 20000 in
theorem gX12_readUser_X12_ofUser : GoodIn wsX12_readUser (va_wsS RX12 87 yX12_ofUser wsX12_ofUser) := goodIn_app (goodIn_of _ (by decide +kernel)) ggX12_readUser_X12_ofUser
theorem dX12_readUser_0 : decode cX12_readUser 0 = .ok (.aload_n 0, 1) := by decide +kernel
theorem dX12_readUser_1 : decode cX12_readUser 1 = .ok (.aload_n 0, 1) := by decide +kernel
theorem dX12_readUser_2 : decode cX12_readUser 2 = .ok (.getfield 13, 3) := by decide +kernel
theorem dX12_readUser_5 : decode cX12_readUser 5 = .ok (.iconst 4, 1) := by decide +kernel
theorem dX12_readUser_6 : decode cX12_readUser 6 = .ok (.iaload, 1) := by decide +kernel
theorem dX12_readUser_7 : decode cX12_readUser 7 = .ok (.bipush 6, 2) := by decide +kernel
theorem dX12_readUser_9 : decode cX12_readUser 9 = .ok (.if_icmp .ge 7, 3) := by decide +kernel
theorem dX12_readUser_12 : decode cX12_readUser 12 = .ok (.iconst 1, 1) := by decide +kernel
theorem dX12_readUser_13 : decode cX12_readUser 13 = .ok (.goto 4, 3) := by decide +kernel
theorem dX12_readUser_16 : decode cX12_readUser 16 = .ok (.iconst 0, 1) := by decide +kernel
theorem dX12_readUser_17 : decode cX12_readUser 17 = .ok (.iconst 5, 1) := by decide +kernel
theorem dX12_readUser_18 : decode cX12_readUser 18 = .ok (.invokevirtual 196, 3) := by decide +kernel
theorem dX12_readUser_21 : decode cX12_readUser 21 = .ok (.pop, 1) := by decide +kernel
theorem dX12_readUser_22 : decode cX12_readUser 22 = .ok (.aload_n 0, 1) := by decide +kernel
theorem dX12_readUser_23 : decode cX12_readUser 23 = .ok (.invokevirtual 199, 3) := by decide +kernel
theorem dX12_readUser_26 : decode cX12_readUser 26 = .ok (.aload_n 0, 1) := by decide +kernel
theorem dX12_readUser_27 : decode cX12_readUser 27 = .ok (.invokevirtual 242, 3) := by decide +kernel
theorem dX12_readUser_30 : decode cX12_readUser 30 = .ok (.istore_n 1, 1) := by decide +kernel
theorem dX12_readUser_31 : decode cX12_readUser 31 = .ok (.aload_n 0, 1) := by decide +kernel
theorem dX12_readUser_32 : decode cX12_readUser 32 = .ok (.invokevirtual 251, 3) := by decide +kernel
theorem dX12_readUser_35 : decode cX12_readUser 35 = .ok (.istore_n 2, 1) := by decide +kernel
theorem dX12_readUser_36 : decode cX12_readUser 36 = .ok (.aload_n 0, 1) := by decide +kernel
theorem dX12_readUser_37 : decode cX12_readUser 37 = .ok (.iconst 0, 1) := by decide +kernel
theorem dX12_readUser_38 : decode cX12_readUser 38 = .ok (.sipush 9999, 3) := by decide +kernel
theorem dX12_readUser_41 : decode cX12_readUser 41 = .ok (.invokevirtual 239, 3) := by decide +kernel
theorem dX12_readUser_44 : decode cX12_readUser 44 = .ok (.istore_n 3, 1) := by decide +kernel
theorem dX12_readUser_45 : decode cX12_readUser 45 = .ok (.aload_n 0, 1) := by decide +kernel
theorem dX12_readUser_46 : decode cX12_readUser 46 = .ok (.invokevirtual 245, 3) := by decide +kernel
theorem dX12_readUser_49 : decode cX12_readUser 49 = .ok (.istore 4, 2) := by decide +kernel
theorem dX12_readUser_51 : decode cX12_readUser 51 = .ok (.aload_n 0, 1) := by decide +kernel
theorem dX12_readUser_52 : decode cX12_readUser 52 = .ok (.invokevirtual 248, 3) := by decide +kernel
theorem dX12_readUser_55 : decode cX12_readUser 55 = .ok (.aload_n 0, 1) := by decide +kernel
theorem dX12_readUser_56 : decode cX12_readUser 56 = .ok (.getfield 164, 3) := by decide +kernel
theorem dX12_readUser_59 : decode cX12_readUser 59 = .ok (.ifCond .ne 65, 3) := by decide +kernel
theorem dX12_readUser_62 : decode cX12_readUser 62 = .ok (.aload_n 0, 1) := by decide +kernel
theorem dX12_readUser_63 : decode cX12_readUser 63 = .ok (.getfield 13, 3) := by decide +kernel
theorem dX12_readUser_66 : decode cX12_readUser 66 = .ok (.iconst 4, 1) := by decide +kernel
theorem dX12_readUser_67 : decode cX12_readUser 67 = .ok (.iaload, 1) := by decide +kernel
theorem dX12_readUser_68 : decode cX12_readUser 68 = .ok (.invokestatic 87, 3) := by decide +kernel
theorem dX12_readUser_71 : decode cX12_readUser 71 = .ok (.istore 5, 2) := by decide +kernel
theorem dX12_readUser_73 : decode cX12_readUser 73 = .ok (.aload_n 0, 1) := by decide +kernel
theorem dX12_readUser_74 : decode cX12_readUser 74 = .ok (.getfield 13, 3) := by decide +kernel
theorem dX12_readUser_77 : decode cX12_readUser 77 = .ok (.iload 5, 2) := by decide +kernel
theorem dX12_readUser_79 : decode cX12_readUser 79 = .ok (.iconst 0, 1) := by decide +kernel
theorem dX12_readUser_80 : decode cX12_readUser 80 = .ok (.iadd, 1) := by decide +kernel
theorem dX12_readUser_81 : decode cX12_readUser 81 = .ok (.iload_n 1, 1) := by decide +kernel
theorem dX12_readUser_82 : decode cX12_readUser 82 = .ok (.iastore, 1) := by decide +kernel
theorem dX12_readUser_83 : decode cX12_readUser 83 = .ok (.aload_n 0, 1) := by decide +kernel
theorem dX12_readUser_84 : decode cX12_readUser 84 = .ok (.getfield 13, 3) := by decide +kernel
theorem dX12_readUser_87 : decode cX12_readUser 87 = .ok (.iload 5, 2) := by decide +kernel
theorem dX12_readUser_89 : decode cX12_readUser 89 = .ok (.iconst 1, 1) := by decide +kernel
theorem dX12_readUser_90 : decode cX12_readUser 90 = .ok (.iadd, 1) := by decide +kernel
theorem dX12_readUser_91 : decode cX12_readUser 91 = .ok (.iload_n 2, 1) := by decide +kernel
theorem dX12_readUser_92 : decode cX12_readUser 92 = .ok (.iastore, 1) := by decide +kernel
theorem dX12_readUser_93 : decode cX12_readUser 93 = .ok (.aload_n 0, 1) := by decide +kernel
theorem dX12_readUser_94 : decode cX12_readUser 94 = .ok (.getfield 13, 3) := by decide +kernel
theorem dX12_readUser_97 : decode cX12_readUser 97 = .ok (.iload 5, 2) := by decide +kernel
theorem dX12_readUser_99 : decode cX12_readUser 99 = .ok (.iconst 2, 1) := by decide +kernel
theorem dX12_readUser_100 : decode cX12_readUser 100 = .ok (.iadd, 1) := by decide +kernel
theorem dX12_readUser_101 : decode cX12_readUser 101 = .ok (.iload_n 3, 1) := by decide +kernel
theorem dX12_readUser_102 : decode cX12_readUser 102 = .ok (.iastore, 1) := by decide +kernel
theorem dX12_readUser_103 : decode cX12_readUser 103 = .ok (.aload_n 0, 1) := by decide +kernel
theorem dX12_readUser_104 : decode cX12_readUser 104 = .ok (.getfield 13, 3) := by decide +kernel
theorem dX12_readUser_107 : decode cX12_readUser 107 = .ok (.iload 5, 2) := by decide +kernel
theorem dX12_readUser_109 : decode cX12_readUser 109 = .ok (.iconst 3, 1) := by decide +kernel
theorem dX12_readUser_110 : decode cX12_readUser 110 = .ok (.iadd, 1) := by decide +kernel
theorem dX12_readUser_111 : decode cX12_readUser 111 = .ok (.iload 4, 2) := by decide +kernel
theorem dX12_readUser_113 : decode cX12_readUser 113 = .ok (.iastore, 1) := by decide +kernel
theorem dX12_readUser_114 : decode cX12_readUser 114 = .ok (.aload_n 0, 1) := by decide +kernel
theorem dX12_readUser_115 : decode cX12_readUser 115 = .ok (.getfield 13, 3) := by decide +kernel
theorem dX12_readUser_118 : decode cX12_readUser 118 = .ok (.iconst 4, 1) := by decide +kernel
theorem dX12_readUser_119 : decode cX12_readUser 119 = .ok (.dup2, 1) := by decide +kernel
theorem dX12_readUser_120 : decode cX12_readUser 120 = .ok (.iaload, 1) := by decide +kernel
theorem dX12_readUser_121 : decode cX12_readUser 121 = .ok (.iconst 1, 1) := by decide +kernel
theorem dX12_readUser_122 : decode cX12_readUser 122 = .ok (.iadd, 1) := by decide +kernel
theorem dX12_readUser_123 : decode cX12_readUser 123 = .ok (.iastore, 1) := by decide +kernel
theorem dX12_readUser_124 : decode cX12_readUser 124 = .ok (.return_, 1) := by decide +kernel
set_option maxRecDepth 20000 in
theorem ggX12_readService_X12_check : GoodIn wsX12_readService wsX12_check := goodIn_r _ [7, 2, 8, 9, 88, 89, 90, 91, 92, 93, 94, 95, 96, 97, 98, 99, 100, 101, 102, 103, 104, 105, 106, 107, 108, 109] (by decide +kernel) (by decide +kernel)
set_option maxRecDepth 20000 in
theorem gX12_readService_X12_check : GoodIn wsX12_readService (wsV RX12 196 RX12 yX12_check wsX12_check) := goodIn_app (goodIn_of _ (by decide +kernel)) ggX12_readService_X12_check
set_option maxRecDepth 20000 in
theorem ggX12_readService_X12_next : GoodIn wsX12_readService wsX12_next := goodIn_r _ [13, 2, 14, 15, 16, 6, 17, 18, 8, 19, 20, 21, 22, 23, 24, 25, 26, 27, 28, 29, 30, 31, 32, 33, 34, 88, 89, 90, 91, 92, 93, 94, 95, 96, 97, 98, 99, 100, 101, 102, 103, 104, 105, 106, 107, 108, 109] (by decide +kernel) (by decide +kernel)
set_option maxRecDepth 20000 in
theorem gX12_readService_X12_next : GoodIn wsX12_readService (wsV RX12 199 RX12 yX12_next wsX12_next) := goodIn_app (goodIn_of _ (by decide +kernel)) ggX12_readService_X12_next
set_option maxRecDepth 20000 in
theorem ggX12_readService_X12_newName : GoodIn wsX12_readService wsX12_newName := goodIn_r _ [38, 21, 2, 8, 19, 1, 3, 4, 5, 6, 7, 9, 39, 40, 41, 42, 28, 32, 33, 34, 29, 30, 31, 43, 44, 45, 46, 47, 48, 49, 50, 51, 52, 53, 54, 55, 56, 57, 58, 59, 60, 61, 62, 63, 10, 11, 12, 13, 14, 15, 16, 17, 18, 20, 22, 23, 24, 25, 26, 27, 88, 89, 90, 91, 92, 93, 94, 95, 96, 97, 98, 99, 100, 101, 102, 103, 104, 105, 106, 107, 108, 109] (by decide +kernel) (by decide +kernel)
set_option maxRecDepth 20000 in
theorem gX12_readService_X12_newName : GoodIn wsX12_readService (wsV RX12 242 RX12 yX12_newName wsX12_newName) := goodIn_app (goodIn_of _ (by decide +kernel)) ggX12_readService_X12_newName
set_option maxRecDepth 20000 in
theorem ggX12_readService_X12_realmHere : GoodIn wsX12_readService wsX12_realmHere := goodIn_r _ [67, 1, 68, 69, 70, 6, 71, 21, 2, 8, 19, 3, 4, 5, 7, 9, 39, 40, 41, 42, 28, 32, 33, 34, 29, 30, 31, 46, 47, 48, 49, 50, 51, 72, 73, 74, 75, 10, 11, 12, 13, 14, 15, 16, 17, 18, 20, 22, 23, 24, 25, 26, 27, 88, 89, 90, 91, 92, 93, 94, 95, 96, 97, 98, 99, 100, 101, 102, 103, 104, 105, 106, 107, 108, 109] (by decide +kernel) (by decide +kernel)
set_option maxRecDepth 20000 in
theorem gX12_readService_X12_realmHere : GoodIn wsX12_readService (wsV RX12 251 RX12 yX12_realmHere wsX12_realmHere) := goodIn_app (goodIn_of _ (by decide +kernel)) ggX12_readService_X12_realmHere
set_option maxRecDepth 20000 in
theorem ggX12_readService_X12_number : GoodIn wsX12_readService wsX12_number := goodIn_r _ [79, 21, 20, 2, 3, 4, 5, 6, 7, 8, 9, 32, 33, 34, 10, 11, 12, 13, 14, 15, 16, 17, 18, 19, 22, 23, 24, 25, 26, 27, 28, 29, 30, 31, 88, 89, 90, 91, 92, 93, 94, 95, 96, 97, 98, 99, 100, 101, 102, 103, 104, 105, 106, 107, 108, 109] (by decide +kernel) (by decide +kernel)
set_option maxRecDepth 20000 in
theorem gX12_readService_X12_number : GoodIn wsX12_readService (wsV RX12 239 RX12 yX12_number wsX12_number) := goodIn_app (goodIn_of _ (by decide +kernel)) ggX12_readService_X12_number
set_option maxRecDepth 20000 in
theorem ggX12_readService_X12_finish : GoodIn wsX12_readService wsX12_finish := goodIn_r _ [83, 84, 85, 86, 6, 87, 21, 28, 8, 3, 4, 5, 7, 2, 9, 10, 11, 12, 13, 14, 15, 16, 17, 18, 19, 20, 22, 23, 24, 25, 26, 27, 29, 30, 31, 32, 33, 34, 88, 89, 90, 91, 92, 93, 94, 95, 96, 97, 98, 99, 100, 101, 102, 103, 104, 105, 106, 107, 108, 109] (by decide +kernel) (by decide +kernel)
set_option maxRecDepth 20000 in
theorem gX12_readService_X12_finish : GoodIn wsX12_readService (wsV RX12 248 RX12 yX12_finish wsX12_finish) := goodIn_app (goodIn_of _ (by decide +kernel)) ggX12_readService_X12_finish
set_option maxRecDepth 20000 in
theorem ggX12_readService_X12_ofService : GoodIn wsX12_readService wsX12_ofService := goodIn_r _ [63] (by decide +kernel) (by decide +kernel)
set_option maxRecDepth 20000 in
theorem gX12_readService_X12_ofService : GoodIn wsX12_readService (va_wsS RX12 122 yX12_ofService wsX12_ofService) := goodIn_app (goodIn_of _ (by decide +kernel)) ggX12_readService_X12_ofService
theorem dX12_readService_0 : decode cX12_readService 0 = .ok (.aload_n 0, 1) := by decide +kernel
theorem dX12_readService_1 : decode cX12_readService 1 = .ok (.aload_n 0, 1) := by decide +kernel
theorem dX12_readService_2 : decode cX12_readService 2 = .ok (.getfield 13, 3) := by decide +kernel
theorem dX12_readService_5 : decode cX12_readService 5 = .ok (.iconst 5, 1) := by decide +kernel
theorem dX12_readService_6 : decode cX12_readService 6 = .ok (.iaload, 1) := by decide +kernel
theorem dX12_readService_7 : decode cX12_readService 7 = .ok (.bipush 6, 2) := by decide +kernel
theorem dX12_readService_9 : decode cX12_readService 9 = .ok (.if_icmp .ge 7, 3) := by decide +kernel
theorem dX12_readService_12 : decode cX12_readService 12 = .ok (.iconst 1, 1) := by decide +kernel
theorem dX12_readService_13 : decode cX12_readService 13 = .ok (.goto 4, 3) := by decide +kernel
theorem dX12_readService_16 : decode cX12_readService 16 = .ok (.iconst 0, 1) := by decide +kernel
theorem dX12_readService_17 : decode cX12_readService 17 = .ok (.iconst 5, 1) := by decide +kernel
theorem dX12_readService_18 : decode cX12_readService 18 = .ok (.invokevirtual 196, 3) := by decide +kernel
theorem dX12_readService_21 : decode cX12_readService 21 = .ok (.pop, 1) := by decide +kernel
theorem dX12_readService_22 : decode cX12_readService 22 = .ok (.aload_n 0, 1) := by decide +kernel
theorem dX12_readService_23 : decode cX12_readService 23 = .ok (.invokevirtual 199, 3) := by decide +kernel
theorem dX12_readService_26 : decode cX12_readService 26 = .ok (.aload_n 0, 1) := by decide +kernel
theorem dX12_readService_27 : decode cX12_readService 27 = .ok (.invokevirtual 242, 3) := by decide +kernel
theorem dX12_readService_30 : decode cX12_readService 30 = .ok (.istore_n 1, 1) := by decide +kernel
theorem dX12_readService_31 : decode cX12_readService 31 = .ok (.aload_n 0, 1) := by decide +kernel
theorem dX12_readService_32 : decode cX12_readService 32 = .ok (.invokevirtual 251, 3) := by decide +kernel
theorem dX12_readService_35 : decode cX12_readService 35 = .ok (.istore_n 2, 1) := by decide +kernel
theorem dX12_readService_36 : decode cX12_readService 36 = .ok (.aload_n 0, 1) := by decide +kernel
theorem dX12_readService_37 : decode cX12_readService 37 = .ok (.iconst 0, 1) := by decide +kernel
theorem dX12_readService_38 : decode cX12_readService 38 = .ok (.bipush 99, 2) := by decide +kernel
theorem dX12_readService_40 : decode cX12_readService 40 = .ok (.invokevirtual 239, 3) := by decide +kernel
theorem dX12_readService_43 : decode cX12_readService 43 = .ok (.istore_n 3, 1) := by decide +kernel
theorem dX12_readService_44 : decode cX12_readService 44 = .ok (.aload_n 0, 1) := by decide +kernel
theorem dX12_readService_45 : decode cX12_readService 45 = .ok (.invokevirtual 248, 3) := by decide +kernel
theorem dX12_readService_48 : decode cX12_readService 48 = .ok (.aload_n 0, 1) := by decide +kernel
theorem dX12_readService_49 : decode cX12_readService 49 = .ok (.getfield 164, 3) := by decide +kernel
theorem dX12_readService_52 : decode cX12_readService 52 = .ok (.ifCond .ne 65, 3) := by decide +kernel
theorem dX12_readService_55 : decode cX12_readService 55 = .ok (.aload_n 0, 1) := by decide +kernel
theorem dX12_readService_56 : decode cX12_readService 56 = .ok (.getfield 13, 3) := by decide +kernel
theorem dX12_readService_59 : decode cX12_readService 59 = .ok (.iconst 5, 1) := by decide +kernel
theorem dX12_readService_60 : decode cX12_readService 60 = .ok (.iaload, 1) := by decide +kernel
theorem dX12_readService_61 : decode cX12_readService 61 = .ok (.invokestatic 122, 3) := by decide +kernel
theorem dX12_readService_64 : decode cX12_readService 64 = .ok (.istore 4, 2) := by decide +kernel
theorem dX12_readService_66 : decode cX12_readService 66 = .ok (.aload_n 0, 1) := by decide +kernel
theorem dX12_readService_67 : decode cX12_readService 67 = .ok (.getfield 13, 3) := by decide +kernel
theorem dX12_readService_70 : decode cX12_readService 70 = .ok (.iload 4, 2) := by decide +kernel
theorem dX12_readService_72 : decode cX12_readService 72 = .ok (.iconst 0, 1) := by decide +kernel
theorem dX12_readService_73 : decode cX12_readService 73 = .ok (.iadd, 1) := by decide +kernel
theorem dX12_readService_74 : decode cX12_readService 74 = .ok (.iload_n 1, 1) := by decide +kernel
theorem dX12_readService_75 : decode cX12_readService 75 = .ok (.iastore, 1) := by decide +kernel
theorem dX12_readService_76 : decode cX12_readService 76 = .ok (.aload_n 0, 1) := by decide +kernel
theorem dX12_readService_77 : decode cX12_readService 77 = .ok (.getfield 13, 3) := by decide +kernel
theorem dX12_readService_80 : decode cX12_readService 80 = .ok (.iload 4, 2) := by decide +kernel
theorem dX12_readService_82 : decode cX12_readService 82 = .ok (.iconst 1, 1) := by decide +kernel
theorem dX12_readService_83 : decode cX12_readService 83 = .ok (.iadd, 1) := by decide +kernel
theorem dX12_readService_84 : decode cX12_readService 84 = .ok (.iload_n 2, 1) := by decide +kernel
theorem dX12_readService_85 : decode cX12_readService 85 = .ok (.iastore, 1) := by decide +kernel
theorem dX12_readService_86 : decode cX12_readService 86 = .ok (.aload_n 0, 1) := by decide +kernel
theorem dX12_readService_87 : decode cX12_readService 87 = .ok (.getfield 13, 3) := by decide +kernel
theorem dX12_readService_90 : decode cX12_readService 90 = .ok (.iload 4, 2) := by decide +kernel
theorem dX12_readService_92 : decode cX12_readService 92 = .ok (.iconst 2, 1) := by decide +kernel
theorem dX12_readService_93 : decode cX12_readService 93 = .ok (.iadd, 1) := by decide +kernel
theorem dX12_readService_94 : decode cX12_readService 94 = .ok (.iload_n 3, 1) := by decide +kernel
theorem dX12_readService_95 : decode cX12_readService 95 = .ok (.iastore, 1) := by decide +kernel
theorem dX12_readService_96 : decode cX12_readService 96 = .ok (.aload_n 0, 1) := by decide +kernel
theorem dX12_readService_97 : decode cX12_readService 97 = .ok (.getfield 13, 3) := by decide +kernel
theorem dX12_readService_100 : decode cX12_readService 100 = .ok (.bipush 9, 2) := by decide +kernel
theorem dX12_readService_102 : decode cX12_readService 102 = .ok (.dup2, 1) := by decide +kernel
theorem dX12_readService_103 : decode cX12_readService 103 = .ok (.iaload, 1) := by decide +kernel
theorem dX12_readService_104 : decode cX12_readService 104 = .ok (.iload_n 3, 1) := by decide +kernel
theorem dX12_readService_105 : decode cX12_readService 105 = .ok (.iadd, 1) := by decide +kernel
theorem dX12_readService_106 : decode cX12_readService 106 = .ok (.iastore, 1) := by decide +kernel
theorem dX12_readService_107 : decode cX12_readService 107 = .ok (.aload_n 0, 1) := by decide +kernel
theorem dX12_readService_108 : decode cX12_readService 108 = .ok (.getfield 13, 3) := by decide +kernel
theorem dX12_readService_111 : decode cX12_readService 111 = .ok (.iconst 5, 1) := by decide +kernel
theorem dX12_readService_112 : decode cX12_readService 112 = .ok (.dup2, 1) := by decide +kernel
theorem dX12_readService_113 : decode cX12_readService 113 = .ok (.iaload, 1) := by decide +kernel
theorem dX12_readService_114 : decode cX12_readService 114 = .ok (.iconst 1, 1) := by decide +kernel
theorem dX12_readService_115 : decode cX12_readService 115 = .ok (.iadd, 1) := by decide +kernel
theorem dX12_readService_116 : decode cX12_readService 116 = .ok (.iastore, 1) := by decide +kernel
theorem dX12_readService_117 : decode cX12_readService 117 = .ok (.return_, 1) := by decide +kernel
set_option maxRecDepth 20000 in
theorem ggX12_readLogin_X12_next : GoodIn wsX12_readLogin wsX12_next := goodIn_r _ [7, 1, 8, 9, 10, 6, 11, 12, 13, 14, 15, 16, 17, 18, 19, 20, 21, 22, 23, 24, 25, 26, 27, 28, 29, 149, 150, 151, 152, 153, 154, 155, 156, 157, 158, 159, 160, 161, 162, 163, 164, 165, 166, 167, 168, 169, 170] (by decide +kernel) (by decide +kernel)
set_option maxRecDepth 20000 in
theorem gX12_readLogin_X12_next : GoodIn wsX12_readLogin (wsV RX12 199 RX12 yX12_next wsX12_next) := goodIn_app (goodIn_of _ (by decide +kernel)) ggX12_readLogin_X12_next
set_option maxRecDepth 20000 in
theorem ggX12_readLogin_X12_userHere : GoodIn wsX12_readLogin wsX12_userHere := goodIn_r _ [33, 2, 34, 35, 36, 6, 37, 16, 1, 13, 14, 38, 39, 40, 41, 42, 43, 44, 45, 46, 23, 27, 28, 29, 24, 25, 26, 47, 48, 49, 50, 51, 52, 53, 54, 55, 56, 3, 4, 5, 7, 8, 9, 10, 11, 12, 15, 17, 18, 19, 20, 21, 22, 149, 150, 151, 152, 153, 154, 155, 156, 157, 158, 159, 160, 161, 162, 163, 164, 165, 166, 167, 168, 169, 170] (by decide +kernel) (by decide +kernel)
set_option maxRecDepth 20000 in
theorem gX12_readLogin_X12_userHere : GoodIn wsX12_readLogin (wsV RX12 258 RX12 yX12_userHere wsX12_userHere) := goodIn_app (goodIn_of _ (by decide +kernel)) ggX12_readLogin_X12_userHere
set_option maxRecDepth 20000 in
theorem ggX12_readLogin_X12_number : GoodIn wsX12_readLogin wsX12_number := goodIn_r _ [60, 16, 15, 1, 38, 39, 40, 6, 41, 13, 42, 27, 28, 29, 3, 4, 5, 7, 8, 9, 10, 11, 12, 14, 17, 18, 19, 20, 21, 22, 23, 24, 25, 26, 149, 150, 151, 152, 153, 154, 155, 156, 157, 158, 159, 160, 161, 162, 163, 164, 165, 166, 167, 168, 169, 170] (by decide +kernel) (by decide +kernel)
set_option maxRecDepth 20000 in
theorem gX12_readLogin_X12_number : GoodIn wsX12_readLogin (wsV RX12 239 RX12 yX12_number wsX12_number) := goodIn_app (goodIn_of _ (by decide +kernel)) ggX12_readLogin_X12_number
set_option maxRecDepth 20000 in
theorem ggX12_readLogin_X12_is : GoodIn wsX12_readLogin wsX12_is := goodIn_r _ [64, 16, 14, 23, 13, 65, 66, 67, 68, 69, 70, 71, 72, 73, 74, 75, 76, 77, 78, 79, 80, 81, 82, 83, 84, 85, 86, 87, 88, 89, 90, 91, 92, 93, 94, 95, 96, 97, 98, 99, 100, 101, 102, 103, 104, 105, 106, 107, 108, 109, 110, 111, 112, 113, 149, 150, 151, 152, 153, 154, 155, 156, 157, 158, 159, 160, 161, 162, 163, 164, 165, 166, 167, 168, 169, 170] (by decide +kernel) (by decide +kernel)
set_option maxRecDepth 20000 in
theorem gX12_readLogin_X12_is : GoodIn wsX12_readLogin (wsV RX12 231 RX12 yX12_is wsX12_is) := goodIn_app (goodIn_of _ (by decide +kernel)) ggX12_readLogin_X12_is
set_option maxRecDepth 20000 in
theorem ggX12_readLogin_X12_whyNotLogin : GoodIn wsX12_readLogin wsX12_whyNotLogin := goodIn_r _ [116, 50, 51, 6, 52, 117, 118, 119, 120, 121, 122, 123, 124, 125] (by decide +kernel) (by decide +kernel)
set_option maxRecDepth 20000 in
theorem gX12_readLogin_X12_whyNotLogin : GoodIn wsX12_readLogin (va_wsS RX12 263 yX12_whyNotLogin wsX12_whyNotLogin) := goodIn_app (goodIn_of _ (by decide +kernel)) ggX12_readLogin_X12_whyNotLogin
set_option maxRecDepth 20000 in
theorem ggX12_readLogin_X12_mayDo : GoodIn wsX12_readLogin wsX12_mayDo := goodIn_r _ [129, 1, 130, 131, 132, 6, 133, 16, 23, 13, 38, 39, 40, 41, 42, 149, 150, 151, 152, 153, 154, 155, 156, 157, 158, 159, 160, 161, 162, 163, 164, 165, 166, 167, 168, 169, 170] (by decide +kernel) (by decide +kernel)
set_option maxRecDepth 20000 in
theorem gX12_readLogin_X12_mayDo : GoodIn wsX12_readLogin (wsV RX12 254 RX12 yX12_mayDo wsX12_mayDo) := goodIn_app (goodIn_of _ (by decide +kernel)) ggX12_readLogin_X12_mayDo
set_option maxRecDepth 20000 in
theorem ggX12_readLogin_X12_enters : GoodIn wsX12_readLogin wsX12_enters := goodIn_r _ [136, 50, 51, 6, 52, 123, 124, 125, 137, 138, 139, 140, 141, 142, 143, 144, 145, 146, 147, 148] (by decide +kernel) (by decide +kernel)
set_option maxRecDepth 20000 in
theorem gX12_readLogin_X12_enters : GoodIn wsX12_readLogin (va_wsS RX12 266 yX12_enters wsX12_enters) := goodIn_app (goodIn_of _ (by decide +kernel)) ggX12_readLogin_X12_enters
theorem dX12_readLogin_0 : decode cX12_readLogin 0 = .ok (.aload_n 0, 1) := by decide +kernel
theorem dX12_readLogin_1 : decode cX12_readLogin 1 = .ok (.invokevirtual 199, 3) := by decide +kernel
theorem dX12_readLogin_4 : decode cX12_readLogin 4 = .ok (.aload_n 0, 1) := by decide +kernel
theorem dX12_readLogin_5 : decode cX12_readLogin 5 = .ok (.invokevirtual 258, 3) := by decide +kernel
theorem dX12_readLogin_8 : decode cX12_readLogin 8 = .ok (.istore_n 1, 1) := by decide +kernel
theorem dX12_readLogin_9 : decode cX12_readLogin 9 = .ok (.aload_n 0, 1) := by decide +kernel
theorem dX12_readLogin_10 : decode cX12_readLogin 10 = .ok (.iconst 0, 1) := by decide +kernel
theorem dX12_readLogin_11 : decode cX12_readLogin 11 = .ok (.sipush 9999, 3) := by decide +kernel
theorem dX12_readLogin_14 : decode cX12_readLogin 14 = .ok (.invokevirtual 239, 3) := by decide +kernel
theorem dX12_readLogin_17 : decode cX12_readLogin 17 = .ok (.istore_n 2, 1) := by decide +kernel
theorem dX12_readLogin_18 : decode cX12_readLogin 18 = .ok (.aload_n 0, 1) := by decide +kernel
theorem dX12_readLogin_19 : decode cX12_readLogin 19 = .ok (.getfield 164, 3) := by decide +kernel
theorem dX12_readLogin_22 : decode cX12_readLogin 22 = .ok (.ifCond .ne 17, 3) := by decide +kernel
theorem dX12_readLogin_25 : decode cX12_readLogin 25 = .ok (.aload_n 0, 1) := by decide +kernel
theorem dX12_readLogin_26 : decode cX12_readLogin 26 = .ok (.ldc_w 261, 3) := by decide +kernel
theorem dX12_readLogin_29 : decode cX12_readLogin 29 = .ok (.invokevirtual 231, 3) := by decide +kernel
theorem dX12_readLogin_32 : decode cX12_readLogin 32 = .ok (.ifCond .eq 7, 3) := by decide +kernel
theorem dX12_readLogin_35 : decode cX12_readLogin 35 = .ok (.iconst 1, 1) := by decide +kernel
theorem dX12_readLogin_36 : decode cX12_readLogin 36 = .ok (.goto 4, 3) := by decide +kernel
theorem dX12_readLogin_39 : decode cX12_readLogin 39 = .ok (.iconst 0, 1) := by decide +kernel
theorem dX12_readLogin_40 : decode cX12_readLogin 40 = .ok (.istore_n 3, 1) := by decide +kernel
theorem dX12_readLogin_41 : decode cX12_readLogin 41 = .ok (.iload_n 3, 1) := by decide +kernel
theorem dX12_readLogin_42 : decode cX12_readLogin 42 = .ok (.ifCond .eq 7, 3) := by decide +kernel
theorem dX12_readLogin_45 : decode cX12_readLogin 45 = .ok (.aload_n 0, 1) := by decide +kernel
theorem dX12_readLogin_46 : decode cX12_readLogin 46 = .ok (.invokevirtual 199, 3) := by decide +kernel
theorem dX12_readLogin_49 : decode cX12_readLogin 49 = .ok (.aload_n 0, 1) := by decide +kernel
theorem dX12_readLogin_50 : decode cX12_readLogin 50 = .ok (.aload_n 0, 1) := by decide +kernel
theorem dX12_readLogin_51 : decode cX12_readLogin 51 = .ok (.getfield 164, 3) := by decide +kernel
theorem dX12_readLogin_54 : decode cX12_readLogin 54 = .ok (.ifCond .ne 19, 3) := by decide +kernel
theorem dX12_readLogin_57 : decode cX12_readLogin 57 = .ok (.aload_n 0, 1) := by decide +kernel
theorem dX12_readLogin_58 : decode cX12_readLogin 58 = .ok (.getfield 13, 3) := by decide +kernel
theorem dX12_readLogin_61 : decode cX12_readLogin 61 = .ok (.iload_n 1, 1) := by decide +kernel
theorem dX12_readLogin_62 : decode cX12_readLogin 62 = .ok (.iload_n 2, 1) := by decide +kernel
theorem dX12_readLogin_63 : decode cX12_readLogin 63 = .ok (.invokestatic 263, 3) := by decide +kernel
theorem dX12_readLogin_66 : decode cX12_readLogin 66 = .ok (.ifCond .eq 7, 3) := by decide +kernel
theorem dX12_readLogin_69 : decode cX12_readLogin 69 = .ok (.iconst 1, 1) := by decide +kernel
theorem dX12_readLogin_70 : decode cX12_readLogin 70 = .ok (.goto 4, 3) := by decide +kernel
theorem dX12_readLogin_73 : decode cX12_readLogin 73 = .ok (.iconst 0, 1) := by decide +kernel
theorem dX12_readLogin_74 : decode cX12_readLogin 74 = .ok (.invokevirtual 254, 3) := by decide +kernel
theorem dX12_readLogin_77 : decode cX12_readLogin 77 = .ok (.ifCond .eq 20, 3) := by decide +kernel
theorem dX12_readLogin_80 : decode cX12_readLogin 80 = .ok (.aload_n 0, 1) := by decide +kernel
theorem dX12_readLogin_81 : decode cX12_readLogin 81 = .ok (.getfield 13, 3) := by decide +kernel
theorem dX12_readLogin_84 : decode cX12_readLogin 84 = .ok (.iload_n 1, 1) := by decide +kernel
theorem dX12_readLogin_85 : decode cX12_readLogin 85 = .ok (.iload_n 3, 1) := by decide +kernel
theorem dX12_readLogin_86 : decode cX12_readLogin 86 = .ok (.invokestatic 266, 3) := by decide +kernel
theorem dX12_readLogin_89 : decode cX12_readLogin 89 = .ok (.ifCond .ge 8, 3) := by decide +kernel
theorem dX12_readLogin_92 : decode cX12_readLogin 92 = .ok (.aload_n 0, 1) := by decide +kernel
theorem dX12_readLogin_93 : decode cX12_readLogin 93 = .ok (.iconst 1, 1) := by decide +kernel
theorem dX12_readLogin_94 : decode cX12_readLogin 94 = .ok (.putfield 164, 3) := by decide +kernel
theorem dX12_readLogin_97 : decode cX12_readLogin 97 = .ok (.aload_n 0, 1) := by decide +kernel
theorem dX12_readLogin_98 : decode cX12_readLogin 98 = .ok (.invokevirtual 199, 3) := by decide +kernel
theorem dX12_readLogin_101 : decode cX12_readLogin 101 = .ok (.return_, 1) := by decide +kernel
set_option maxRecDepth 20000 in
theorem ggX12_readRefer_X12_next : GoodIn wsX12_readRefer wsX12_next := goodIn_r _ [7, 1, 8, 9, 10, 6, 11, 12, 13, 14, 15, 16, 17, 18, 19, 20, 21, 22, 23, 24, 25, 26, 27, 28, 29, 114, 115, 116, 117, 118, 119, 120, 121, 122, 123, 124, 125, 126, 127, 128, 129, 130, 131, 132, 133, 134, 135] (by decide +kernel) (by decide +kernel)
set_option maxRecDepth 20000 in
theorem gX12_readRefer_X12_next : GoodIn wsX12_readRefer (wsV RX12 199 RX12 yX12_next wsX12_next) := goodIn_app (goodIn_of _ (by decide +kernel)) ggX12_readRefer_X12_next
set_option maxRecDepth 20000 in
theorem ggX12_readRefer_X12_ticketHere : GoodIn wsX12_readRefer wsX12_ticketHere := goodIn_r _ [33, 16, 1, 2, 15, 34, 35, 36, 6, 37, 13, 38, 39, 40, 41, 42, 43, 44, 45, 46, 47, 48, 3, 4, 5, 7, 8, 9, 10, 11, 12, 14, 17, 18, 19, 20, 21, 22, 23, 24, 25, 26, 27, 28, 29, 114, 115, 116, 117, 118, 119, 120, 121, 122, 123, 124, 125, 126, 127, 128, 129, 130, 131, 132, 133, 134, 135] (by decide +kernel) (by decide +kernel)
set_option maxRecDepth 20000 in
theorem gX12_readRefer_X12_ticketHere : GoodIn wsX12_readRefer (wsV RX12 270 RX12 yX12_ticketHere wsX12_ticketHere) := goodIn_app (goodIn_of _ (by decide +kernel)) ggX12_readRefer_X12_ticketHere
set_option maxRecDepth 20000 in
theorem ggX12_readRefer_X12_realmHere : GoodIn wsX12_readRefer wsX12_realmHere := goodIn_r _ [52, 2, 53, 54, 55, 6, 56, 16, 1, 13, 14, 34, 35, 36, 37, 38, 57, 58, 59, 60, 23, 27, 28, 29, 24, 25, 26, 61, 62, 63, 64, 65, 66, 45, 46, 47, 48, 3, 4, 5, 7, 8, 9, 10, 11, 12, 15, 17, 18, 19, 20, 21, 22, 114, 115, 116, 117, 118, 119, 120, 121, 122, 123, 124, 125, 126, 127, 128, 129, 130, 131, 132, 133, 134, 135] (by decide +kernel) (by decide +kernel)
set_option maxRecDepth 20000 in
theorem gX12_readRefer_X12_realmHere : GoodIn wsX12_readRefer (wsV RX12 251 RX12 yX12_realmHere wsX12_realmHere) := goodIn_app (goodIn_of _ (by decide +kernel)) ggX12_readRefer_X12_realmHere
set_option maxRecDepth 20000 in
theorem ggX12_readRefer_X12_whyNotRefer : GoodIn wsX12_readRefer wsX12_whyNotRefer := goodIn_r _ [69, 70, 71, 6, 72, 42, 43, 44, 73, 74, 75, 76, 77, 78, 79, 80, 81, 82, 83, 84, 85, 86, 87, 88, 89, 90, 64, 65, 66] (by decide +kernel) (by decide +kernel)
set_option maxRecDepth 20000 in
theorem gX12_readRefer_X12_whyNotRefer : GoodIn wsX12_readRefer (va_wsS RX12 273 yX12_whyNotRefer wsX12_whyNotRefer) := goodIn_app (goodIn_of _ (by decide +kernel)) ggX12_readRefer_X12_whyNotRefer
set_option maxRecDepth 20000 in
theorem ggX12_readRefer_X12_mayDo : GoodIn wsX12_readRefer wsX12_mayDo := goodIn_r _ [94, 1, 95, 96, 97, 6, 98, 16, 23, 13, 34, 35, 36, 37, 38, 114, 115, 116, 117, 118, 119, 120, 121, 122, 123, 124, 125, 126, 127, 128, 129, 130, 131, 132, 133, 134, 135] (by decide +kernel) (by decide +kernel)
set_option maxRecDepth 20000 in
theorem gX12_readRefer_X12_mayDo : GoodIn wsX12_readRefer (wsV RX12 254 RX12 yX12_mayDo wsX12_mayDo) := goodIn_app (goodIn_of _ (by decide +kernel)) ggX12_readRefer_X12_mayDo
set_option maxRecDepth 20000 in
theorem ggX12_readRefer_X12_derive : GoodIn wsX12_readRefer wsX12_derive := goodIn_r _ [101, 42, 43, 6, 44, 64, 65, 66, 102, 103, 104, 105, 106, 107, 108, 109, 110, 111, 112, 113] (by decide +kernel) (by decide +kernel)
set_option maxRecDepth 20000 in
theorem gX12_readRefer_X12_derive : GoodIn wsX12_readRefer (va_wsS RX12 276 yX12_derive wsX12_derive) := goodIn_app (goodIn_of _ (by decide +kernel)) ggX12_readRefer_X12_derive
theorem dX12_readRefer_0 : decode cX12_readRefer 0 = .ok (.aload_n 0, 1) := by decide +kernel
theorem dX12_readRefer_1 : decode cX12_readRefer 1 = .ok (.invokevirtual 199, 3) := by decide +kernel
theorem dX12_readRefer_4 : decode cX12_readRefer 4 = .ok (.aload_n 0, 1) := by decide +kernel
theorem dX12_readRefer_5 : decode cX12_readRefer 5 = .ok (.invokevirtual 270, 3) := by decide +kernel
theorem dX12_readRefer_8 : decode cX12_readRefer 8 = .ok (.istore_n 1, 1) := by decide +kernel
theorem dX12_readRefer_9 : decode cX12_readRefer 9 = .ok (.aload_n 0, 1) := by decide +kernel
theorem dX12_readRefer_10 : decode cX12_readRefer 10 = .ok (.invokevirtual 251, 3) := by decide +kernel
theorem dX12_readRefer_13 : decode cX12_readRefer 13 = .ok (.istore_n 2, 1) := by decide +kernel
theorem dX12_readRefer_14 : decode cX12_readRefer 14 = .ok (.aload_n 0, 1) := by decide +kernel
theorem dX12_readRefer_15 : decode cX12_readRefer 15 = .ok (.aload_n 0, 1) := by decide +kernel
theorem dX12_readRefer_16 : decode cX12_readRefer 16 = .ok (.getfield 164, 3) := by decide +kernel
theorem dX12_readRefer_19 : decode cX12_readRefer 19 = .ok (.ifCond .ne 19, 3) := by decide +kernel
theorem dX12_readRefer_22 : decode cX12_readRefer 22 = .ok (.aload_n 0, 1) := by decide +kernel
theorem dX12_readRefer_23 : decode cX12_readRefer 23 = .ok (.getfield 13, 3) := by decide +kernel
theorem dX12_readRefer_26 : decode cX12_readRefer 26 = .ok (.iload_n 1, 1) := by decide +kernel
theorem dX12_readRefer_27 : decode cX12_readRefer 27 = .ok (.iload_n 2, 1) := by decide +kernel
theorem dX12_readRefer_28 : decode cX12_readRefer 28 = .ok (.invokestatic 273, 3) := by decide +kernel
theorem dX12_readRefer_31 : decode cX12_readRefer 31 = .ok (.ifCond .eq 7, 3) := by decide +kernel
theorem dX12_readRefer_34 : decode cX12_readRefer 34 = .ok (.iconst 1, 1) := by decide +kernel
theorem dX12_readRefer_35 : decode cX12_readRefer 35 = .ok (.goto 4, 3) := by decide +kernel
theorem dX12_readRefer_38 : decode cX12_readRefer 38 = .ok (.iconst 0, 1) := by decide +kernel
theorem dX12_readRefer_39 : decode cX12_readRefer 39 = .ok (.invokevirtual 254, 3) := by decide +kernel
theorem dX12_readRefer_42 : decode cX12_readRefer 42 = .ok (.ifCond .eq 21, 3) := by decide +kernel
theorem dX12_readRefer_45 : decode cX12_readRefer 45 = .ok (.aload_n 0, 1) := by decide +kernel
theorem dX12_readRefer_46 : decode cX12_readRefer 46 = .ok (.getfield 13, 3) := by decide +kernel
theorem dX12_readRefer_49 : decode cX12_readRefer 49 = .ok (.iload_n 1, 1) := by decide +kernel
theorem dX12_readRefer_50 : decode cX12_readRefer 50 = .ok (.iload_n 2, 1) := by decide +kernel
theorem dX12_readRefer_51 : decode cX12_readRefer 51 = .ok (.iconst (-1), 1) := by decide +kernel
theorem dX12_readRefer_52 : decode cX12_readRefer 52 = .ok (.invokestatic 276, 3) := by decide +kernel
theorem dX12_readRefer_55 : decode cX12_readRefer 55 = .ok (.ifCond .ge 8, 3) := by decide +kernel
theorem dX12_readRefer_58 : decode cX12_readRefer 58 = .ok (.aload_n 0, 1) := by decide +kernel
theorem dX12_readRefer_59 : decode cX12_readRefer 59 = .ok (.iconst 1, 1) := by decide +kernel
theorem dX12_readRefer_60 : decode cX12_readRefer 60 = .ok (.putfield 164, 3) := by decide +kernel
theorem dX12_readRefer_63 : decode cX12_readRefer 63 = .ok (.aload_n 0, 1) := by decide +kernel
theorem dX12_readRefer_64 : decode cX12_readRefer 64 = .ok (.invokevirtual 199, 3) := by decide +kernel
theorem dX12_readRefer_67 : decode cX12_readRefer 67 = .ok (.return_, 1) := by decide +kernel
set_option maxRecDepth 20000 in
theorem ggX12_readRequest_X12_next : GoodIn wsX12_readRequest wsX12_next := goodIn_r _ [7, 1, 8, 9, 10, 6, 11, 12, 13, 14, 15, 16, 17, 18, 19, 20, 21, 22, 23, 24, 25, 26, 27, 28, 29, 114, 115, 116, 117, 118, 119, 120, 121, 122, 123, 124, 125, 126, 127, 128, 129, 130, 131, 132, 133, 134, 135] (by decide +kernel) (by decide +kernel)
set_option maxRecDepth 20000 in
theorem gX12_readRequest_X12_next : GoodIn wsX12_readRequest (wsV RX12 199 RX12 yX12_next wsX12_next) := goodIn_app (goodIn_of _ (by decide +kernel)) ggX12_readRequest_X12_next
set_option maxRecDepth 20000 in
theorem ggX12_readRequest_X12_ticketHere : GoodIn wsX12_readRequest wsX12_ticketHere := goodIn_r _ [33, 16, 1, 2, 15, 34, 35, 36, 6, 37, 13, 38, 39, 40, 41, 42, 43, 44, 45, 46, 47, 48, 3, 4, 5, 7, 8, 9, 10, 11, 12, 14, 17, 18, 19, 20, 21, 22, 23, 24, 25, 26, 27, 28, 29, 114, 115, 116, 117, 118, 119, 120, 121, 122, 123, 124, 125, 126, 127, 128, 129, 130, 131, 132, 133, 134, 135] (by decide +kernel) (by decide +kernel)
set_option maxRecDepth 20000 in
theorem gX12_readRequest_X12_ticketHere : GoodIn wsX12_readRequest (wsV RX12 270 RX12 yX12_ticketHere wsX12_ticketHere) := goodIn_app (goodIn_of _ (by decide +kernel)) ggX12_readRequest_X12_ticketHere
set_option maxRecDepth 20000 in
theorem ggX12_readRequest_X12_serviceHere : GoodIn wsX12_readRequest wsX12_serviceHere := goodIn_r _ [52, 2, 53, 54, 55, 6, 56, 16, 1, 13, 14, 34, 35, 36, 37, 38, 57, 58, 59, 60, 23, 27, 28, 29, 24, 25, 26, 61, 62, 63, 64, 65, 66, 45, 46, 47, 48, 3, 4, 5, 7, 8, 9, 10, 11, 12, 15, 17, 18, 19, 20, 21, 22, 114, 115, 116, 117, 118, 119, 120, 121, 122, 123, 124, 125, 126, 127, 128, 129, 130, 131, 132, 133, 134, 135] (by decide +kernel) (by decide +kernel)
set_option maxRecDepth 20000 in
theorem gX12_readRequest_X12_serviceHere : GoodIn wsX12_readRequest (wsV RX12 280 RX12 yX12_serviceHere wsX12_serviceHere) := goodIn_app (goodIn_of _ (by decide +kernel)) ggX12_readRequest_X12_serviceHere
set_option maxRecDepth 20000 in
theorem ggX12_readRequest_X12_whyNotRequest : GoodIn wsX12_readRequest wsX12_whyNotRequest := goodIn_r _ [69, 70, 71, 6, 72, 42, 43, 44, 73, 74, 75, 64, 65, 66, 76, 77, 78, 79, 80, 81, 82, 83, 84, 85, 86, 87, 88, 89, 90] (by decide +kernel) (by decide +kernel)
set_option maxRecDepth 20000 in
theorem gX12_readRequest_X12_whyNotRequest : GoodIn wsX12_readRequest (va_wsS RX12 283 yX12_whyNotRequest wsX12_whyNotRequest) := goodIn_app (goodIn_of _ (by decide +kernel)) ggX12_readRequest_X12_whyNotRequest
set_option maxRecDepth 20000 in
theorem ggX12_readRequest_X12_mayDo : GoodIn wsX12_readRequest wsX12_mayDo := goodIn_r _ [94, 1, 95, 96, 97, 6, 98, 16, 23, 13, 34, 35, 36, 37, 38, 114, 115, 116, 117, 118, 119, 120, 121, 122, 123, 124, 125, 126, 127, 128, 129, 130, 131, 132, 133, 134, 135] (by decide +kernel) (by decide +kernel)
set_option maxRecDepth 20000 in
theorem gX12_readRequest_X12_mayDo : GoodIn wsX12_readRequest (wsV RX12 254 RX12 yX12_mayDo wsX12_mayDo) := goodIn_app (goodIn_of _ (by decide +kernel)) ggX12_readRequest_X12_mayDo
set_option maxRecDepth 20000 in
theorem ggX12_readRequest_X12_ofService : GoodIn wsX12_readRequest wsX12_ofService := goodIn_r _ [66] (by decide +kernel) (by decide +kernel)
set_option maxRecDepth 20000 in
theorem gX12_readRequest_X12_ofService : GoodIn wsX12_readRequest (va_wsS RX12 122 yX12_ofService wsX12_ofService) := goodIn_app (goodIn_of _ (by decide +kernel)) ggX12_readRequest_X12_ofService
set_option maxRecDepth 20000 in
theorem ggX12_readRequest_X12_derive : GoodIn wsX12_readRequest wsX12_derive := goodIn_r _ [101, 42, 43, 6, 44, 88, 89, 90, 102, 103, 104, 105, 106, 107, 108, 109, 110, 111, 112, 113] (by decide +kernel) (by decide +kernel)
set_option maxRecDepth 20000 in
theorem gX12_readRequest_X12_derive : GoodIn wsX12_readRequest (va_wsS RX12 276 yX12_derive wsX12_derive) := goodIn_app (goodIn_of _ (by decide +kernel)) ggX12_readRequest_X12_derive
theorem dX12_readRequest_0 : decode cX12_readRequest 0 = .ok (.aload_n 0, 1) := by decide +kernel
theorem dX12_readRequest_1 : decode cX12_readRequest 1 = .ok (.invokevirtual 199, 3) := by decide +kernel
theorem dX12_readRequest_4 : decode cX12_readRequest 4 = .ok (.aload_n 0, 1) := by decide +kernel
theorem dX12_readRequest_5 : decode cX12_readRequest 5 = .ok (.invokevirtual 270, 3) := by decide +kernel
theorem dX12_readRequest_8 : decode cX12_readRequest 8 = .ok (.istore_n 1, 1) := by decide +kernel
theorem dX12_readRequest_9 : decode cX12_readRequest 9 = .ok (.aload_n 0, 1) := by decide +kernel
theorem dX12_readRequest_10 : decode cX12_readRequest 10 = .ok (.invokevirtual 280, 3) := by decide +kernel
theorem dX12_readRequest_13 : decode cX12_readRequest 13 = .ok (.istore_n 2, 1) := by decide +kernel
theorem dX12_readRequest_14 : decode cX12_readRequest 14 = .ok (.aload_n 0, 1) := by decide +kernel
theorem dX12_readRequest_15 : decode cX12_readRequest 15 = .ok (.aload_n 0, 1) := by decide +kernel
theorem dX12_readRequest_16 : decode cX12_readRequest 16 = .ok (.getfield 164, 3) := by decide +kernel
theorem dX12_readRequest_19 : decode cX12_readRequest 19 = .ok (.ifCond .ne 19, 3) := by decide +kernel
theorem dX12_readRequest_22 : decode cX12_readRequest 22 = .ok (.aload_n 0, 1) := by decide +kernel
theorem dX12_readRequest_23 : decode cX12_readRequest 23 = .ok (.getfield 13, 3) := by decide +kernel
theorem dX12_readRequest_26 : decode cX12_readRequest 26 = .ok (.iload_n 1, 1) := by decide +kernel
theorem dX12_readRequest_27 : decode cX12_readRequest 27 = .ok (.iload_n 2, 1) := by decide +kernel
theorem dX12_readRequest_28 : decode cX12_readRequest 28 = .ok (.invokestatic 283, 3) := by decide +kernel
theorem dX12_readRequest_31 : decode cX12_readRequest 31 = .ok (.ifCond .eq 7, 3) := by decide +kernel
theorem dX12_readRequest_34 : decode cX12_readRequest 34 = .ok (.iconst 1, 1) := by decide +kernel
theorem dX12_readRequest_35 : decode cX12_readRequest 35 = .ok (.goto 4, 3) := by decide +kernel
theorem dX12_readRequest_38 : decode cX12_readRequest 38 = .ok (.iconst 0, 1) := by decide +kernel
theorem dX12_readRequest_39 : decode cX12_readRequest 39 = .ok (.invokevirtual 254, 3) := by decide +kernel
theorem dX12_readRequest_42 : decode cX12_readRequest 42 = .ok (.ifCond .eq 31, 3) := by decide +kernel
theorem dX12_readRequest_45 : decode cX12_readRequest 45 = .ok (.aload_n 0, 1) := by decide +kernel
theorem dX12_readRequest_46 : decode cX12_readRequest 46 = .ok (.getfield 13, 3) := by decide +kernel
theorem dX12_readRequest_49 : decode cX12_readRequest 49 = .ok (.iload_n 1, 1) := by decide +kernel
theorem dX12_readRequest_50 : decode cX12_readRequest 50 = .ok (.aload_n 0, 1) := by decide +kernel
theorem dX12_readRequest_51 : decode cX12_readRequest 51 = .ok (.getfield 13, 3) := by decide +kernel
theorem dX12_readRequest_54 : decode cX12_readRequest 54 = .ok (.iload_n 2, 1) := by decide +kernel
theorem dX12_readRequest_55 : decode cX12_readRequest 55 = .ok (.invokestatic 122, 3) := by decide +kernel
theorem dX12_readRequest_58 : decode cX12_readRequest 58 = .ok (.iconst 1, 1) := by decide +kernel
theorem dX12_readRequest_59 : decode cX12_readRequest 59 = .ok (.iadd, 1) := by decide +kernel
theorem dX12_readRequest_60 : decode cX12_readRequest 60 = .ok (.iaload, 1) := by decide +kernel
theorem dX12_readRequest_61 : decode cX12_readRequest 61 = .ok (.iload_n 2, 1) := by decide +kernel
theorem dX12_readRequest_62 : decode cX12_readRequest 62 = .ok (.invokestatic 276, 3) := by decide +kernel
theorem dX12_readRequest_65 : decode cX12_readRequest 65 = .ok (.ifCond .ge 8, 3) := by decide +kernel
theorem dX12_readRequest_68 : decode cX12_readRequest 68 = .ok (.aload_n 0, 1) := by decide +kernel
theorem dX12_readRequest_69 : decode cX12_readRequest 69 = .ok (.iconst 1, 1) := by decide +kernel
theorem dX12_readRequest_70 : decode cX12_readRequest 70 = .ok (.putfield 164, 3) := by decide +kernel
theorem dX12_readRequest_73 : decode cX12_readRequest 73 = .ok (.aload_n 0, 1) := by decide +kernel
theorem dX12_readRequest_74 : decode cX12_readRequest 74 = .ok (.invokevirtual 199, 3) := by decide +kernel
theorem dX12_readRequest_77 : decode cX12_readRequest 77 = .ok (.return_, 1) := by decide +kernel
set_option maxRecDepth 20000 in
theorem ggX12_readRenew_X12_next : GoodIn wsX12_readRenew wsX12_next := goodIn_r _ [7, 1, 8, 9, 10, 6, 11, 12, 13, 14, 15, 16, 17, 18, 19, 20, 21, 22, 23, 24, 25, 26, 27, 28, 29, 78, 79, 80, 81, 82, 83, 84, 85, 86, 87, 88, 89, 90, 91, 92, 93, 94, 95, 96, 97, 98, 99] (by decide +kernel) (by decide +kernel)
set_option maxRecDepth 20000 in
theorem gX12_readRenew_X12_next : GoodIn wsX12_readRenew (wsV RX12 199 RX12 yX12_next wsX12_next) := goodIn_app (goodIn_of _ (by decide +kernel)) ggX12_readRenew_X12_next
set_option maxRecDepth 20000 in
theorem ggX12_readRenew_X12_ticketHere : GoodIn wsX12_readRenew wsX12_ticketHere := goodIn_r _ [33, 16, 1, 2, 15, 34, 35, 36, 6, 37, 13, 38, 39, 40, 41, 42, 43, 44, 45, 46, 47, 48, 3, 4, 5, 7, 8, 9, 10, 11, 12, 14, 17, 18, 19, 20, 21, 22, 23, 24, 25, 26, 27, 28, 29, 78, 79, 80, 81, 82, 83, 84, 85, 86, 87, 88, 89, 90, 91, 92, 93, 94, 95, 96, 97, 98, 99] (by decide +kernel) (by decide +kernel)
set_option maxRecDepth 20000 in
theorem gX12_readRenew_X12_ticketHere : GoodIn wsX12_readRenew (wsV RX12 270 RX12 yX12_ticketHere wsX12_ticketHere) := goodIn_app (goodIn_of _ (by decide +kernel)) ggX12_readRenew_X12_ticketHere
set_option maxRecDepth 20000 in
theorem ggX12_readRenew_X12_whyNotRenew : GoodIn wsX12_readRenew wsX12_whyNotRenew := goodIn_r _ [51, 42, 43, 6, 44, 52, 53, 54, 55, 56, 57, 58, 59, 60, 61, 62, 63] (by decide +kernel) (by decide +kernel)
set_option maxRecDepth 20000 in
theorem gX12_readRenew_X12_whyNotRenew : GoodIn wsX12_readRenew (va_wsS RX12 286 yX12_whyNotRenew wsX12_whyNotRenew) := goodIn_app (goodIn_of _ (by decide +kernel)) ggX12_readRenew_X12_whyNotRenew
set_option maxRecDepth 20000 in
theorem ggX12_readRenew_X12_mayDo : GoodIn wsX12_readRenew wsX12_mayDo := goodIn_r _ [67, 1, 68, 69, 70, 6, 71, 16, 23, 13, 34, 35, 36, 37, 38, 78, 79, 80, 81, 82, 83, 84, 85, 86, 87, 88, 89, 90, 91, 92, 93, 94, 95, 96, 97, 98, 99] (by decide +kernel) (by decide +kernel)
set_option maxRecDepth 20000 in
theorem gX12_readRenew_X12_mayDo : GoodIn wsX12_readRenew (wsV RX12 254 RX12 yX12_mayDo wsX12_mayDo) := goodIn_app (goodIn_of _ (by decide +kernel)) ggX12_readRenew_X12_mayDo
set_option maxRecDepth 20000 in
theorem ggX12_readRenew_X12_renews : GoodIn wsX12_readRenew wsX12_renews := goodIn_r _ [74, 42, 43, 6, 44, 55, 56, 57, 58, 59, 60, 61, 62, 63, 75, 76, 77] (by decide +kernel) (by decide +kernel)
set_option maxRecDepth 20000 in
theorem gX12_readRenew_X12_renews : GoodIn wsX12_readRenew (va_wsS RX12 289 yX12_renews wsX12_renews) := goodIn_app (goodIn_of _ (by decide +kernel)) ggX12_readRenew_X12_renews
theorem dX12_readRenew_0 : decode cX12_readRenew 0 = .ok (.aload_n 0, 1) := by decide +kernel
theorem dX12_readRenew_1 : decode cX12_readRenew 1 = .ok (.invokevirtual 199, 3) := by decide +kernel
theorem dX12_readRenew_4 : decode cX12_readRenew 4 = .ok (.aload_n 0, 1) := by decide +kernel
theorem dX12_readRenew_5 : decode cX12_readRenew 5 = .ok (.invokevirtual 270, 3) := by decide +kernel
theorem dX12_readRenew_8 : decode cX12_readRenew 8 = .ok (.istore_n 1, 1) := by decide +kernel
theorem dX12_readRenew_9 : decode cX12_readRenew 9 = .ok (.aload_n 0, 1) := by decide +kernel
theorem dX12_readRenew_10 : decode cX12_readRenew 10 = .ok (.aload_n 0, 1) := by decide +kernel
theorem dX12_readRenew_11 : decode cX12_readRenew 11 = .ok (.getfield 164, 3) := by decide +kernel
theorem dX12_readRenew_14 : decode cX12_readRenew 14 = .ok (.ifCond .ne 18, 3) := by decide +kernel
theorem dX12_readRenew_17 : decode cX12_readRenew 17 = .ok (.aload_n 0, 1) := by decide +kernel
theorem dX12_readRenew_18 : decode cX12_readRenew 18 = .ok (.getfield 13, 3) := by decide +kernel
theorem dX12_readRenew_21 : decode cX12_readRenew 21 = .ok (.iload_n 1, 1) := by decide +kernel
theorem dX12_readRenew_22 : decode cX12_readRenew 22 = .ok (.invokestatic 286, 3) := by decide +kernel
theorem dX12_readRenew_25 : decode cX12_readRenew 25 = .ok (.ifCond .eq 7, 3) := by decide +kernel
theorem dX12_readRenew_28 : decode cX12_readRenew 28 = .ok (.iconst 1, 1) := by decide +kernel
theorem dX12_readRenew_29 : decode cX12_readRenew 29 = .ok (.goto 4, 3) := by decide +kernel
theorem dX12_readRenew_32 : decode cX12_readRenew 32 = .ok (.iconst 0, 1) := by decide +kernel
theorem dX12_readRenew_33 : decode cX12_readRenew 33 = .ok (.invokevirtual 254, 3) := by decide +kernel
theorem dX12_readRenew_36 : decode cX12_readRenew 36 = .ok (.ifCond .eq 19, 3) := by decide +kernel
theorem dX12_readRenew_39 : decode cX12_readRenew 39 = .ok (.aload_n 0, 1) := by decide +kernel
theorem dX12_readRenew_40 : decode cX12_readRenew 40 = .ok (.getfield 13, 3) := by decide +kernel
theorem dX12_readRenew_43 : decode cX12_readRenew 43 = .ok (.iload_n 1, 1) := by decide +kernel
theorem dX12_readRenew_44 : decode cX12_readRenew 44 = .ok (.invokestatic 289, 3) := by decide +kernel
theorem dX12_readRenew_47 : decode cX12_readRenew 47 = .ok (.ifCond .ge 8, 3) := by decide +kernel
theorem dX12_readRenew_50 : decode cX12_readRenew 50 = .ok (.aload_n 0, 1) := by decide +kernel
theorem dX12_readRenew_51 : decode cX12_readRenew 51 = .ok (.iconst 1, 1) := by decide +kernel
theorem dX12_readRenew_52 : decode cX12_readRenew 52 = .ok (.putfield 164, 3) := by decide +kernel
theorem dX12_readRenew_55 : decode cX12_readRenew 55 = .ok (.aload_n 0, 1) := by decide +kernel
theorem dX12_readRenew_56 : decode cX12_readRenew 56 = .ok (.invokevirtual 199, 3) := by decide +kernel
theorem dX12_readRenew_59 : decode cX12_readRenew 59 = .ok (.return_, 1) := by decide +kernel
set_option maxRecDepth 20000 in
theorem ggX12_readCheese_X12_next : GoodIn wsX12_readCheese wsX12_next := goodIn_r _ [7, 1, 8, 9, 10, 6, 11, 12, 13, 14, 15, 16, 17, 18, 19, 20, 21, 22, 23, 24, 25, 26, 27, 28, 29, 90, 91, 92, 93, 94, 95, 96, 97, 98, 99, 100, 101, 102, 103, 104, 105, 106, 107, 108, 109, 110, 111] (by decide +kernel) (by decide +kernel)
set_option maxRecDepth 20000 in
theorem gX12_readCheese_X12_next : GoodIn wsX12_readCheese (wsV RX12 199 RX12 yX12_next wsX12_next) := goodIn_app (goodIn_of _ (by decide +kernel)) ggX12_readCheese_X12_next
set_option maxRecDepth 20000 in
theorem ggX12_readCheese_X12_ticketHere : GoodIn wsX12_readCheese wsX12_ticketHere := goodIn_r _ [33, 16, 1, 2, 15, 34, 35, 36, 6, 37, 13, 38, 39, 40, 41, 42, 43, 44, 45, 46, 47, 48, 3, 4, 5, 7, 8, 9, 10, 11, 12, 14, 17, 18, 19, 20, 21, 22, 23, 24, 25, 26, 27, 28, 29, 90, 91, 92, 93, 94, 95, 96, 97, 98, 99, 100, 101, 102, 103, 104, 105, 106, 107, 108, 109, 110, 111] (by decide +kernel) (by decide +kernel)
set_option maxRecDepth 20000 in
theorem gX12_readCheese_X12_ticketHere : GoodIn wsX12_readCheese (wsV RX12 270 RX12 yX12_ticketHere wsX12_ticketHere) := goodIn_app (goodIn_of _ (by decide +kernel)) ggX12_readCheese_X12_ticketHere
set_option maxRecDepth 20000 in
theorem ggX12_readCheese_X12_whyNotCheese : GoodIn wsX12_readCheese wsX12_whyNotCheese := goodIn_r _ [51, 42, 43, 6, 44, 52, 53, 54, 55, 56, 57, 58, 59, 60, 61, 62, 63, 64, 65, 66, 67, 68, 69, 70, 71, 72, 73, 74, 75] (by decide +kernel) (by decide +kernel)
set_option maxRecDepth 20000 in
theorem gX12_readCheese_X12_whyNotCheese : GoodIn wsX12_readCheese (va_wsS RX12 292 yX12_whyNotCheese wsX12_whyNotCheese) := goodIn_app (goodIn_of _ (by decide +kernel)) ggX12_readCheese_X12_whyNotCheese
set_option maxRecDepth 20000 in
theorem ggX12_readCheese_X12_mayDo : GoodIn wsX12_readCheese wsX12_mayDo := goodIn_r _ [79, 1, 80, 81, 82, 6, 83, 16, 23, 13, 34, 35, 36, 37, 38, 90, 91, 92, 93, 94, 95, 96, 97, 98, 99, 100, 101, 102, 103, 104, 105, 106, 107, 108, 109, 110, 111] (by decide +kernel) (by decide +kernel)
set_option maxRecDepth 20000 in
theorem gX12_readCheese_X12_mayDo : GoodIn wsX12_readCheese (wsV RX12 254 RX12 yX12_mayDo wsX12_mayDo) := goodIn_app (goodIn_of _ (by decide +kernel)) ggX12_readCheese_X12_mayDo
set_option maxRecDepth 20000 in
theorem ggX12_readCheese_X12_gives : GoodIn wsX12_readCheese wsX12_gives := goodIn_r _ [86, 42, 43, 6, 44, 73, 74, 75, 61, 62, 63, 87, 88, 89, 70, 71, 72] (by decide +kernel) (by decide +kernel)
set_option maxRecDepth 20000 in
theorem gX12_readCheese_X12_gives : GoodIn wsX12_readCheese (va_wsS RX12 295 yX12_gives wsX12_gives) := goodIn_app (goodIn_of _ (by decide +kernel)) ggX12_readCheese_X12_gives
theorem dX12_readCheese_0 : decode cX12_readCheese 0 = .ok (.aload_n 0, 1) := by decide +kernel
theorem dX12_readCheese_1 : decode cX12_readCheese 1 = .ok (.invokevirtual 199, 3) := by decide +kernel
theorem dX12_readCheese_4 : decode cX12_readCheese 4 = .ok (.aload_n 0, 1) := by decide +kernel
theorem dX12_readCheese_5 : decode cX12_readCheese 5 = .ok (.invokevirtual 270, 3) := by decide +kernel
theorem dX12_readCheese_8 : decode cX12_readCheese 8 = .ok (.istore_n 1, 1) := by decide +kernel
theorem dX12_readCheese_9 : decode cX12_readCheese 9 = .ok (.aload_n 0, 1) := by decide +kernel
theorem dX12_readCheese_10 : decode cX12_readCheese 10 = .ok (.aload_n 0, 1) := by decide +kernel
theorem dX12_readCheese_11 : decode cX12_readCheese 11 = .ok (.getfield 164, 3) := by decide +kernel
theorem dX12_readCheese_14 : decode cX12_readCheese 14 = .ok (.ifCond .ne 18, 3) := by decide +kernel
theorem dX12_readCheese_17 : decode cX12_readCheese 17 = .ok (.aload_n 0, 1) := by decide +kernel
theorem dX12_readCheese_18 : decode cX12_readCheese 18 = .ok (.getfield 13, 3) := by decide +kernel
theorem dX12_readCheese_21 : decode cX12_readCheese 21 = .ok (.iload_n 1, 1) := by decide +kernel
theorem dX12_readCheese_22 : decode cX12_readCheese 22 = .ok (.invokestatic 292, 3) := by decide +kernel
theorem dX12_readCheese_25 : decode cX12_readCheese 25 = .ok (.ifCond .eq 7, 3) := by decide +kernel
theorem dX12_readCheese_28 : decode cX12_readCheese 28 = .ok (.iconst 1, 1) := by decide +kernel
theorem dX12_readCheese_29 : decode cX12_readCheese 29 = .ok (.goto 4, 3) := by decide +kernel
theorem dX12_readCheese_32 : decode cX12_readCheese 32 = .ok (.iconst 0, 1) := by decide +kernel
theorem dX12_readCheese_33 : decode cX12_readCheese 33 = .ok (.invokevirtual 254, 3) := by decide +kernel
theorem dX12_readCheese_36 : decode cX12_readCheese 36 = .ok (.ifCond .eq 19, 3) := by decide +kernel
theorem dX12_readCheese_39 : decode cX12_readCheese 39 = .ok (.aload_n 0, 1) := by decide +kernel
theorem dX12_readCheese_40 : decode cX12_readCheese 40 = .ok (.getfield 13, 3) := by decide +kernel
theorem dX12_readCheese_43 : decode cX12_readCheese 43 = .ok (.iload_n 1, 1) := by decide +kernel
theorem dX12_readCheese_44 : decode cX12_readCheese 44 = .ok (.invokestatic 295, 3) := by decide +kernel
theorem dX12_readCheese_47 : decode cX12_readCheese 47 = .ok (.ifCond .ge 8, 3) := by decide +kernel
theorem dX12_readCheese_50 : decode cX12_readCheese 50 = .ok (.aload_n 0, 1) := by decide +kernel
theorem dX12_readCheese_51 : decode cX12_readCheese 51 = .ok (.iconst 1, 1) := by decide +kernel
theorem dX12_readCheese_52 : decode cX12_readCheese 52 = .ok (.putfield 164, 3) := by decide +kernel
theorem dX12_readCheese_55 : decode cX12_readCheese 55 = .ok (.aload_n 0, 1) := by decide +kernel
theorem dX12_readCheese_56 : decode cX12_readCheese 56 = .ok (.invokevirtual 199, 3) := by decide +kernel
theorem dX12_readCheese_59 : decode cX12_readCheese 59 = .ok (.return_, 1) := by decide +kernel
set_option maxRecDepth 20000 in
theorem ggX12_readDrop_X12_next : GoodIn wsX12_readDrop wsX12_next := goodIn_r _ [7, 1, 8, 9, 10, 6, 11, 12, 13, 14, 15, 16, 17, 18, 19, 20, 21, 22, 23, 24, 25, 26, 27, 28, 29, 60, 61, 62, 63, 64, 65, 66, 67, 68, 69, 70, 71, 72, 73, 74, 75, 76, 77, 78, 79, 80, 81] (by decide +kernel) (by decide +kernel)
set_option maxRecDepth 20000 in
theorem gX12_readDrop_X12_next : GoodIn wsX12_readDrop (wsV RX12 199 RX12 yX12_next wsX12_next) := goodIn_app (goodIn_of _ (by decide +kernel)) ggX12_readDrop_X12_next
set_option maxRecDepth 20000 in
theorem ggX12_readDrop_X12_ticketHere : GoodIn wsX12_readDrop wsX12_ticketHere := goodIn_r _ [33, 16, 1, 2, 15, 34, 35, 36, 6, 37, 13, 38, 39, 40, 41, 42, 43, 44, 45, 46, 47, 48, 3, 4, 5, 7, 8, 9, 10, 11, 12, 14, 17, 18, 19, 20, 21, 22, 23, 24, 25, 26, 27, 28, 29, 60, 61, 62, 63, 64, 65, 66, 67, 68, 69, 70, 71, 72, 73, 74, 75, 76, 77, 78, 79, 80, 81] (by decide +kernel) (by decide +kernel)
set_option maxRecDepth 20000 in
theorem gX12_readDrop_X12_ticketHere : GoodIn wsX12_readDrop (wsV RX12 270 RX12 yX12_ticketHere wsX12_ticketHere) := goodIn_app (goodIn_of _ (by decide +kernel)) ggX12_readDrop_X12_ticketHere
set_option maxRecDepth 20000 in
theorem ggX12_readDrop_X12_finish : GoodIn wsX12_readDrop wsX12_finish := goodIn_r _ [52, 53, 54, 55, 6, 56, 16, 23, 13, 34, 35, 36, 37, 1, 38, 3, 4, 5, 7, 8, 9, 10, 11, 12, 14, 15, 17, 18, 19, 20, 21, 22, 24, 25, 26, 27, 28, 29, 60, 61, 62, 63, 64, 65, 66, 67, 68, 69, 70, 71, 72, 73, 74, 75, 76, 77, 78, 79, 80, 81] (by decide +kernel) (by decide +kernel)
set_option maxRecDepth 20000 in
theorem gX12_readDrop_X12_finish : GoodIn wsX12_readDrop (wsV RX12 248 RX12 yX12_finish wsX12_finish) := goodIn_app (goodIn_of _ (by decide +kernel)) ggX12_readDrop_X12_finish
set_option maxRecDepth 20000 in
theorem ggX12_readDrop_X12_drops : GoodIn wsX12_readDrop wsX12_drops := goodIn_r _ [59, 42, 43, 6, 44] (by decide +kernel) (by decide +kernel)
set_option maxRecDepth 20000 in
theorem gX12_readDrop_X12_drops : GoodIn wsX12_readDrop (va_wsS RX12 142 yX12_drops wsX12_drops) := goodIn_app (goodIn_of _ (by decide +kernel)) ggX12_readDrop_X12_drops
theorem dX12_readDrop_0 : decode cX12_readDrop 0 = .ok (.aload_n 0, 1) := by decide +kernel
theorem dX12_readDrop_1 : decode cX12_readDrop 1 = .ok (.invokevirtual 199, 3) := by decide +kernel
theorem dX12_readDrop_4 : decode cX12_readDrop 4 = .ok (.aload_n 0, 1) := by decide +kernel
theorem dX12_readDrop_5 : decode cX12_readDrop 5 = .ok (.invokevirtual 270, 3) := by decide +kernel
theorem dX12_readDrop_8 : decode cX12_readDrop 8 = .ok (.istore_n 1, 1) := by decide +kernel
theorem dX12_readDrop_9 : decode cX12_readDrop 9 = .ok (.aload_n 0, 1) := by decide +kernel
theorem dX12_readDrop_10 : decode cX12_readDrop 10 = .ok (.invokevirtual 248, 3) := by decide +kernel
theorem dX12_readDrop_13 : decode cX12_readDrop 13 = .ok (.aload_n 0, 1) := by decide +kernel
theorem dX12_readDrop_14 : decode cX12_readDrop 14 = .ok (.getfield 164, 3) := by decide +kernel
theorem dX12_readDrop_17 : decode cX12_readDrop 17 = .ok (.ifCond .ne 19, 3) := by decide +kernel
theorem dX12_readDrop_20 : decode cX12_readDrop 20 = .ok (.aload_n 0, 1) := by decide +kernel
theorem dX12_readDrop_21 : decode cX12_readDrop 21 = .ok (.getfield 13, 3) := by decide +kernel
theorem dX12_readDrop_24 : decode cX12_readDrop 24 = .ok (.iload_n 1, 1) := by decide +kernel
theorem dX12_readDrop_25 : decode cX12_readDrop 25 = .ok (.invokestatic 142, 3) := by decide +kernel
theorem dX12_readDrop_28 : decode cX12_readDrop 28 = .ok (.ifCond .ge 8, 3) := by decide +kernel
theorem dX12_readDrop_31 : decode cX12_readDrop 31 = .ok (.aload_n 0, 1) := by decide +kernel
theorem dX12_readDrop_32 : decode cX12_readDrop 32 = .ok (.iconst 1, 1) := by decide +kernel
theorem dX12_readDrop_33 : decode cX12_readDrop 33 = .ok (.putfield 164, 3) := by decide +kernel
theorem dX12_readDrop_36 : decode cX12_readDrop 36 = .ok (.return_, 1) := by decide +kernel
set_option maxRecDepth 20000 in
theorem ggX12_readSweep_X12_next : GoodIn wsX12_readSweep wsX12_next := goodIn_r _ [7, 1, 8, 9, 10, 6, 11, 12, 13, 14, 15, 16, 17, 18, 19, 20, 21, 22, 23, 24, 25, 26, 27, 28, 29, 55, 56, 57, 58, 59, 60, 61, 62, 63, 64, 65, 66, 67, 68, 69, 70, 71, 72, 73, 74, 75, 76] (by decide +kernel) (by decide +kernel)
set_option maxRecDepth 20000 in
theorem gX12_readSweep_X12_next : GoodIn wsX12_readSweep (wsV RX12 199 RX12 yX12_next wsX12_next) := goodIn_app (goodIn_of _ (by decide +kernel)) ggX12_readSweep_X12_next
set_option maxRecDepth 20000 in
theorem ggX12_readSweep_X12_finish : GoodIn wsX12_readSweep wsX12_finish := goodIn_r _ [33, 34, 35, 36, 6, 37, 16, 23, 13, 38, 39, 40, 41, 1, 42, 3, 4, 5, 7, 8, 9, 10, 11, 12, 14, 15, 17, 18, 19, 20, 21, 22, 24, 25, 26, 27, 28, 29, 55, 56, 57, 58, 59, 60, 61, 62, 63, 64, 65, 66, 67, 68, 69, 70, 71, 72, 73, 74, 75, 76] (by decide +kernel) (by decide +kernel)
set_option maxRecDepth 20000 in
theorem gX12_readSweep_X12_finish : GoodIn wsX12_readSweep (wsV RX12 248 RX12 yX12_finish wsX12_finish) := goodIn_app (goodIn_of _ (by decide +kernel)) ggX12_readSweep_X12_finish
set_option maxRecDepth 20000 in
theorem ggX12_readSweep_X12_sweeps : GoodIn wsX12_readSweep wsX12_sweeps := goodIn_r _ [45, 46, 47, 6, 48, 49, 50, 51, 52, 53, 54] (by decide +kernel) (by decide +kernel)
set_option maxRecDepth 20000 in
theorem gX12_readSweep_X12_sweeps : GoodIn wsX12_readSweep (va_wsS RX12 298 yX12_sweeps wsX12_sweeps) := goodIn_app (goodIn_of _ (by decide +kernel)) ggX12_readSweep_X12_sweeps
theorem dX12_readSweep_0 : decode cX12_readSweep 0 = .ok (.aload_n 0, 1) := by decide +kernel
theorem dX12_readSweep_1 : decode cX12_readSweep 1 = .ok (.invokevirtual 199, 3) := by decide +kernel
theorem dX12_readSweep_4 : decode cX12_readSweep 4 = .ok (.aload_n 0, 1) := by decide +kernel
theorem dX12_readSweep_5 : decode cX12_readSweep 5 = .ok (.invokevirtual 248, 3) := by decide +kernel
theorem dX12_readSweep_8 : decode cX12_readSweep 8 = .ok (.aload_n 0, 1) := by decide +kernel
theorem dX12_readSweep_9 : decode cX12_readSweep 9 = .ok (.getfield 164, 3) := by decide +kernel
theorem dX12_readSweep_12 : decode cX12_readSweep 12 = .ok (.ifCond .ne 18, 3) := by decide +kernel
theorem dX12_readSweep_15 : decode cX12_readSweep 15 = .ok (.aload_n 0, 1) := by decide +kernel
theorem dX12_readSweep_16 : decode cX12_readSweep 16 = .ok (.getfield 13, 3) := by decide +kernel
theorem dX12_readSweep_19 : decode cX12_readSweep 19 = .ok (.invokestatic 298, 3) := by decide +kernel
theorem dX12_readSweep_22 : decode cX12_readSweep 22 = .ok (.ifCond .ge 8, 3) := by decide +kernel
theorem dX12_readSweep_25 : decode cX12_readSweep 25 = .ok (.aload_n 0, 1) := by decide +kernel
theorem dX12_readSweep_26 : decode cX12_readSweep 26 = .ok (.iconst 1, 1) := by decide +kernel
theorem dX12_readSweep_27 : decode cX12_readSweep 27 = .ok (.putfield 164, 3) := by decide +kernel
theorem dX12_readSweep_30 : decode cX12_readSweep 30 = .ok (.return_, 1) := by decide +kernel
set_option maxRecDepth 20000 in
theorem ggX12_readPass_X12_next : GoodIn wsX12_readPass wsX12_next := goodIn_r _ [7, 1, 8, 9, 10, 6, 11, 12, 13, 14, 15, 16, 17, 18, 19, 20, 21, 22, 23, 24, 25, 26, 27, 28, 29, 65, 66, 67, 68, 69, 70, 71, 72, 73, 74, 75, 76, 77, 78, 79, 80, 81, 82, 83, 84, 85, 86] (by decide +kernel) (by decide +kernel)
set_option maxRecDepth 20000 in
theorem gX12_readPass_X12_next : GoodIn wsX12_readPass (wsV RX12 199 RX12 yX12_next wsX12_next) := goodIn_app (goodIn_of _ (by decide +kernel)) ggX12_readPass_X12_next
set_option maxRecDepth 20000 in
theorem ggX12_readPass_X12_number : GoodIn wsX12_readPass wsX12_number := goodIn_r _ [33, 16, 15, 1, 34, 35, 36, 6, 37, 13, 38, 27, 28, 29, 3, 4, 5, 7, 8, 9, 10, 11, 12, 14, 17, 18, 19, 20, 21, 22, 23, 24, 25, 26, 65, 66, 67, 68, 69, 70, 71, 72, 73, 74, 75, 76, 77, 78, 79, 80, 81, 82, 83, 84, 85, 86] (by decide +kernel) (by decide +kernel)
set_option maxRecDepth 20000 in
theorem gX12_readPass_X12_number : GoodIn wsX12_readPass (wsV RX12 239 RX12 yX12_number wsX12_number) := goodIn_app (goodIn_of _ (by decide +kernel)) ggX12_readPass_X12_number
set_option maxRecDepth 20000 in
theorem ggX12_readPass_X12_finish : GoodIn wsX12_readPass wsX12_finish := goodIn_r _ [42, 43, 44, 45, 6, 46, 16, 23, 13, 34, 35, 36, 37, 1, 38, 3, 4, 5, 7, 8, 9, 10, 11, 12, 14, 15, 17, 18, 19, 20, 21, 22, 24, 25, 26, 27, 28, 29, 65, 66, 67, 68, 69, 70, 71, 72, 73, 74, 75, 76, 77, 78, 79, 80, 81, 82, 83, 84, 85, 86] (by decide +kernel) (by decide +kernel)
set_option maxRecDepth 20000 in
theorem gX12_readPass_X12_finish : GoodIn wsX12_readPass (wsV RX12 248 RX12 yX12_finish wsX12_finish) := goodIn_app (goodIn_of _ (by decide +kernel)) ggX12_readPass_X12_finish
set_option maxRecDepth 20000 in
theorem ggX12_readPass_X12_passes : GoodIn wsX12_readPass wsX12_passes := goodIn_r _ [49, 50, 51, 6, 52, 53, 54, 55, 56, 57, 58, 59, 60, 61, 62, 63, 64] (by decide +kernel) (by decide +kernel)
set_option maxRecDepth 20000 in
theorem gX12_readPass_X12_passes : GoodIn wsX12_readPass (va_wsS RX12 301 yX12_passes wsX12_passes) := goodIn_app (goodIn_of _ (by decide +kernel)) ggX12_readPass_X12_passes
theorem dX12_readPass_0 : decode cX12_readPass 0 = .ok (.aload_n 0, 1) := by decide +kernel
theorem dX12_readPass_1 : decode cX12_readPass 1 = .ok (.invokevirtual 199, 3) := by decide +kernel
theorem dX12_readPass_4 : decode cX12_readPass 4 = .ok (.aload_n 0, 1) := by decide +kernel
theorem dX12_readPass_5 : decode cX12_readPass 5 = .ok (.iconst 0, 1) := by decide +kernel
theorem dX12_readPass_6 : decode cX12_readPass 6 = .ok (.sipush 999, 3) := by decide +kernel
theorem dX12_readPass_9 : decode cX12_readPass 9 = .ok (.invokevirtual 239, 3) := by decide +kernel
theorem dX12_readPass_12 : decode cX12_readPass 12 = .ok (.istore_n 1, 1) := by decide +kernel
theorem dX12_readPass_13 : decode cX12_readPass 13 = .ok (.aload_n 0, 1) := by decide +kernel
theorem dX12_readPass_14 : decode cX12_readPass 14 = .ok (.invokevirtual 248, 3) := by decide +kernel
theorem dX12_readPass_17 : decode cX12_readPass 17 = .ok (.aload_n 0, 1) := by decide +kernel
theorem dX12_readPass_18 : decode cX12_readPass 18 = .ok (.getfield 164, 3) := by decide +kernel
theorem dX12_readPass_21 : decode cX12_readPass 21 = .ok (.ifCond .ne 19, 3) := by decide +kernel
theorem dX12_readPass_24 : decode cX12_readPass 24 = .ok (.aload_n 0, 1) := by decide +kernel
theorem dX12_readPass_25 : decode cX12_readPass 25 = .ok (.getfield 13, 3) := by decide +kernel
theorem dX12_readPass_28 : decode cX12_readPass 28 = .ok (.iload_n 1, 1) := by decide +kernel
theorem dX12_readPass_29 : decode cX12_readPass 29 = .ok (.invokestatic 301, 3) := by decide +kernel
theorem dX12_readPass_32 : decode cX12_readPass 32 = .ok (.ifCond .ge 8, 3) := by decide +kernel
theorem dX12_readPass_35 : decode cX12_readPass 35 = .ok (.aload_n 0, 1) := by decide +kernel
theorem dX12_readPass_36 : decode cX12_readPass 36 = .ok (.iconst 1, 1) := by decide +kernel
theorem dX12_readPass_37 : decode cX12_readPass 37 = .ok (.putfield 164, 3) := by decide +kernel
theorem dX12_readPass_40 : decode cX12_readPass 40 = .ok (.return_, 1) := by decide +kernel
set_option maxRecDepth 20000 in
theorem ggX12_readStatement_X12_is : GoodIn wsX12_readStatement wsX12_is := goodIn_r _ [5, 6, 7, 8, 9, 10, 11, 12, 13, 14, 15, 16, 17, 18, 19, 20, 21, 22, 23, 24, 25, 26, 27, 28, 29, 30, 31, 32, 33, 34, 35, 36, 37, 38, 39, 40, 41, 42, 43, 44, 45, 46, 47, 48, 49, 50, 51, 52, 53, 54, 55, 56, 57, 58, 299, 300, 301, 302, 303, 304, 305, 306, 307, 308, 309, 310, 311, 312, 313, 314, 315, 316, 317, 318, 319, 320] (by decide +kernel) (by decide +kernel)
set_option maxRecDepth 20000 in
theorem gX12_readStatement_X12_is : GoodIn wsX12_readStatement (wsV RX12 231 RX12 yX12_is wsX12_is) := goodIn_app (goodIn_of _ (by decide +kernel)) ggX12_readStatement_X12_is
set_option maxRecDepth 20000 in
theorem ggX12_readStatement_X12_readRealm : GoodIn wsX12_readStatement wsX12_readRealm := goodIn_r _ [62, 63, 64, 65, 66, 67, 4, 68, 9, 69, 70, 71, 72, 73, 74, 75, 76, 77, 78, 7, 79, 6, 80, 81, 82, 83, 84, 85, 8, 86, 87, 88, 89, 90, 91, 92, 93, 94, 95, 96, 97, 98, 99, 100, 101, 102, 103, 104, 105, 106, 107, 108, 109, 110, 111, 112, 113, 114, 115, 116, 117, 118, 119, 120, 121, 122, 123, 124, 125, 126, 127, 128, 1, 2, 3, 5, 10, 11, 12, 13, 14, 15, 16, 17, 18, 19, 20, 21, 22, 23, 24, 25, 26, 27, 28, 29, 30, 31, 32, 33, 34, 35, 36, 37, 38, 39, 40, 41, 42, 43, 44, 45, 46, 47, 48, 49, 50, 51, 52, 53, 54, 55, 56, 57, 58, 129, 130, 131, 132, 133, 134, 135, 136, 299, 300, 301, 302, 303, 304, 305, 306, 307, 308, 309, 310, 311, 312, 313, 314, 315, 316, 317, 318, 319, 320] (by decide +kernel) (by decide +kernel)
set_option maxRecDepth 20000 in
theorem gX12_readStatement_X12_readRealm : GoodIn wsX12_readStatement (wsV RX12 306 RX12 yX12_readRealm wsX12_readRealm) := goodIn_app (goodIn_of _ (by decide +kernel)) ggX12_readStatement_X12_readRealm
set_option maxRecDepth 20000 in
theorem ggX12_readStatement_X12_readTrust : GoodIn wsX12_readStatement wsX12_readTrust := goodIn_r _ [140, 63, 64, 70, 71, 72, 4, 73, 74, 75, 76, 77, 78, 9, 7, 79, 6, 80, 81, 82, 83, 84, 85, 8, 86, 87, 88, 89, 90, 91, 141, 142, 143, 144, 145, 146, 147, 148, 65, 66, 67, 68, 69, 96, 97, 98, 99, 103, 104, 105, 106, 107, 108, 149, 150, 151, 152, 153, 154, 155, 156, 157, 158, 159, 133, 134, 135, 136, 299, 300, 301, 302, 303, 304, 305, 306, 307, 308, 309, 310, 311, 312, 313, 314, 315, 316, 317, 318, 319, 320] (by decide +kernel) (by decide +kernel)
set_option maxRecDepth 20000 in
theorem gX12_readStatement_X12_readTrust : GoodIn wsX12_readStatement (wsV RX12 311 RX12 yX12_readTrust wsX12_readTrust) := goodIn_app (goodIn_of _ (by decide +kernel)) ggX12_readStatement_X12_readTrust
set_option maxRecDepth 20000 in
theorem ggX12_readStatement_X12_readUser : GoodIn wsX12_readStatement wsX12_readUser := goodIn_r _ [163, 63, 64, 65, 66, 67, 4, 68, 9, 69, 70, 71, 72, 73, 74, 75, 76, 77, 78, 7, 79, 6, 80, 81, 82, 83, 84, 85, 8, 86, 87, 88, 89, 90, 91, 92, 93, 94, 95, 96, 97, 98, 99, 100, 101, 102, 103, 104, 105, 106, 107, 108, 109, 110, 111, 112, 113, 114, 115, 116, 117, 118, 119, 120, 141, 142, 143, 144, 145, 146, 147, 148, 149, 150, 151, 152, 121, 122, 123, 124, 125, 126, 127, 128, 1, 2, 3, 5, 10, 11, 12, 13, 14, 15, 16, 17, 18, 19, 20, 21, 22, 23, 24, 25, 26, 27, 28, 29, 30, 31, 32, 33, 34, 35, 36, 37, 38, 39, 40, 41, 42, 43, 44, 45, 46, 47, 48, 49, 50, 51, 52, 53, 54, 55, 56, 57, 58, 129, 130, 131, 132, 133, 134, 135, 136, 299, 300, 301, 302, 303, 304, 305, 306, 307, 308, 309, 310, 311, 312, 313, 314, 315, 316, 317, 318, 319, 320] (by decide +kernel) (by decide +kernel)
set_option maxRecDepth 20000 in
theorem gX12_readStatement_X12_readUser : GoodIn wsX12_readStatement (wsV RX12 316 RX12 yX12_readUser wsX12_readUser) := goodIn_app (goodIn_of _ (by decide +kernel)) ggX12_readStatement_X12_readUser
set_option maxRecDepth 20000 in
theorem ggX12_readStatement_X12_readService : GoodIn wsX12_readStatement wsX12_readService := goodIn_r _ [167, 63, 64, 65, 66, 67, 4, 68, 9, 69, 70, 71, 72, 73, 74, 75, 76, 77, 78, 7, 79, 6, 80, 81, 82, 83, 84, 85, 8, 86, 87, 88, 89, 90, 91, 92, 93, 94, 95, 96, 97, 98, 99, 100, 101, 102, 103, 104, 105, 106, 107, 108, 109, 110, 111, 112, 113, 114, 115, 116, 117, 118, 119, 120, 141, 142, 143, 144, 145, 146, 147, 148, 149, 150, 151, 152, 121, 122, 123, 124, 129, 130, 131, 132, 133, 134, 135, 136, 299, 300, 301, 302, 303, 304, 305, 306, 307, 308, 309, 310, 311, 312, 313, 314, 315, 316, 317, 318, 319, 320] (by decide +kernel) (by decide +kernel)
set_option maxRecDepth 20000 in
theorem gX12_readStatement_X12_readService : GoodIn wsX12_readStatement (wsV RX12 321 RX12 yX12_readService wsX12_readService) := goodIn_app (goodIn_of _ (by decide +kernel)) ggX12_readStatement_X12_readService
set_option maxRecDepth 20000 in
theorem ggX12_readStatement_X12_readLogin : GoodIn wsX12_readStatement wsX12_readLogin := goodIn_r _ [171, 64, 63, 70, 71, 72, 4, 73, 74, 75, 76, 77, 78, 9, 7, 79, 6, 80, 81, 82, 83, 84, 85, 8, 86, 87, 88, 89, 90, 91, 172, 173, 174, 175, 145, 146, 147, 148, 65, 66, 67, 68, 69, 96, 97, 98, 99, 109, 110, 111, 112, 113, 114, 149, 150, 151, 152, 121, 122, 123, 124, 1, 2, 3, 5, 10, 11, 12, 13, 14, 15, 16, 17, 18, 19, 20, 21, 22, 23, 24, 25, 26, 27, 28, 29, 30, 31, 32, 33, 34, 35, 36, 37, 38, 39, 40, 41, 42, 43, 44, 45, 46, 47, 48, 49, 50, 51, 52, 53, 54, 55, 56, 57, 58, 176, 177, 178, 179, 180, 181, 182, 183, 184, 106, 107, 108, 156, 157, 158, 159, 133, 134, 135, 136, 185, 186, 187, 188, 189, 190, 191, 192, 193, 194, 195, 196, 197, 198, 199, 299, 300, 301, 302, 303, 304, 305, 306, 307, 308, 309, 310, 311, 312, 313, 314, 315, 316, 317, 318, 319, 320] (by decide +kernel) (by decide +kernel)
set_option maxRecDepth 20000 in
theorem gX12_readStatement_X12_readLogin : GoodIn wsX12_readStatement (wsV RX12 326 RX12 yX12_readLogin wsX12_readLogin) := goodIn_app (goodIn_of _ (by decide +kernel)) ggX12_readStatement_X12_readLogin
set_option maxRecDepth 20000 in
theorem ggX12_readStatement_X12_readRefer : GoodIn wsX12_readStatement wsX12_readRefer := goodIn_r _ [203, 64, 63, 70, 71, 72, 4, 73, 74, 75, 76, 77, 78, 9, 7, 79, 6, 80, 81, 82, 83, 84, 85, 8, 86, 87, 88, 89, 90, 91, 204, 205, 206, 207, 65, 66, 67, 68, 69, 208, 209, 210, 191, 192, 193, 149, 150, 151, 152, 141, 142, 143, 144, 145, 146, 147, 148, 96, 97, 98, 99, 103, 104, 105, 106, 107, 108, 211, 212, 213, 214, 215, 216, 217, 218, 219, 153, 154, 155, 220, 221, 222, 179, 180, 181, 182, 183, 184, 112, 113, 114, 156, 157, 158, 159, 133, 134, 135, 136, 223, 224, 225, 226, 227, 228, 188, 189, 190, 194, 195, 196, 197, 198, 199, 299, 300, 301, 302, 303, 304, 305, 306, 307, 308, 309, 310, 311, 312, 313, 314, 315, 316, 317, 318, 319, 320] (by decide +kernel) (by decide +kernel)
set_option maxRecDepth 20000 in
theorem gX12_readStatement_X12_readRefer : GoodIn wsX12_readStatement (wsV RX12 331 RX12 yX12_readRefer wsX12_readRefer) := goodIn_app (goodIn_of _ (by decide +kernel)) ggX12_readStatement_X12_readRefer
set_option maxRecDepth 20000 in
theorem ggX12_readStatement_X12_readRequest : GoodIn wsX12_readStatement wsX12_readRequest := goodIn_r _ [232, 64, 63, 70, 71, 72, 4, 73, 74, 75, 76, 77, 78, 9, 7, 79, 6, 80, 81, 82, 83, 84, 85, 8, 86, 87, 88, 89, 90, 91, 204, 205, 206, 207, 65, 66, 67, 68, 69, 208, 209, 210, 191, 192, 193, 149, 150, 151, 152, 233, 234, 235, 236, 145, 146, 147, 148, 96, 97, 98, 99, 115, 116, 117, 118, 119, 120, 237, 238, 239, 214, 215, 216, 217, 218, 219, 220, 221, 222, 179, 180, 181, 182, 183, 184, 112, 113, 114, 106, 107, 108, 156, 157, 158, 159, 133, 134, 135, 136, 223, 224, 225, 226, 227, 228, 188, 189, 190, 194, 195, 196, 197, 198, 199, 299, 300, 301, 302, 303, 304, 305, 306, 307, 308, 309, 310, 311, 312, 313, 314, 315, 316, 317, 318, 319, 320] (by decide +kernel) (by decide +kernel)
set_option maxRecDepth 20000 in
theorem gX12_readStatement_X12_readRequest : GoodIn wsX12_readStatement (wsV RX12 336 RX12 yX12_readRequest wsX12_readRequest) := goodIn_app (goodIn_of _ (by decide +kernel)) ggX12_readStatement_X12_readRequest
set_option maxRecDepth 20000 in
theorem ggX12_readStatement_X12_readRenew : GoodIn wsX12_readStatement wsX12_readRenew := goodIn_r _ [243, 64, 63, 70, 71, 72, 4, 73, 74, 75, 76, 77, 78, 9, 7, 79, 6, 80, 81, 82, 83, 84, 85, 8, 86, 87, 88, 89, 90, 91, 204, 205, 206, 207, 65, 66, 67, 68, 69, 208, 209, 210, 191, 192, 193, 149, 150, 151, 152, 244, 245, 246, 217, 218, 219, 247, 248, 249, 106, 107, 108, 226, 227, 228, 156, 157, 158, 159, 133, 134, 135, 136, 250, 251, 252, 197, 198, 199, 299, 300, 301, 302, 303, 304, 305, 306, 307, 308, 309, 310, 311, 312, 313, 314, 315, 316, 317, 318, 319, 320] (by decide +kernel) (by decide +kernel)
set_option maxRecDepth 20000 in
theorem gX12_readStatement_X12_readRenew : GoodIn wsX12_readStatement (wsV RX12 341 RX12 yX12_readRenew wsX12_readRenew) := goodIn_app (goodIn_of _ (by decide +kernel)) ggX12_readStatement_X12_readRenew
set_option maxRecDepth 20000 in
theorem ggX12_readStatement_X12_readCheese : GoodIn wsX12_readStatement wsX12_readCheese := goodIn_r _ [256, 64, 63, 70, 71, 72, 4, 73, 74, 75, 76, 77, 78, 9, 7, 79, 6, 80, 81, 82, 83, 84, 85, 8, 86, 87, 88, 89, 90, 91, 204, 205, 206, 207, 65, 66, 67, 68, 69, 208, 209, 210, 191, 192, 193, 149, 150, 151, 152, 257, 258, 259, 217, 218, 219, 179, 180, 181, 182, 183, 184, 112, 113, 114, 106, 107, 108, 260, 261, 262, 263, 264, 265, 118, 119, 120, 156, 157, 158, 159, 133, 134, 135, 136, 266, 267, 268, 269, 270, 271, 299, 300, 301, 302, 303, 304, 305, 306, 307, 308, 309, 310, 311, 312, 313, 314, 315, 316, 317, 318, 319, 320] (by decide +kernel) (by decide +kernel)
set_option maxRecDepth 20000 in
theorem gX12_readStatement_X12_readCheese : GoodIn wsX12_readStatement (wsV RX12 346 RX12 yX12_readCheese wsX12_readCheese) := goodIn_app (goodIn_of _ (by decide +kernel)) ggX12_readStatement_X12_readCheese
set_option maxRecDepth 20000 in
theorem ggX12_readStatement_X12_readDrop : GoodIn wsX12_readStatement wsX12_readDrop := goodIn_r _ [275, 64, 63, 70, 71, 72, 4, 73, 74, 75, 76, 77, 78, 9, 7, 79, 6, 80, 81, 82, 83, 84, 85, 8, 86, 87, 88, 89, 90, 91, 204, 205, 206, 207, 65, 66, 67, 68, 69, 208, 209, 210, 191, 192, 193, 149, 150, 151, 152, 129, 130, 131, 132, 133, 134, 135, 136, 276, 277, 278, 299, 300, 301, 302, 303, 304, 305, 306, 307, 308, 309, 310, 311, 312, 313, 314, 315, 316, 317, 318, 319, 320] (by decide +kernel) (by decide +kernel)
set_option maxRecDepth 20000 in
theorem gX12_readStatement_X12_readDrop : GoodIn wsX12_readStatement (wsV RX12 351 RX12 yX12_readDrop wsX12_readDrop) := goodIn_app (goodIn_of _ (by decide +kernel)) ggX12_readStatement_X12_readDrop
set_option maxRecDepth 20000 in
theorem ggX12_readStatement_X12_readSweep : GoodIn wsX12_readStatement wsX12_readSweep := goodIn_r _ [282, 64, 63, 70, 71, 72, 4, 73, 74, 75, 76, 77, 78, 9, 7, 79, 6, 80, 81, 82, 83, 84, 85, 8, 86, 87, 88, 89, 90, 91, 129, 130, 131, 132, 133, 134, 135, 136, 65, 66, 67, 68, 69, 283, 284, 285, 217, 218, 219, 191, 192, 193, 276, 277, 278, 299, 300, 301, 302, 303, 304, 305, 306, 307, 308, 309, 310, 311, 312, 313, 314, 315, 316, 317, 318, 319, 320] (by decide +kernel) (by decide +kernel)
set_option maxRecDepth 20000 in
theorem gX12_readStatement_X12_readSweep : GoodIn wsX12_readStatement (wsV RX12 356 RX12 yX12_readSweep wsX12_readSweep) := goodIn_app (goodIn_of _ (by decide +kernel)) ggX12_readStatement_X12_readSweep
set_option maxRecDepth 20000 in
theorem ggX12_readStatement_X12_readPass : GoodIn wsX12_readStatement wsX12_readPass := goodIn_r _ [289, 64, 63, 70, 71, 72, 4, 73, 74, 75, 76, 77, 78, 9, 7, 79, 6, 80, 81, 82, 83, 84, 85, 8, 86, 87, 88, 89, 90, 91, 121, 122, 123, 124, 65, 66, 67, 68, 69, 129, 130, 131, 132, 133, 134, 135, 136, 290, 291, 292, 293, 294, 295, 217, 218, 219, 191, 192, 193, 296, 297, 298, 263, 264, 265, 299, 300, 301, 302, 303, 304, 305, 306, 307, 308, 309, 310, 311, 312, 313, 314, 315, 316, 317, 318, 319, 320] (by decide +kernel) (by decide +kernel)
set_option maxRecDepth 20000 in
theorem gX12_readStatement_X12_readPass : GoodIn wsX12_readStatement (wsV RX12 361 RX12 yX12_readPass wsX12_readPass) := goodIn_app (goodIn_of _ (by decide +kernel)) ggX12_readStatement_X12_readPass
set_option maxRecDepth 20000 in
theorem ggX12_readStatement_X12_check : GoodIn wsX12_readStatement wsX12_check := goodIn_r _ [68, 64, 9, 69, 299, 300, 301, 302, 303, 304, 305, 306, 307, 308, 309, 310, 311, 312, 313, 314, 315, 316, 317, 318, 319, 320] (by decide +kernel) (by decide +kernel)
set_option maxRecDepth 20000 in
theorem gX12_readStatement_X12_check : GoodIn wsX12_readStatement (wsV RX12 196 RX12 yX12_check wsX12_check) := goodIn_app (goodIn_of _ (by decide +kernel)) ggX12_readStatement_X12_check
theorem dX12_readStatement_0 : decode cX12_readStatement 0 = .ok (.aload_n 0, 1) := by decide +kernel
theorem dX12_readStatement_1 : decode cX12_readStatement 1 = .ok (.ldc_w 304, 3) := by decide +kernel
theorem dX12_readStatement_4 : decode cX12_readStatement 4 = .ok (.invokevirtual 231, 3) := by decide +kernel
theorem dX12_readStatement_7 : decode cX12_readStatement 7 = .ok (.ifCond .eq 10, 3) := by decide +kernel
theorem dX12_readStatement_10 : decode cX12_readStatement 10 = .ok (.aload_n 0, 1) := by decide +kernel
theorem dX12_readStatement_11 : decode cX12_readStatement 11 = .ok (.invokevirtual 306, 3) := by decide +kernel
theorem dX12_readStatement_14 : decode cX12_readStatement 14 = .ok (.goto 197, 3) := by decide +kernel
theorem dX12_readStatement_17 : decode cX12_readStatement 17 = .ok (.aload_n 0, 1) := by decide +kernel
theorem dX12_readStatement_18 : decode cX12_readStatement 18 = .ok (.ldc_w 309, 3) := by decide +kernel
theorem dX12_readStatement_21 : decode cX12_readStatement 21 = .ok (.invokevirtual 231, 3) := by decide +kernel
theorem dX12_readStatement_24 : decode cX12_readStatement 24 = .ok (.ifCond .eq 10, 3) := by decide +kernel
theorem dX12_readStatement_27 : decode cX12_readStatement 27 = .ok (.aload_n 0, 1) := by decide +kernel
theorem dX12_readStatement_28 : decode cX12_readStatement 28 = .ok (.invokevirtual 311, 3) := by decide +kernel
theorem dX12_readStatement_31 : decode cX12_readStatement 31 = .ok (.goto 180, 3) := by decide +kernel
theorem dX12_readStatement_34 : decode cX12_readStatement 34 = .ok (.aload_n 0, 1) := by decide +kernel
theorem dX12_readStatement_35 : decode cX12_readStatement 35 = .ok (.ldc_w 314, 3) := by decide +kernel
theorem dX12_readStatement_38 : decode cX12_readStatement 38 = .ok (.invokevirtual 231, 3) := by decide +kernel
theorem dX12_readStatement_41 : decode cX12_readStatement 41 = .ok (.ifCond .eq 10, 3) := by decide +kernel
theorem dX12_readStatement_44 : decode cX12_readStatement 44 = .ok (.aload_n 0, 1) := by decide +kernel
theorem dX12_readStatement_45 : decode cX12_readStatement 45 = .ok (.invokevirtual 316, 3) := by decide +kernel
theorem dX12_readStatement_48 : decode cX12_readStatement 48 = .ok (.goto 163, 3) := by decide +kernel
theorem dX12_readStatement_51 : decode cX12_readStatement 51 = .ok (.aload_n 0, 1) := by decide +kernel
theorem dX12_readStatement_52 : decode cX12_readStatement 52 = .ok (.ldc_w 319, 3) := by decide +kernel
theorem dX12_readStatement_55 : decode cX12_readStatement 55 = .ok (.invokevirtual 231, 3) := by decide +kernel
theorem dX12_readStatement_58 : decode cX12_readStatement 58 = .ok (.ifCond .eq 10, 3) := by decide +kernel
theorem dX12_readStatement_61 : decode cX12_readStatement 61 = .ok (.aload_n 0, 1) := by decide +kernel
theorem dX12_readStatement_62 : decode cX12_readStatement 62 = .ok (.invokevirtual 321, 3) := by decide +kernel
theorem dX12_readStatement_65 : decode cX12_readStatement 65 = .ok (.goto 146, 3) := by decide +kernel
theorem dX12_readStatement_68 : decode cX12_readStatement 68 = .ok (.aload_n 0, 1) := by decide +kernel
theorem dX12_readStatement_69 : decode cX12_readStatement 69 = .ok (.ldc_w 324, 3) := by decide +kernel
theorem dX12_readStatement_72 : decode cX12_readStatement 72 = .ok (.invokevirtual 231, 3) := by decide +kernel
theorem dX12_readStatement_75 : decode cX12_readStatement 75 = .ok (.ifCond .eq 10, 3) := by decide +kernel
theorem dX12_readStatement_78 : decode cX12_readStatement 78 = .ok (.aload_n 0, 1) := by decide +kernel
theorem dX12_readStatement_79 : decode cX12_readStatement 79 = .ok (.invokevirtual 326, 3) := by decide +kernel
theorem dX12_readStatement_82 : decode cX12_readStatement 82 = .ok (.goto 129, 3) := by decide +kernel
theorem dX12_readStatement_85 : decode cX12_readStatement 85 = .ok (.aload_n 0, 1) := by decide +kernel
theorem dX12_readStatement_86 : decode cX12_readStatement 86 = .ok (.ldc_w 329, 3) := by decide +kernel
theorem dX12_readStatement_89 : decode cX12_readStatement 89 = .ok (.invokevirtual 231, 3) := by decide +kernel
theorem dX12_readStatement_92 : decode cX12_readStatement 92 = .ok (.ifCond .eq 10, 3) := by decide +kernel
theorem dX12_readStatement_95 : decode cX12_readStatement 95 = .ok (.aload_n 0, 1) := by decide +kernel
theorem dX12_readStatement_96 : decode cX12_readStatement 96 = .ok (.invokevirtual 331, 3) := by decide +kernel
theorem dX12_readStatement_99 : decode cX12_readStatement 99 = .ok (.goto 112, 3) := by decide +kernel
theorem dX12_readStatement_102 : decode cX12_readStatement 102 = .ok (.aload_n 0, 1) := by decide +kernel
theorem dX12_readStatement_103 : decode cX12_readStatement 103 = .ok (.ldc_w 334, 3) := by decide +kernel
theorem dX12_readStatement_106 : decode cX12_readStatement 106 = .ok (.invokevirtual 231, 3) := by decide +kernel
theorem dX12_readStatement_109 : decode cX12_readStatement 109 = .ok (.ifCond .eq 10, 3) := by decide +kernel
theorem dX12_readStatement_112 : decode cX12_readStatement 112 = .ok (.aload_n 0, 1) := by decide +kernel
theorem dX12_readStatement_113 : decode cX12_readStatement 113 = .ok (.invokevirtual 336, 3) := by decide +kernel
theorem dX12_readStatement_116 : decode cX12_readStatement 116 = .ok (.goto 95, 3) := by decide +kernel
theorem dX12_readStatement_119 : decode cX12_readStatement 119 = .ok (.aload_n 0, 1) := by decide +kernel
theorem dX12_readStatement_120 : decode cX12_readStatement 120 = .ok (.ldc_w 339, 3) := by decide +kernel
theorem dX12_readStatement_123 : decode cX12_readStatement 123 = .ok (.invokevirtual 231, 3) := by decide +kernel
theorem dX12_readStatement_126 : decode cX12_readStatement 126 = .ok (.ifCond .eq 10, 3) := by decide +kernel
theorem dX12_readStatement_129 : decode cX12_readStatement 129 = .ok (.aload_n 0, 1) := by decide +kernel
theorem dX12_readStatement_130 : decode cX12_readStatement 130 = .ok (.invokevirtual 341, 3) := by decide +kernel
theorem dX12_readStatement_133 : decode cX12_readStatement 133 = .ok (.goto 78, 3) := by decide +kernel
theorem dX12_readStatement_136 : decode cX12_readStatement 136 = .ok (.aload_n 0, 1) := by decide +kernel
theorem dX12_readStatement_137 : decode cX12_readStatement 137 = .ok (.ldc_w 344, 3) := by decide +kernel
theorem dX12_readStatement_140 : decode cX12_readStatement 140 = .ok (.invokevirtual 231, 3) := by decide +kernel
theorem dX12_readStatement_143 : decode cX12_readStatement 143 = .ok (.ifCond .eq 10, 3) := by decide +kernel
theorem dX12_readStatement_146 : decode cX12_readStatement 146 = .ok (.aload_n 0, 1) := by decide +kernel
theorem dX12_readStatement_147 : decode cX12_readStatement 147 = .ok (.invokevirtual 346, 3) := by decide +kernel
theorem dX12_readStatement_150 : decode cX12_readStatement 150 = .ok (.goto 61, 3) := by decide +kernel
theorem dX12_readStatement_153 : decode cX12_readStatement 153 = .ok (.aload_n 0, 1) := by decide +kernel
theorem dX12_readStatement_154 : decode cX12_readStatement 154 = .ok (.ldc_w 349, 3) := by decide +kernel
theorem dX12_readStatement_157 : decode cX12_readStatement 157 = .ok (.invokevirtual 231, 3) := by decide +kernel
theorem dX12_readStatement_160 : decode cX12_readStatement 160 = .ok (.ifCond .eq 10, 3) := by decide +kernel
theorem dX12_readStatement_163 : decode cX12_readStatement 163 = .ok (.aload_n 0, 1) := by decide +kernel
theorem dX12_readStatement_164 : decode cX12_readStatement 164 = .ok (.invokevirtual 351, 3) := by decide +kernel
theorem dX12_readStatement_167 : decode cX12_readStatement 167 = .ok (.goto 44, 3) := by decide +kernel
theorem dX12_readStatement_170 : decode cX12_readStatement 170 = .ok (.aload_n 0, 1) := by decide +kernel
theorem dX12_readStatement_171 : decode cX12_readStatement 171 = .ok (.ldc_w 354, 3) := by decide +kernel
theorem dX12_readStatement_174 : decode cX12_readStatement 174 = .ok (.invokevirtual 231, 3) := by decide +kernel
theorem dX12_readStatement_177 : decode cX12_readStatement 177 = .ok (.ifCond .eq 10, 3) := by decide +kernel
theorem dX12_readStatement_180 : decode cX12_readStatement 180 = .ok (.aload_n 0, 1) := by decide +kernel
theorem dX12_readStatement_181 : decode cX12_readStatement 181 = .ok (.invokevirtual 356, 3) := by decide +kernel
theorem dX12_readStatement_184 : decode cX12_readStatement 184 = .ok (.goto 27, 3) := by decide +kernel
theorem dX12_readStatement_187 : decode cX12_readStatement 187 = .ok (.aload_n 0, 1) := by decide +kernel
theorem dX12_readStatement_188 : decode cX12_readStatement 188 = .ok (.ldc_w 359, 3) := by decide +kernel
theorem dX12_readStatement_191 : decode cX12_readStatement 191 = .ok (.invokevirtual 231, 3) := by decide +kernel
theorem dX12_readStatement_194 : decode cX12_readStatement 194 = .ok (.ifCond .eq 10, 3) := by decide +kernel
theorem dX12_readStatement_197 : decode cX12_readStatement 197 = .ok (.aload_n 0, 1) := by decide +kernel
theorem dX12_readStatement_198 : decode cX12_readStatement 198 = .ok (.invokevirtual 361, 3) := by decide +kernel
theorem dX12_readStatement_201 : decode cX12_readStatement 201 = .ok (.goto 10, 3) := by decide +kernel
theorem dX12_readStatement_204 : decode cX12_readStatement 204 = .ok (.aload_n 0, 1) := by decide +kernel
theorem dX12_readStatement_205 : decode cX12_readStatement 205 = .ok (.iconst 0, 1) := by decide +kernel
theorem dX12_readStatement_206 : decode cX12_readStatement 206 = .ok (.iconst 1, 1) := by decide +kernel
theorem dX12_readStatement_207 : decode cX12_readStatement 207 = .ok (.invokevirtual 196, 3) := by decide +kernel
theorem dX12_readStatement_210 : decode cX12_readStatement 210 = .ok (.pop, 1) := by decide +kernel
theorem dX12_readStatement_211 : decode cX12_readStatement 211 = .ok (.return_, 1) := by decide +kernel
set_option maxRecDepth 20000 in
theorem ggX12_read_X12_advance : GoodIn wsX12_read wsX12_advance := goodIn_r _ [10, 3, 11, 12, 13, 5, 14, 15, 16, 17, 9, 18, 19, 20, 21, 22, 23, 24, 25, 26, 303, 304, 305, 306, 307, 308, 309, 310, 311, 312, 313, 314, 315, 316, 317, 318, 319, 320, 321, 322, 323, 324] (by decide +kernel) (by decide +kernel)
set_option maxRecDepth 20000 in
theorem gX12_read_X12_advance : GoodIn wsX12_read (wsV RX12 193 RX12 yX12_advance wsX12_advance) := goodIn_app (goodIn_of _ (by decide +kernel)) ggX12_read_X12_advance
set_option maxRecDepth 20000 in
theorem ggX12_read_X12_is : GoodIn wsX12_read wsX12_is := goodIn_r _ [30, 5, 12, 20, 11, 31, 32, 33, 34, 35, 36, 37, 38, 39, 40, 41, 42, 43, 44, 45, 46, 47, 48, 49, 50, 51, 52, 53, 54, 55, 56, 57, 58, 59, 60, 61, 62, 63, 64, 65, 66, 67, 68, 69, 70, 71, 72, 73, 74, 75, 76, 77, 78, 79, 303, 304, 305, 306, 307, 308, 309, 310, 311, 312, 313, 314, 315, 316, 317, 318, 319, 320, 321, 322, 323, 324] (by decide +kernel) (by decide +kernel)
set_option maxRecDepth 20000 in
theorem gX12_read_X12_is : GoodIn wsX12_read (wsV RX12 231 RX12 yX12_is wsX12_is) := goodIn_app (goodIn_of _ (by decide +kernel)) ggX12_read_X12_is
set_option maxRecDepth 20000 in
theorem ggX12_read_X12_check : GoodIn wsX12_read wsX12_check := goodIn_r _ [83, 1, 11, 2, 303, 304, 305, 306, 307, 308, 309, 310, 311, 312, 313, 314, 315, 316, 317, 318, 319, 320, 321, 322, 323, 324] (by decide +kernel) (by decide +kernel)
set_option maxRecDepth 20000 in
theorem gX12_read_X12_check : GoodIn wsX12_read (wsV RX12 196 RX12 yX12_check wsX12_check) := goodIn_app (goodIn_of _ (by decide +kernel)) ggX12_read_X12_check
set_option maxRecDepth 20000 in
theorem ggX12_read_X12_next : GoodIn wsX12_read wsX12_next := goodIn_r _ [87, 1, 6, 7, 8, 9, 10, 3, 11, 12, 13, 5, 14, 15, 16, 17, 18, 19, 20, 21, 22, 23, 24, 25, 26, 303, 304, 305, 306, 307, 308, 309, 310, 311, 312, 313, 314, 315, 316, 317, 318, 319, 320, 321, 322, 323, 324] (by decide +kernel) (by decide +kernel)
set_option maxRecDepth 20000 in
theorem gX12_read_X12_next : GoodIn wsX12_read (wsV RX12 199 RX12 yX12_next wsX12_next) := goodIn_app (goodIn_of _ (by decide +kernel)) ggX12_read_X12_next
set_option maxRecDepth 20000 in
theorem ggX12_read_X12_number : GoodIn wsX12_read wsX12_number := goodIn_r _ [91, 5, 13, 1, 80, 81, 82, 9, 83, 11, 2, 24, 25, 26, 84, 85, 86, 87, 6, 7, 8, 10, 3, 12, 14, 15, 16, 17, 18, 19, 20, 21, 22, 23, 303, 304, 305, 306, 307, 308, 309, 310, 311, 312, 313, 314, 315, 316, 317, 318, 319, 320, 321, 322, 323, 324] (by decide +kernel) (by decide +kernel)
set_option maxRecDepth 20000 in
theorem gX12_read_X12_number : GoodIn wsX12_read (wsV RX12 239 RX12 yX12_number wsX12_number) := goodIn_app (goodIn_of _ (by decide +kernel)) ggX12_read_X12_number
set_option maxRecDepth 20000 in
theorem ggX12_read_X12_finish : GoodIn wsX12_read wsX12_finish := goodIn_r _ [95, 96, 97, 98, 9, 99, 5, 20, 11, 80, 81, 82, 83, 1, 2, 84, 85, 86, 87, 6, 7, 8, 10, 3, 12, 13, 14, 15, 16, 17, 18, 19, 21, 22, 23, 24, 25, 26, 303, 304, 305, 306, 307, 308, 309, 310, 311, 312, 313, 314, 315, 316, 317, 318, 319, 320, 321, 322, 323, 324] (by decide +kernel) (by decide +kernel)
set_option maxRecDepth 20000 in
theorem gX12_read_X12_finish : GoodIn wsX12_read (wsV RX12 248 RX12 yX12_finish wsX12_finish) := goodIn_app (goodIn_of _ (by decide +kernel)) ggX12_read_X12_finish
set_option maxRecDepth 20000 in
theorem ggX12_read_X12_readStatement : GoodIn wsX12_read wsX12_readStatement := goodIn_r _ [103, 27, 28, 29, 9, 30, 5, 12, 20, 11, 31, 32, 33, 34, 35, 36, 37, 38, 39, 40, 41, 42, 43, 44, 45, 46, 47, 48, 49, 50, 51, 52, 53, 54, 55, 56, 57, 58, 59, 60, 61, 62, 63, 64, 65, 66, 67, 68, 69, 70, 71, 72, 73, 74, 75, 76, 77, 78, 79, 104, 105, 106, 107, 4, 1, 80, 81, 82, 83, 2, 84, 85, 86, 87, 6, 7, 8, 10, 3, 13, 14, 15, 16, 17, 18, 19, 21, 22, 23, 24, 25, 26, 108, 109, 110, 111, 112, 113, 114, 115, 116, 117, 118, 119, 120, 121, 122, 123, 124, 125, 126, 127, 128, 129, 130, 131, 132, 133, 134, 135, 136, 88, 89, 90, 91, 137, 138, 139, 140, 92, 93, 94, 95, 96, 97, 98, 99, 141, 142, 143, 144, 145, 146, 147, 148, 149, 150, 151, 152, 153, 154, 155, 156, 157, 158, 159, 160, 161, 162, 163, 164, 165, 166, 167, 168, 169, 170, 171, 172, 173, 174, 175, 176, 177, 178, 179, 180, 181, 182, 183, 184, 185, 186, 187, 188, 189, 190, 191, 192, 193, 194, 195, 196, 197, 198, 199, 200, 201, 202, 203, 204, 205, 206, 207, 208, 209, 210, 211, 212, 213, 214, 215, 216, 217, 218, 219, 220, 221, 222, 223, 224, 225, 226, 227, 228, 229, 230, 231, 232, 233, 234, 235, 236, 237, 238, 239, 240, 241, 242, 243, 244, 245, 246, 247, 248, 249, 250, 251, 252, 253, 254, 255, 256, 257, 258, 259, 260, 261, 262, 263, 264, 265, 266, 267, 268, 269, 270, 271, 272, 273, 274, 275, 276, 277, 278, 279, 280, 281, 282, 283, 284, 285, 286, 287, 288, 289, 290, 291, 292, 293, 294, 295, 296, 297, 298, 299, 300, 301, 302, 303, 304, 305, 306, 307, 308, 309, 310, 311, 312, 313, 314, 315, 316, 317, 318, 319, 320, 321, 322, 323, 324] (by decide +kernel) (by decide +kernel)
set_option maxRecDepth 20000 in
theorem gX12_read_X12_readStatement : GoodIn wsX12_read (wsV RX12 366 RX12 yX12_readStatement wsX12_readStatement) := goodIn_app (goodIn_of _ (by decide +kernel)) ggX12_read_X12_readStatement
theorem dX12_read_0 : decode cX12_read 0 = .ok (.aload_n 0, 1) := by decide +kernel
theorem dX12_read_1 : decode cX12_read 1 = .ok (.iconst 0, 1) := by decide +kernel
theorem dX12_read_2 : decode cX12_read 2 = .ok (.putfield 164, 3) := by decide +kernel
theorem dX12_read_5 : decode cX12_read 5 = .ok (.aload_n 0, 1) := by decide +kernel
theorem dX12_read_6 : decode cX12_read 6 = .ok (.iconst (-1), 1) := by decide +kernel
theorem dX12_read_7 : decode cX12_read 7 = .ok (.putfield 35, 3) := by decide +kernel
theorem dX12_read_10 : decode cX12_read 10 = .ok (.aload_n 0, 1) := by decide +kernel
theorem dX12_read_11 : decode cX12_read 11 = .ok (.iconst 0, 1) := by decide +kernel
theorem dX12_read_12 : decode cX12_read 12 = .ok (.putfield 170, 3) := by decide +kernel
theorem dX12_read_15 : decode cX12_read 15 = .ok (.iconst 0, 1) := by decide +kernel
theorem dX12_read_16 : decode cX12_read 16 = .ok (.istore_n 1, 1) := by decide +kernel
theorem dX12_read_17 : decode cX12_read 17 = .ok (.iload_n 1, 1) := by decide +kernel
theorem dX12_read_18 : decode cX12_read 18 = .ok (.sipush 463, 3) := by decide +kernel
theorem dX12_read_21 : decode cX12_read 21 = .ok (.if_icmp .ge 16, 3) := by decide +kernel
theorem dX12_read_24 : decode cX12_read 24 = .ok (.aload_n 0, 1) := by decide +kernel
theorem dX12_read_25 : decode cX12_read 25 = .ok (.getfield 13, 3) := by decide +kernel
theorem dX12_read_28 : decode cX12_read 28 = .ok (.iload_n 1, 1) := by decide +kernel
theorem dX12_read_29 : decode cX12_read 29 = .ok (.iconst 0, 1) := by decide +kernel
theorem dX12_read_30 : decode cX12_read 30 = .ok (.iastore, 1) := by decide +kernel
theorem dX12_read_31 : decode cX12_read 31 = .ok (.iinc 1 1, 3) := by decide +kernel
theorem dX12_read_34 : decode cX12_read 34 = .ok (.goto (-17), 3) := by decide +kernel
theorem dX12_read_37 : decode cX12_read 37 = .ok (.aload_n 0, 1) := by decide +kernel
theorem dX12_read_38 : decode cX12_read 38 = .ok (.invokevirtual 193, 3) := by decide +kernel
theorem dX12_read_41 : decode cX12_read 41 = .ok (.aload_n 0, 1) := by decide +kernel
theorem dX12_read_42 : decode cX12_read 42 = .ok (.aload_n 0, 1) := by decide +kernel
theorem dX12_read_43 : decode cX12_read 43 = .ok (.ldc_w 364, 3) := by decide +kernel
theorem dX12_read_46 : decode cX12_read 46 = .ok (.invokevirtual 231, 3) := by decide +kernel
theorem dX12_read_49 : decode cX12_read 49 = .ok (.iconst 1, 1) := by decide +kernel
theorem dX12_read_50 : decode cX12_read 50 = .ok (.invokevirtual 196, 3) := by decide +kernel
theorem dX12_read_53 : decode cX12_read 53 = .ok (.pop, 1) := by decide +kernel
theorem dX12_read_54 : decode cX12_read 54 = .ok (.aload_n 0, 1) := by decide +kernel
theorem dX12_read_55 : decode cX12_read 55 = .ok (.invokevirtual 199, 3) := by decide +kernel
theorem dX12_read_58 : decode cX12_read 58 = .ok (.aload_n 0, 1) := by decide +kernel
theorem dX12_read_59 : decode cX12_read 59 = .ok (.getfield 13, 3) := by decide +kernel
theorem dX12_read_62 : decode cX12_read 62 = .ok (.iconst 1, 1) := by decide +kernel
theorem dX12_read_63 : decode cX12_read 63 = .ok (.aload_n 0, 1) := by decide +kernel
theorem dX12_read_64 : decode cX12_read 64 = .ok (.iconst 0, 1) := by decide +kernel
theorem dX12_read_65 : decode cX12_read 65 = .ok (.bipush 9, 2) := by decide +kernel
theorem dX12_read_67 : decode cX12_read 67 = .ok (.invokevirtual 239, 3) := by decide +kernel
theorem dX12_read_70 : decode cX12_read 70 = .ok (.iastore, 1) := by decide +kernel
theorem dX12_read_71 : decode cX12_read 71 = .ok (.aload_n 0, 1) := by decide +kernel
theorem dX12_read_72 : decode cX12_read 72 = .ok (.getfield 13, 3) := by decide +kernel
theorem dX12_read_75 : decode cX12_read 75 = .ok (.iconst 2, 1) := by decide +kernel
theorem dX12_read_76 : decode cX12_read 76 = .ok (.aload_n 0, 1) := by decide +kernel
theorem dX12_read_77 : decode cX12_read 77 = .ok (.iconst 0, 1) := by decide +kernel
theorem dX12_read_78 : decode cX12_read 78 = .ok (.sipush 1023, 3) := by decide +kernel
theorem dX12_read_81 : decode cX12_read 81 = .ok (.invokevirtual 239, 3) := by decide +kernel
theorem dX12_read_84 : decode cX12_read 84 = .ok (.iastore, 1) := by decide +kernel
theorem dX12_read_85 : decode cX12_read 85 = .ok (.aload_n 0, 1) := by decide +kernel
theorem dX12_read_86 : decode cX12_read 86 = .ok (.invokevirtual 248, 3) := by decide +kernel
theorem dX12_read_89 : decode cX12_read 89 = .ok (.aload_n 0, 1) := by decide +kernel
theorem dX12_read_90 : decode cX12_read 90 = .ok (.getfield 164, 3) := by decide +kernel
theorem dX12_read_93 : decode cX12_read 93 = .ok (.ifCond .ne 17, 3) := by decide +kernel
theorem dX12_read_96 : decode cX12_read 96 = .ok (.aload_n 0, 1) := by decide +kernel
theorem dX12_read_97 : decode cX12_read 97 = .ok (.getfield 185, 3) := by decide +kernel
theorem dX12_read_100 : decode cX12_read 100 = .ok (.ifCond .eq 10, 3) := by decide +kernel
theorem dX12_read_103 : decode cX12_read 103 = .ok (.aload_n 0, 1) := by decide +kernel
theorem dX12_read_104 : decode cX12_read 104 = .ok (.invokevirtual 366, 3) := by decide +kernel
theorem dX12_read_107 : decode cX12_read 107 = .ok (.goto (-18), 3) := by decide +kernel
theorem dX12_read_110 : decode cX12_read 110 = .ok (.return_, 1) := by decide +kernel
set_option maxRecDepth 20000 in
theorem ggX12_load_X12_read : GoodIn wsX12_load wsX12_read := goodIn_r _ [10, 3, 11, 12, 4, 13, 14, 15, 16, 9, 17, 18, 19, 20, 21, 22, 23, 24, 25, 2, 26, 27, 28, 29, 30, 31, 32, 33, 34, 35, 36, 37, 38, 39, 40, 41, 42, 43, 44, 45, 46, 47, 48, 49, 50, 51, 52, 53, 54, 55, 56, 57, 58, 59, 60, 61, 62, 63, 64, 65, 66, 67, 68, 69, 70, 71, 72, 73, 74, 75, 76, 77, 78, 79, 80, 81, 82, 83, 84, 85, 86, 87, 88, 89, 90, 91, 92, 93, 94, 95, 96, 97, 98, 99, 100, 101, 102, 103, 104, 105, 106, 107, 108, 109, 110, 111, 112, 113, 114, 115, 116, 117, 118, 119, 120, 121, 122, 123, 124, 125, 126, 127, 128, 129, 130, 131, 132, 133, 134, 135, 136, 137, 138, 139, 140, 141, 142, 143, 144, 145, 146, 147, 148, 149, 150, 151, 152, 153, 154, 155, 156, 157, 158, 159, 160, 161, 162, 163, 164, 165, 166, 167, 168, 169, 170, 171, 172, 173, 174, 175, 176, 177, 178, 179, 180, 181, 182, 183, 184, 185, 186, 187, 188, 189, 190, 191, 192, 193, 194, 195, 196, 197, 198, 199, 200, 201, 202, 203, 204, 205, 206, 207, 208, 209, 210, 211, 212, 213, 214, 215, 216, 217, 218, 219, 220, 221, 222, 223, 224, 225, 226, 227, 228, 229, 230, 231, 232, 233, 234, 235, 236, 237, 238, 239, 240, 241, 242, 243, 244, 245, 246, 247, 248, 249, 250, 251, 252, 253, 254, 255, 256, 257, 258, 259, 260, 261, 262, 263, 264, 265, 266, 267, 268, 269, 270, 271, 272, 273, 274, 275, 276, 277, 278, 279, 280, 281, 282, 283, 284, 285, 286, 287, 288, 289, 290, 291, 292, 293, 294, 295, 296, 297, 298, 299, 300, 301, 302, 303, 304, 305, 306, 307, 308, 323, 324, 325, 326, 327, 328, 329, 330, 331, 332, 333, 334, 335, 336, 337, 338, 339, 340, 341, 342, 343, 344] (by decide +kernel) (by decide +kernel)
set_option maxRecDepth 20000 in
theorem gX12_load_X12_read : GoodIn wsX12_load (wsV RX12 52 RX12 yX12_read wsX12_read) := goodIn_app (goodIn_of _ (by decide +kernel)) ggX12_load_X12_read
set_option maxRecDepth 20000 in
theorem ggX12_load_X12_refuses : GoodIn wsX12_load wsX12_refuses := goodIn_r _ [312, 1, 323, 324, 325, 326, 327, 328, 329, 330, 331, 332, 333, 334, 335, 336, 337, 338, 339, 340, 341, 342, 343, 344] (by decide +kernel) (by decide +kernel)
set_option maxRecDepth 20000 in
theorem gX12_load_X12_refuses : GoodIn wsX12_load (wsV RX12 152 RX12 yX12_refuses wsX12_refuses) := goodIn_app (goodIn_of _ (by decide +kernel)) ggX12_load_X12_refuses
set_option maxRecDepth 20000 in
theorem ggX12_load_X12_remember : GoodIn wsX12_load wsX12_remember := goodIn_r _ [316, 317, 318, 5, 319, 320, 321, 9, 322, 323, 324, 325, 326, 327, 328, 329, 330, 331, 332, 333, 334, 335, 336, 337, 338, 339, 340, 341, 342, 343, 344] (by decide +kernel) (by decide +kernel)
set_option maxRecDepth 20000 in
theorem gX12_load_X12_remember : GoodIn wsX12_load (wsV RX12 369 RX12 yX12_remember wsX12_remember) := goodIn_app (goodIn_of _ (by decide +kernel)) ggX12_load_X12_remember
set_option maxRecDepth 20000 in
theorem ggX12_load_X12_copyRow : GoodIn wsX12_load wsX12_copyRow := goodIn_r _ [322] (by decide +kernel) (by decide +kernel)
set_option maxRecDepth 20000 in
theorem gX12_load_X12_copyRow : GoodIn wsX12_load (va_wsS RX12 58 yX12_copyRow wsX12_copyRow) := goodIn_app (goodIn_of _ (by decide +kernel)) ggX12_load_X12_copyRow
theorem dX12_load_0 : decode cX12_load 0 = .ok (.aload_n 0, 1) := by decide +kernel
theorem dX12_load_1 : decode cX12_load 1 = .ok (.iconst 0, 1) := by decide +kernel
theorem dX12_load_2 : decode cX12_load 2 = .ok (.putfield 72, 3) := by decide +kernel
theorem dX12_load_5 : decode cX12_load 5 = .ok (.aload_n 0, 1) := by decide +kernel
theorem dX12_load_6 : decode cX12_load 6 = .ok (.invokevirtual 52, 3) := by decide +kernel
theorem dX12_load_9 : decode cX12_load 9 = .ok (.aload_n 0, 1) := by decide +kernel
theorem dX12_load_10 : decode cX12_load 10 = .ok (.iconst 0, 1) := by decide +kernel
theorem dX12_load_11 : decode cX12_load 11 = .ok (.putfield 55, 3) := by decide +kernel
theorem dX12_load_14 : decode cX12_load 14 = .ok (.aload_n 0, 1) := by decide +kernel
theorem dX12_load_15 : decode cX12_load 15 = .ok (.aload_n 0, 1) := by decide +kernel
theorem dX12_load_16 : decode cX12_load 16 = .ok (.getfield 164, 3) := by decide +kernel
theorem dX12_load_19 : decode cX12_load 19 = .ok (.ifCond .eq 7, 3) := by decide +kernel
theorem dX12_load_22 : decode cX12_load 22 = .ok (.iconst 1, 1) := by decide +kernel
theorem dX12_load_23 : decode cX12_load 23 = .ok (.goto 4, 3) := by decide +kernel
theorem dX12_load_26 : decode cX12_load 26 = .ok (.iconst 0, 1) := by decide +kernel
theorem dX12_load_27 : decode cX12_load 27 = .ok (.iconst 1, 1) := by decide +kernel
theorem dX12_load_28 : decode cX12_load 28 = .ok (.invokevirtual 152, 3) := by decide +kernel
theorem dX12_load_31 : decode cX12_load 31 = .ok (.ifCond .eq 5, 3) := by decide +kernel
theorem dX12_load_34 : decode cX12_load 34 = .ok (.iconst 0, 1) := by decide +kernel
theorem dX12_load_35 : decode cX12_load 35 = .ok (.ireturn, 1) := by decide +kernel
theorem dX12_load_36 : decode cX12_load 36 = .ok (.aload_n 0, 1) := by decide +kernel
theorem dX12_load_37 : decode cX12_load 37 = .ok (.invokevirtual 369, 3) := by decide +kernel
theorem dX12_load_40 : decode cX12_load 40 = .ok (.aload_n 0, 1) := by decide +kernel
theorem dX12_load_41 : decode cX12_load 41 = .ok (.getfield 13, 3) := by decide +kernel
theorem dX12_load_44 : decode cX12_load 44 = .ok (.iconst 0, 1) := by decide +kernel
theorem dX12_load_45 : decode cX12_load 45 = .ok (.aload_n 0, 1) := by decide +kernel
theorem dX12_load_46 : decode cX12_load 46 = .ok (.getfield 7, 3) := by decide +kernel
theorem dX12_load_49 : decode cX12_load 49 = .ok (.iconst 0, 1) := by decide +kernel
theorem dX12_load_50 : decode cX12_load 50 = .ok (.invokestatic 58, 3) := by decide +kernel
theorem dX12_load_53 : decode cX12_load 53 = .ok (.aload_n 0, 1) := by decide +kernel
theorem dX12_load_54 : decode cX12_load 54 = .ok (.getfield 7, 3) := by decide +kernel
theorem dX12_load_57 : decode cX12_load 57 = .ok (.bipush 6, 2) := by decide +kernel
theorem dX12_load_59 : decode cX12_load 59 = .ok (.iaload, 1) := by decide +kernel
theorem dX12_load_60 : decode cX12_load 60 = .ok (.ireturn, 1) := by decide +kernel
set_option maxRecDepth 20000 in
theorem ggX12_remember_X12_copyRow : GoodIn wsX12_remember wsX12_copyRow := goodIn_r _ [8] (by decide +kernel) (by decide +kernel)
set_option maxRecDepth 20000 in
theorem gX12_remember_X12_copyRow : GoodIn wsX12_remember (va_wsS RX12 58 yX12_copyRow wsX12_copyRow) := goodIn_app (goodIn_of _ (by decide +kernel)) ggX12_remember_X12_copyRow
theorem dX12_remember_0 : decode cX12_remember 0 = .ok (.aload_n 0, 1) := by decide +kernel
theorem dX12_remember_1 : decode cX12_remember 1 = .ok (.getfield 372, 3) := by decide +kernel
theorem dX12_remember_4 : decode cX12_remember 4 = .ok (.bipush 8, 2) := by decide +kernel
theorem dX12_remember_6 : decode cX12_remember 6 = .ok (.if_icmp .ne 26, 3) := by decide +kernel
theorem dX12_remember_9 : decode cX12_remember 9 = .ok (.aload_n 0, 1) := by decide +kernel
theorem dX12_remember_10 : decode cX12_remember 10 = .ok (.aload_n 0, 1) := by decide +kernel
theorem dX12_remember_11 : decode cX12_remember 11 = .ok (.getfield 375, 3) := by decide +kernel
theorem dX12_remember_14 : decode cX12_remember 14 = .ok (.iconst 1, 1) := by decide +kernel
theorem dX12_remember_15 : decode cX12_remember 15 = .ok (.iadd, 1) := by decide +kernel
theorem dX12_remember_16 : decode cX12_remember 16 = .ok (.bipush 8, 2) := by decide +kernel
theorem dX12_remember_18 : decode cX12_remember 18 = .ok (.irem, 1) := by decide +kernel
theorem dX12_remember_19 : decode cX12_remember 19 = .ok (.putfield 375, 3) := by decide +kernel
theorem dX12_remember_22 : decode cX12_remember 22 = .ok (.aload_n 0, 1) := by decide +kernel
theorem dX12_remember_23 : decode cX12_remember 23 = .ok (.dup, 1) := by decide +kernel
theorem dX12_remember_24 : decode cX12_remember 24 = .ok (.getfield 372, 3) := by decide +kernel
theorem dX12_remember_27 : decode cX12_remember 27 = .ok (.iconst 1, 1) := by decide +kernel
theorem dX12_remember_28 : decode cX12_remember 28 = .ok (.isub, 1) := by decide +kernel
theorem dX12_remember_29 : decode cX12_remember 29 = .ok (.putfield 372, 3) := by decide +kernel
theorem dX12_remember_32 : decode cX12_remember 32 = .ok (.aload_n 0, 1) := by decide +kernel
theorem dX12_remember_33 : decode cX12_remember 33 = .ok (.getfield 7, 3) := by decide +kernel
theorem dX12_remember_36 : decode cX12_remember 36 = .ok (.iconst 0, 1) := by decide +kernel
theorem dX12_remember_37 : decode cX12_remember 37 = .ok (.aload_n 0, 1) := by decide +kernel
theorem dX12_remember_38 : decode cX12_remember 38 = .ok (.getfield 19, 3) := by decide +kernel
theorem dX12_remember_41 : decode cX12_remember 41 = .ok (.sipush 463, 3) := by decide +kernel
theorem dX12_remember_44 : decode cX12_remember 44 = .ok (.aload_n 0, 1) := by decide +kernel
theorem dX12_remember_45 : decode cX12_remember 45 = .ok (.getfield 375, 3) := by decide +kernel
theorem dX12_remember_48 : decode cX12_remember 48 = .ok (.aload_n 0, 1) := by decide +kernel
theorem dX12_remember_49 : decode cX12_remember 49 = .ok (.getfield 372, 3) := by decide +kernel
theorem dX12_remember_52 : decode cX12_remember 52 = .ok (.iadd, 1) := by decide +kernel
theorem dX12_remember_53 : decode cX12_remember 53 = .ok (.bipush 8, 2) := by decide +kernel
theorem dX12_remember_55 : decode cX12_remember 55 = .ok (.irem, 1) := by decide +kernel
theorem dX12_remember_56 : decode cX12_remember 56 = .ok (.imul, 1) := by decide +kernel
theorem dX12_remember_57 : decode cX12_remember 57 = .ok (.invokestatic 58, 3) := by decide +kernel
theorem dX12_remember_60 : decode cX12_remember 60 = .ok (.aload_n 0, 1) := by decide +kernel
theorem dX12_remember_61 : decode cX12_remember 61 = .ok (.dup, 1) := by decide +kernel
theorem dX12_remember_62 : decode cX12_remember 62 = .ok (.getfield 372, 3) := by decide +kernel
theorem dX12_remember_65 : decode cX12_remember 65 = .ok (.iconst 1, 1) := by decide +kernel
theorem dX12_remember_66 : decode cX12_remember 66 = .ok (.iadd, 1) := by decide +kernel
theorem dX12_remember_67 : decode cX12_remember 67 = .ok (.putfield 372, 3) := by decide +kernel
theorem dX12_remember_70 : decode cX12_remember 70 = .ok (.return_, 1) := by decide +kernel
set_option maxRecDepth 20000 in
theorem ggX12_undo_X12_refuses : GoodIn wsX12_undo wsX12_refuses := goodIn_r _ [10, 1, 14, 15, 16, 17, 18, 19, 20, 21, 22, 23, 24, 25, 26, 27, 28, 29, 30, 31, 32, 33, 34, 35] (by decide +kernel) (by decide +kernel)
set_option maxRecDepth 20000 in
theorem gX12_undo_X12_refuses : GoodIn wsX12_undo (wsV RX12 152 RX12 yX12_refuses wsX12_refuses) := goodIn_app (goodIn_of _ (by decide +kernel)) ggX12_undo_X12_refuses
set_option maxRecDepth 20000 in
theorem ggX12_undo_X12_copyRow : GoodIn wsX12_undo wsX12_copyRow := goodIn_r _ [13] (by decide +kernel) (by decide +kernel)
set_option maxRecDepth 20000 in
theorem gX12_undo_X12_copyRow : GoodIn wsX12_undo (va_wsS RX12 58 yX12_copyRow wsX12_copyRow) := goodIn_app (goodIn_of _ (by decide +kernel)) ggX12_undo_X12_copyRow
theorem dX12_undo_0 : decode cX12_undo 0 = .ok (.aload_n 0, 1) := by decide +kernel
theorem dX12_undo_1 : decode cX12_undo 1 = .ok (.iconst 0, 1) := by decide +kernel
theorem dX12_undo_2 : decode cX12_undo 2 = .ok (.putfield 72, 3) := by decide +kernel
theorem dX12_undo_5 : decode cX12_undo 5 = .ok (.aload_n 0, 1) := by decide +kernel
theorem dX12_undo_6 : decode cX12_undo 6 = .ok (.aload_n 0, 1) := by decide +kernel
theorem dX12_undo_7 : decode cX12_undo 7 = .ok (.getfield 372, 3) := by decide +kernel
theorem dX12_undo_10 : decode cX12_undo 10 = .ok (.ifCond .ne 7, 3) := by decide +kernel
theorem dX12_undo_13 : decode cX12_undo 13 = .ok (.iconst 1, 1) := by decide +kernel
theorem dX12_undo_14 : decode cX12_undo 14 = .ok (.goto 4, 3) := by decide +kernel
theorem dX12_undo_17 : decode cX12_undo 17 = .ok (.iconst 0, 1) := by decide +kernel
theorem dX12_undo_18 : decode cX12_undo 18 = .ok (.iconst 1, 1) := by decide +kernel
theorem dX12_undo_19 : decode cX12_undo 19 = .ok (.invokevirtual 152, 3) := by decide +kernel
theorem dX12_undo_22 : decode cX12_undo 22 = .ok (.ifCond .eq 5, 3) := by decide +kernel
theorem dX12_undo_25 : decode cX12_undo 25 = .ok (.iconst 0, 1) := by decide +kernel
theorem dX12_undo_26 : decode cX12_undo 26 = .ok (.ireturn, 1) := by decide +kernel
theorem dX12_undo_27 : decode cX12_undo 27 = .ok (.aload_n 0, 1) := by decide +kernel
theorem dX12_undo_28 : decode cX12_undo 28 = .ok (.dup, 1) := by decide +kernel
theorem dX12_undo_29 : decode cX12_undo 29 = .ok (.getfield 372, 3) := by decide +kernel
theorem dX12_undo_32 : decode cX12_undo 32 = .ok (.iconst 1, 1) := by decide +kernel
theorem dX12_undo_33 : decode cX12_undo 33 = .ok (.isub, 1) := by decide +kernel
theorem dX12_undo_34 : decode cX12_undo 34 = .ok (.putfield 372, 3) := by decide +kernel
theorem dX12_undo_37 : decode cX12_undo 37 = .ok (.aload_n 0, 1) := by decide +kernel
theorem dX12_undo_38 : decode cX12_undo 38 = .ok (.getfield 19, 3) := by decide +kernel
theorem dX12_undo_41 : decode cX12_undo 41 = .ok (.sipush 463, 3) := by decide +kernel
theorem dX12_undo_44 : decode cX12_undo 44 = .ok (.aload_n 0, 1) := by decide +kernel
theorem dX12_undo_45 : decode cX12_undo 45 = .ok (.getfield 375, 3) := by decide +kernel
theorem dX12_undo_48 : decode cX12_undo 48 = .ok (.aload_n 0, 1) := by decide +kernel
theorem dX12_undo_49 : decode cX12_undo 49 = .ok (.getfield 372, 3) := by decide +kernel
theorem dX12_undo_52 : decode cX12_undo 52 = .ok (.iadd, 1) := by decide +kernel
theorem dX12_undo_53 : decode cX12_undo 53 = .ok (.bipush 8, 2) := by decide +kernel
theorem dX12_undo_55 : decode cX12_undo 55 = .ok (.irem, 1) := by decide +kernel
theorem dX12_undo_56 : decode cX12_undo 56 = .ok (.imul, 1) := by decide +kernel
theorem dX12_undo_57 : decode cX12_undo 57 = .ok (.aload_n 0, 1) := by decide +kernel
theorem dX12_undo_58 : decode cX12_undo 58 = .ok (.getfield 7, 3) := by decide +kernel
theorem dX12_undo_61 : decode cX12_undo 61 = .ok (.iconst 0, 1) := by decide +kernel
theorem dX12_undo_62 : decode cX12_undo 62 = .ok (.invokestatic 58, 3) := by decide +kernel
theorem dX12_undo_65 : decode cX12_undo 65 = .ok (.aload_n 0, 1) := by decide +kernel
theorem dX12_undo_66 : decode cX12_undo 66 = .ok (.getfield 372, 3) := by decide +kernel
theorem dX12_undo_69 : decode cX12_undo 69 = .ok (.ireturn, 1) := by decide +kernel
set_option maxRecDepth 20000 in
theorem ggX12_noNumber_X12_isBetween : GoodIn wsX12_noNumber wsX12_isBetween := goodIn_r _ [5] (by decide +kernel) (by decide +kernel)
set_option maxRecDepth 20000 in
theorem gX12_noNumber_X12_isBetween : GoodIn wsX12_noNumber (va_wsS RX12 167 yX12_isBetween wsX12_isBetween) := goodIn_app (goodIn_of _ (by decide +kernel)) ggX12_noNumber_X12_isBetween
set_option maxRecDepth 20000 in
theorem ggX12_noNumber_X12_refuses : GoodIn wsX12_noNumber wsX12_refuses := goodIn_r _ [9, 1, 10, 11, 12, 13, 14, 15, 16, 17, 18, 19, 20, 21, 22, 23, 24, 25, 26, 27, 28, 29, 30, 31] (by decide +kernel) (by decide +kernel)
set_option maxRecDepth 20000 in
theorem gX12_noNumber_X12_refuses : GoodIn wsX12_noNumber (wsV RX12 152 RX12 yX12_refuses wsX12_refuses) := goodIn_app (goodIn_of _ (by decide +kernel)) ggX12_noNumber_X12_refuses
theorem dX12_noNumber_0 : decode cX12_noNumber 0 = .ok (.aload_n 0, 1) := by decide +kernel
theorem dX12_noNumber_1 : decode cX12_noNumber 1 = .ok (.iconst 0, 1) := by decide +kernel
theorem dX12_noNumber_2 : decode cX12_noNumber 2 = .ok (.putfield 72, 3) := by decide +kernel
theorem dX12_noNumber_5 : decode cX12_noNumber 5 = .ok (.aload_n 0, 1) := by decide +kernel
theorem dX12_noNumber_6 : decode cX12_noNumber 6 = .ok (.iload_n 1, 1) := by decide +kernel
theorem dX12_noNumber_7 : decode cX12_noNumber 7 = .ok (.iload_n 2, 1) := by decide +kernel
theorem dX12_noNumber_8 : decode cX12_noNumber 8 = .ok (.iload_n 3, 1) := by decide +kernel
theorem dX12_noNumber_9 : decode cX12_noNumber 9 = .ok (.invokestatic 167, 3) := by decide +kernel
theorem dX12_noNumber_12 : decode cX12_noNumber 12 = .ok (.ifCond .ne 7, 3) := by decide +kernel
theorem dX12_noNumber_15 : decode cX12_noNumber 15 = .ok (.iconst 1, 1) := by decide +kernel
theorem dX12_noNumber_16 : decode cX12_noNumber 16 = .ok (.goto 4, 3) := by decide +kernel
theorem dX12_noNumber_19 : decode cX12_noNumber 19 = .ok (.iconst 0, 1) := by decide +kernel
theorem dX12_noNumber_20 : decode cX12_noNumber 20 = .ok (.iconst 1, 1) := by decide +kernel
theorem dX12_noNumber_21 : decode cX12_noNumber 21 = .ok (.invokevirtual 152, 3) := by decide +kernel
theorem dX12_noNumber_24 : decode cX12_noNumber 24 = .ok (.ireturn, 1) := by decide +kernel
set_option maxRecDepth 20000 in
theorem ggX12_noRealm_X12_noNumber : GoodIn wsX12_noRealm wsX12_noNumber := goodIn_r _ [6, 7, 8, 9, 5, 10, 11, 12, 13, 14, 15, 16, 17, 18, 19, 20, 21, 22, 23, 24, 25, 26, 27, 28, 29, 30, 31, 32, 33, 34, 35, 36] (by decide +kernel) (by decide +kernel)
set_option maxRecDepth 20000 in
theorem gX12_noRealm_X12_noNumber : GoodIn wsX12_noRealm (wsV RX12 160 RX12 yX12_noNumber wsX12_noNumber) := goodIn_app (goodIn_of _ (by decide +kernel)) ggX12_noRealm_X12_noNumber
theorem dX12_noRealm_0 : decode cX12_noRealm 0 = .ok (.aload_n 0, 1) := by decide +kernel
theorem dX12_noRealm_1 : decode cX12_noRealm 1 = .ok (.iload_n 1, 1) := by decide +kernel
theorem dX12_noRealm_2 : decode cX12_noRealm 2 = .ok (.iconst 0, 1) := by decide +kernel
theorem dX12_noRealm_3 : decode cX12_noRealm 3 = .ok (.aload_n 0, 1) := by decide +kernel
theorem dX12_noRealm_4 : decode cX12_noRealm 4 = .ok (.getfield 7, 3) := by decide +kernel
theorem dX12_noRealm_7 : decode cX12_noRealm 7 = .ok (.iconst 3, 1) := by decide +kernel
theorem dX12_noRealm_8 : decode cX12_noRealm 8 = .ok (.iaload, 1) := by decide +kernel
theorem dX12_noRealm_9 : decode cX12_noRealm 9 = .ok (.iconst 1, 1) := by decide +kernel
theorem dX12_noRealm_10 : decode cX12_noRealm 10 = .ok (.isub, 1) := by decide +kernel
theorem dX12_noRealm_11 : decode cX12_noRealm 11 = .ok (.invokevirtual 160, 3) := by decide +kernel
theorem dX12_noRealm_14 : decode cX12_noRealm 14 = .ok (.ireturn, 1) := by decide +kernel
set_option maxRecDepth 20000 in
theorem ggX12_noRealms_X12_noRealm : GoodIn wsX12_noRealms wsX12_noRealm := goodIn_r _ [5, 6, 7, 8, 9, 4, 10, 11, 12, 13, 14, 15, 16, 17, 18, 19, 20, 21, 22, 23, 24, 25, 26, 27, 28, 29, 30, 31, 32, 33, 34, 35, 36, 37, 38, 39, 40] (by decide +kernel) (by decide +kernel)
set_option maxRecDepth 20000 in
theorem gX12_noRealms_X12_noRealm : GoodIn wsX12_noRealms (wsV RX12 378 RX12 yX12_noRealm wsX12_noRealm) := goodIn_app (goodIn_of _ (by decide +kernel)) ggX12_noRealms_X12_noRealm
theorem dX12_noRealms_0 : decode cX12_noRealms 0 = .ok (.aload_n 0, 1) := by decide +kernel
theorem dX12_noRealms_1 : decode cX12_noRealms 1 = .ok (.iload_n 1, 1) := by decide +kernel
theorem dX12_noRealms_2 : decode cX12_noRealms 2 = .ok (.invokevirtual 378, 3) := by decide +kernel
theorem dX12_noRealms_5 : decode cX12_noRealms 5 = .ok (.ifCond .ne 11, 3) := by decide +kernel
theorem dX12_noRealms_8 : decode cX12_noRealms 8 = .ok (.aload_n 0, 1) := by decide +kernel
theorem dX12_noRealms_9 : decode cX12_noRealms 9 = .ok (.iload_n 2, 1) := by decide +kernel
theorem dX12_noRealms_10 : decode cX12_noRealms 10 = .ok (.invokevirtual 378, 3) := by decide +kernel
theorem dX12_noRealms_13 : decode cX12_noRealms 13 = .ok (.ifCond .eq 7, 3) := by decide +kernel
theorem dX12_noRealms_16 : decode cX12_noRealms 16 = .ok (.iconst 1, 1) := by decide +kernel
theorem dX12_noRealms_17 : decode cX12_noRealms 17 = .ok (.goto 4, 3) := by decide +kernel
theorem dX12_noRealms_20 : decode cX12_noRealms 20 = .ok (.iconst 0, 1) := by decide +kernel
theorem dX12_noRealms_21 : decode cX12_noRealms 21 = .ok (.ireturn, 1) := by decide +kernel
set_option maxRecDepth 20000 in
theorem ggX12_noUser_X12_noNumber : GoodIn wsX12_noUser wsX12_noNumber := goodIn_r _ [6, 7, 8, 9, 5, 10, 11, 12, 13, 14, 15, 16, 17, 18, 19, 20, 21, 22, 23, 24, 25, 26, 27, 28, 29, 30, 31, 32, 33, 34, 35, 36] (by decide +kernel) (by decide +kernel)
set_option maxRecDepth 20000 in
theorem gX12_noUser_X12_noNumber : GoodIn wsX12_noUser (wsV RX12 160 RX12 yX12_noNumber wsX12_noNumber) := goodIn_app (goodIn_of _ (by decide +kernel)) ggX12_noUser_X12_noNumber
theorem dX12_noUser_0 : decode cX12_noUser 0 = .ok (.aload_n 0, 1) := by decide +kernel
theorem dX12_noUser_1 : decode cX12_noUser 1 = .ok (.iload_n 1, 1) := by decide +kernel
theorem dX12_noUser_2 : decode cX12_noUser 2 = .ok (.iconst 0, 1) := by decide +kernel
theorem dX12_noUser_3 : decode cX12_noUser 3 = .ok (.aload_n 0, 1) := by decide +kernel
theorem dX12_noUser_4 : decode cX12_noUser 4 = .ok (.getfield 7, 3) := by decide +kernel
theorem dX12_noUser_7 : decode cX12_noUser 7 = .ok (.iconst 4, 1) := by decide +kernel
theorem dX12_noUser_8 : decode cX12_noUser 8 = .ok (.iaload, 1) := by decide +kernel
theorem dX12_noUser_9 : decode cX12_noUser 9 = .ok (.iconst 1, 1) := by decide +kernel
theorem dX12_noUser_10 : decode cX12_noUser 10 = .ok (.isub, 1) := by decide +kernel
theorem dX12_noUser_11 : decode cX12_noUser 11 = .ok (.invokevirtual 160, 3) := by decide +kernel
theorem dX12_noUser_14 : decode cX12_noUser 14 = .ok (.ireturn, 1) := by decide +kernel
set_option maxRecDepth 20000 in
theorem ggX12_noService_X12_noNumber : GoodIn wsX12_noService wsX12_noNumber := goodIn_r _ [6, 7, 8, 9, 5, 10, 11, 12, 13, 14, 15, 16, 17, 18, 19, 20, 21, 22, 23, 24, 25, 26, 27, 28, 29, 30, 31, 32, 33, 34, 35, 36] (by decide +kernel) (by decide +kernel)
set_option maxRecDepth 20000 in
theorem gX12_noService_X12_noNumber : GoodIn wsX12_noService (wsV RX12 160 RX12 yX12_noNumber wsX12_noNumber) := goodIn_app (goodIn_of _ (by decide +kernel)) ggX12_noService_X12_noNumber
theorem dX12_noService_0 : decode cX12_noService 0 = .ok (.aload_n 0, 1) := by decide +kernel
theorem dX12_noService_1 : decode cX12_noService 1 = .ok (.iload_n 1, 1) := by decide +kernel
theorem dX12_noService_2 : decode cX12_noService 2 = .ok (.iconst 0, 1) := by decide +kernel
theorem dX12_noService_3 : decode cX12_noService 3 = .ok (.aload_n 0, 1) := by decide +kernel
theorem dX12_noService_4 : decode cX12_noService 4 = .ok (.getfield 7, 3) := by decide +kernel
theorem dX12_noService_7 : decode cX12_noService 7 = .ok (.iconst 5, 1) := by decide +kernel
theorem dX12_noService_8 : decode cX12_noService 8 = .ok (.iaload, 1) := by decide +kernel
theorem dX12_noService_9 : decode cX12_noService 9 = .ok (.iconst 1, 1) := by decide +kernel
theorem dX12_noService_10 : decode cX12_noService 10 = .ok (.isub, 1) := by decide +kernel
theorem dX12_noService_11 : decode cX12_noService 11 = .ok (.invokevirtual 160, 3) := by decide +kernel
theorem dX12_noService_14 : decode cX12_noService 14 = .ok (.ireturn, 1) := by decide +kernel
set_option maxRecDepth 20000 in
theorem ggX12_noTicket_X12_find : GoodIn wsX12_noTicket wsX12_find := goodIn_r _ [6, 7, 8, 5, 9] (by decide +kernel) (by decide +kernel)
set_option maxRecDepth 20000 in
theorem gX12_noTicket_X12_find : GoodIn wsX12_noTicket (va_wsS RX12 226 yX12_find wsX12_find) := goodIn_app (goodIn_of _ (by decide +kernel)) ggX12_noTicket_X12_find
set_option maxRecDepth 20000 in
theorem ggX12_noTicket_X12_refuses : GoodIn wsX12_noTicket wsX12_refuses := goodIn_r _ [13, 1, 14, 15, 16, 17, 18, 19, 20, 21, 22, 23, 24, 25, 26, 27, 28, 29, 30, 31, 32, 33, 34, 35] (by decide +kernel) (by decide +kernel)
set_option maxRecDepth 20000 in
theorem gX12_noTicket_X12_refuses : GoodIn wsX12_noTicket (wsV RX12 152 RX12 yX12_refuses wsX12_refuses) := goodIn_app (goodIn_of _ (by decide +kernel)) ggX12_noTicket_X12_refuses
theorem dX12_noTicket_0 : decode cX12_noTicket 0 = .ok (.aload_n 0, 1) := by decide +kernel
theorem dX12_noTicket_1 : decode cX12_noTicket 1 = .ok (.iconst 0, 1) := by decide +kernel
theorem dX12_noTicket_2 : decode cX12_noTicket 2 = .ok (.putfield 72, 3) := by decide +kernel
theorem dX12_noTicket_5 : decode cX12_noTicket 5 = .ok (.aload_n 0, 1) := by decide +kernel
theorem dX12_noTicket_6 : decode cX12_noTicket 6 = .ok (.aload_n 0, 1) := by decide +kernel
theorem dX12_noTicket_7 : decode cX12_noTicket 7 = .ok (.getfield 7, 3) := by decide +kernel
theorem dX12_noTicket_10 : decode cX12_noTicket 10 = .ok (.iload_n 1, 1) := by decide +kernel
theorem dX12_noTicket_11 : decode cX12_noTicket 11 = .ok (.invokestatic 226, 3) := by decide +kernel
theorem dX12_noTicket_14 : decode cX12_noTicket 14 = .ok (.iconst (-1), 1) := by decide +kernel
theorem dX12_noTicket_15 : decode cX12_noTicket 15 = .ok (.if_icmp .ne 7, 3) := by decide +kernel
theorem dX12_noTicket_18 : decode cX12_noTicket 18 = .ok (.iconst 1, 1) := by decide +kernel
theorem dX12_noTicket_19 : decode cX12_noTicket 19 = .ok (.goto 4, 3) := by decide +kernel
theorem dX12_noTicket_22 : decode cX12_noTicket 22 = .ok (.iconst 0, 1) := by decide +kernel
theorem dX12_noTicket_23 : decode cX12_noTicket 23 = .ok (.iconst 1, 1) := by decide +kernel
theorem dX12_noTicket_24 : decode cX12_noTicket 24 = .ok (.invokevirtual 152, 3) := by decide +kernel
theorem dX12_noTicket_27 : decode cX12_noTicket 27 = .ok (.ireturn, 1) := by decide +kernel
set_option maxRecDepth 20000 in
theorem ggX12_out_X12_isBetween : GoodIn wsX12_out wsX12_isBetween := goodIn_r _ [4] (by decide +kernel) (by decide +kernel)
set_option maxRecDepth 20000 in
theorem gX12_out_X12_isBetween : GoodIn wsX12_out (va_wsS RX12 167 yX12_isBetween wsX12_isBetween) := goodIn_app (goodIn_of _ (by decide +kernel)) ggX12_out_X12_isBetween
set_option maxRecDepth 20000 in
theorem ggX12_out_X12_refuses : GoodIn wsX12_out wsX12_refuses := goodIn_r _ [8, 9, 10, 11, 12, 13, 14, 15, 16, 17, 18, 19, 20, 21, 22, 23, 24, 25, 26, 27, 28, 29, 30, 31] (by decide +kernel) (by decide +kernel)
set_option maxRecDepth 20000 in
theorem gX12_out_X12_refuses : GoodIn wsX12_out (wsV RX12 152 RX12 yX12_refuses wsX12_refuses) := goodIn_app (goodIn_of _ (by decide +kernel)) ggX12_out_X12_refuses
theorem dX12_out_0 : decode cX12_out 0 = .ok (.aload_n 0, 1) := by decide +kernel
theorem dX12_out_1 : decode cX12_out 1 = .ok (.iload_n 1, 1) := by decide +kernel
theorem dX12_out_2 : decode cX12_out 2 = .ok (.iload_n 2, 1) := by decide +kernel
theorem dX12_out_3 : decode cX12_out 3 = .ok (.iload_n 3, 1) := by decide +kernel
theorem dX12_out_4 : decode cX12_out 4 = .ok (.invokestatic 167, 3) := by decide +kernel
theorem dX12_out_7 : decode cX12_out 7 = .ok (.ifCond .ne 7, 3) := by decide +kernel
theorem dX12_out_10 : decode cX12_out 10 = .ok (.iconst 1, 1) := by decide +kernel
theorem dX12_out_11 : decode cX12_out 11 = .ok (.goto 4, 3) := by decide +kernel
theorem dX12_out_14 : decode cX12_out 14 = .ok (.iconst 0, 1) := by decide +kernel
theorem dX12_out_15 : decode cX12_out 15 = .ok (.iconst 2, 1) := by decide +kernel
theorem dX12_out_16 : decode cX12_out 16 = .ok (.invokevirtual 152, 3) := by decide +kernel
theorem dX12_out_19 : decode cX12_out 19 = .ok (.ireturn, 1) := by decide +kernel
theorem dX12_time_0 : decode cX12_time 0 = .ok (.aload_n 0, 1) := by decide +kernel
theorem dX12_time_1 : decode cX12_time 1 = .ok (.iconst 0, 1) := by decide +kernel
theorem dX12_time_2 : decode cX12_time 2 = .ok (.putfield 72, 3) := by decide +kernel
theorem dX12_time_5 : decode cX12_time 5 = .ok (.aload_n 0, 1) := by decide +kernel
theorem dX12_time_6 : decode cX12_time 6 = .ok (.getfield 7, 3) := by decide +kernel
theorem dX12_time_9 : decode cX12_time 9 = .ok (.iconst 0, 1) := by decide +kernel
theorem dX12_time_10 : decode cX12_time 10 = .ok (.iaload, 1) := by decide +kernel
theorem dX12_time_11 : decode cX12_time 11 = .ok (.ireturn, 1) := by decide +kernel
theorem dX12_seed_0 : decode cX12_seed 0 = .ok (.aload_n 0, 1) := by decide +kernel
theorem dX12_seed_1 : decode cX12_seed 1 = .ok (.iconst 0, 1) := by decide +kernel
theorem dX12_seed_2 : decode cX12_seed 2 = .ok (.putfield 72, 3) := by decide +kernel
theorem dX12_seed_5 : decode cX12_seed 5 = .ok (.aload_n 0, 1) := by decide +kernel
theorem dX12_seed_6 : decode cX12_seed 6 = .ok (.getfield 7, 3) := by decide +kernel
theorem dX12_seed_9 : decode cX12_seed 9 = .ok (.iconst 2, 1) := by decide +kernel
theorem dX12_seed_10 : decode cX12_seed 10 = .ok (.iaload, 1) := by decide +kernel
theorem dX12_seed_11 : decode cX12_seed 11 = .ok (.ireturn, 1) := by decide +kernel
theorem dX12_realmCount_0 : decode cX12_realmCount 0 = .ok (.aload_n 0, 1) := by decide +kernel
theorem dX12_realmCount_1 : decode cX12_realmCount 1 = .ok (.iconst 0, 1) := by decide +kernel
theorem dX12_realmCount_2 : decode cX12_realmCount 2 = .ok (.putfield 72, 3) := by decide +kernel
theorem dX12_realmCount_5 : decode cX12_realmCount 5 = .ok (.aload_n 0, 1) := by decide +kernel
theorem dX12_realmCount_6 : decode cX12_realmCount 6 = .ok (.getfield 7, 3) := by decide +kernel
theorem dX12_realmCount_9 : decode cX12_realmCount 9 = .ok (.iconst 3, 1) := by decide +kernel
theorem dX12_realmCount_10 : decode cX12_realmCount 10 = .ok (.iaload, 1) := by decide +kernel
theorem dX12_realmCount_11 : decode cX12_realmCount 11 = .ok (.ireturn, 1) := by decide +kernel
theorem dX12_userCount_0 : decode cX12_userCount 0 = .ok (.aload_n 0, 1) := by decide +kernel
theorem dX12_userCount_1 : decode cX12_userCount 1 = .ok (.iconst 0, 1) := by decide +kernel
theorem dX12_userCount_2 : decode cX12_userCount 2 = .ok (.putfield 72, 3) := by decide +kernel
theorem dX12_userCount_5 : decode cX12_userCount 5 = .ok (.aload_n 0, 1) := by decide +kernel
theorem dX12_userCount_6 : decode cX12_userCount 6 = .ok (.getfield 7, 3) := by decide +kernel
theorem dX12_userCount_9 : decode cX12_userCount 9 = .ok (.iconst 4, 1) := by decide +kernel
theorem dX12_userCount_10 : decode cX12_userCount 10 = .ok (.iaload, 1) := by decide +kernel
theorem dX12_userCount_11 : decode cX12_userCount 11 = .ok (.ireturn, 1) := by decide +kernel
theorem dX12_serviceCount_0 : decode cX12_serviceCount 0 = .ok (.aload_n 0, 1) := by decide +kernel
theorem dX12_serviceCount_1 : decode cX12_serviceCount 1 = .ok (.iconst 0, 1) := by decide +kernel
theorem dX12_serviceCount_2 : decode cX12_serviceCount 2 = .ok (.putfield 72, 3) := by decide +kernel
theorem dX12_serviceCount_5 : decode cX12_serviceCount 5 = .ok (.aload_n 0, 1) := by decide +kernel
theorem dX12_serviceCount_6 : decode cX12_serviceCount 6 = .ok (.getfield 7, 3) := by decide +kernel
theorem dX12_serviceCount_9 : decode cX12_serviceCount 9 = .ok (.iconst 5, 1) := by decide +kernel
theorem dX12_serviceCount_10 : decode cX12_serviceCount 10 = .ok (.iaload, 1) := by decide +kernel
theorem dX12_serviceCount_11 : decode cX12_serviceCount 11 = .ok (.ireturn, 1) := by decide +kernel
set_option maxRecDepth 20000 in
theorem ggX12_findName_X12_nameFrom : GoodIn wsX12_findName wsX12_nameFrom := goodIn_r _ [8, 9, 10, 11, 7, 12, 13, 14, 15, 37, 38, 39, 40, 41, 42, 43, 44, 45, 46, 47, 48, 49, 50, 51, 52, 53, 54, 55, 56, 57, 58] (by decide +kernel) (by decide +kernel)
set_option maxRecDepth 20000 in
theorem gX12_findName_X12_nameFrom : GoodIn wsX12_findName (wsV RX12 214 RX12 yX12_nameFrom wsX12_nameFrom) := goodIn_app (goodIn_of _ (by decide +kernel)) ggX12_findName_X12_nameFrom
set_option maxRecDepth 20000 in
theorem ggX12_findName_X12_named : GoodIn wsX12_findName wsX12_named := goodIn_r _ [18, 19, 20, 7, 21, 22, 23, 24, 25, 26, 27, 28, 29, 30, 31, 32, 33, 34, 35, 36] (by decide +kernel) (by decide +kernel)
set_option maxRecDepth 20000 in
theorem gX12_findName_X12_named : GoodIn wsX12_findName (va_wsS RX12 217 yX12_named wsX12_named) := goodIn_app (goodIn_of _ (by decide +kernel)) ggX12_findName_X12_named
theorem dX12_findName_0 : decode cX12_findName 0 = .ok (.aload_n 0, 1) := by decide +kernel
theorem dX12_findName_1 : decode cX12_findName 1 = .ok (.iconst 0, 1) := by decide +kernel
theorem dX12_findName_2 : decode cX12_findName 2 = .ok (.putfield 72, 3) := by decide +kernel
theorem dX12_findName_5 : decode cX12_findName 5 = .ok (.aload_n 0, 1) := by decide +kernel
theorem dX12_findName_6 : decode cX12_findName 6 = .ok (.iconst 0, 1) := by decide +kernel
theorem dX12_findName_7 : decode cX12_findName 7 = .ok (.aload_n 0, 1) := by decide +kernel
theorem dX12_findName_8 : decode cX12_findName 8 = .ok (.getfield 55, 3) := by decide +kernel
theorem dX12_findName_11 : decode cX12_findName 11 = .ok (.invokevirtual 214, 3) := by decide +kernel
theorem dX12_findName_14 : decode cX12_findName 14 = .ok (.istore_n 1, 1) := by decide +kernel
theorem dX12_findName_15 : decode cX12_findName 15 = .ok (.iload_n 1, 1) := by decide +kernel
theorem dX12_findName_16 : decode cX12_findName 16 = .ok (.iconst (-1), 1) := by decide +kernel
theorem dX12_findName_17 : decode cX12_findName 17 = .ok (.if_icmp .ne 7, 3) := by decide +kernel
theorem dX12_findName_20 : decode cX12_findName 20 = .ok (.iconst (-1), 1) := by decide +kernel
theorem dX12_findName_21 : decode cX12_findName 21 = .ok (.goto 11, 3) := by decide +kernel
theorem dX12_findName_24 : decode cX12_findName 24 = .ok (.aload_n 0, 1) := by decide +kernel
theorem dX12_findName_25 : decode cX12_findName 25 = .ok (.getfield 7, 3) := by decide +kernel
theorem dX12_findName_28 : decode cX12_findName 28 = .ok (.iload_n 1, 1) := by decide +kernel
theorem dX12_findName_29 : decode cX12_findName 29 = .ok (.invokestatic 217, 3) := by decide +kernel
theorem dX12_findName_32 : decode cX12_findName 32 = .ok (.ireturn, 1) := by decide +kernel
set_option maxRecDepth 20000 in
theorem ggX12_lifetimeOf_X12_noRealm : GoodIn wsX12_lifetimeOf wsX12_noRealm := goodIn_r _ [6, 1, 7, 8, 9, 5, 10, 11, 12, 13, 14, 15, 16, 17, 18, 22, 23, 24, 25, 26, 27, 28, 29, 30, 31, 32, 33, 34, 35, 36, 37, 38, 39, 40, 41, 42, 43] (by decide +kernel) (by decide +kernel)
set_option maxRecDepth 20000 in
theorem gX12_lifetimeOf_X12_noRealm : GoodIn wsX12_lifetimeOf (wsV RX12 378 RX12 yX12_noRealm wsX12_noRealm) := goodIn_app (goodIn_of _ (by decide +kernel)) ggX12_lifetimeOf_X12_noRealm
set_option maxRecDepth 20000 in
theorem ggX12_lifetimeOf_X12_ofRealm : GoodIn wsX12_lifetimeOf wsX12_ofRealm := goodIn_r _ [21] (by decide +kernel) (by decide +kernel)
set_option maxRecDepth 20000 in
theorem gX12_lifetimeOf_X12_ofRealm : GoodIn wsX12_lifetimeOf (va_wsS RX12 91 yX12_ofRealm wsX12_ofRealm) := goodIn_app (goodIn_of _ (by decide +kernel)) ggX12_lifetimeOf_X12_ofRealm
theorem dX12_lifetimeOf_0 : decode cX12_lifetimeOf 0 = .ok (.aload_n 0, 1) := by decide +kernel
theorem dX12_lifetimeOf_1 : decode cX12_lifetimeOf 1 = .ok (.iload_n 1, 1) := by decide +kernel
theorem dX12_lifetimeOf_2 : decode cX12_lifetimeOf 2 = .ok (.invokevirtual 378, 3) := by decide +kernel
theorem dX12_lifetimeOf_5 : decode cX12_lifetimeOf 5 = .ok (.ifCond .eq 5, 3) := by decide +kernel
theorem dX12_lifetimeOf_8 : decode cX12_lifetimeOf 8 = .ok (.iconst 0, 1) := by decide +kernel
theorem dX12_lifetimeOf_9 : decode cX12_lifetimeOf 9 = .ok (.ireturn, 1) := by decide +kernel
theorem dX12_lifetimeOf_10 : decode cX12_lifetimeOf 10 = .ok (.aload_n 0, 1) := by decide +kernel
theorem dX12_lifetimeOf_11 : decode cX12_lifetimeOf 11 = .ok (.getfield 7, 3) := by decide +kernel
theorem dX12_lifetimeOf_14 : decode cX12_lifetimeOf 14 = .ok (.iload_n 1, 1) := by decide +kernel
theorem dX12_lifetimeOf_15 : decode cX12_lifetimeOf 15 = .ok (.invokestatic 91, 3) := by decide +kernel
theorem dX12_lifetimeOf_18 : decode cX12_lifetimeOf 18 = .ok (.iconst 1, 1) := by decide +kernel
theorem dX12_lifetimeOf_19 : decode cX12_lifetimeOf 19 = .ok (.iadd, 1) := by decide +kernel
theorem dX12_lifetimeOf_20 : decode cX12_lifetimeOf 20 = .ok (.iaload, 1) := by decide +kernel
theorem dX12_lifetimeOf_21 : decode cX12_lifetimeOf 21 = .ok (.ireturn, 1) := by decide +kernel
set_option maxRecDepth 20000 in
theorem ggX12_clockOf_X12_noRealm : GoodIn wsX12_clockOf wsX12_noRealm := goodIn_r _ [6, 1, 7, 8, 9, 5, 10, 11, 12, 13, 14, 15, 16, 17, 18, 22, 23, 24, 25, 26, 27, 28, 29, 30, 31, 32, 33, 34, 35, 36, 37, 38, 39, 40, 41, 42, 43] (by decide +kernel) (by decide +kernel)
set_option maxRecDepth 20000 in
theorem gX12_clockOf_X12_noRealm : GoodIn wsX12_clockOf (wsV RX12 378 RX12 yX12_noRealm wsX12_noRealm) := goodIn_app (goodIn_of _ (by decide +kernel)) ggX12_clockOf_X12_noRealm
set_option maxRecDepth 20000 in
theorem ggX12_clockOf_X12_ofRealm : GoodIn wsX12_clockOf wsX12_ofRealm := goodIn_r _ [21] (by decide +kernel) (by decide +kernel)
set_option maxRecDepth 20000 in
theorem gX12_clockOf_X12_ofRealm : GoodIn wsX12_clockOf (va_wsS RX12 91 yX12_ofRealm wsX12_ofRealm) := goodIn_app (goodIn_of _ (by decide +kernel)) ggX12_clockOf_X12_ofRealm
theorem dX12_clockOf_0 : decode cX12_clockOf 0 = .ok (.aload_n 0, 1) := by decide +kernel
theorem dX12_clockOf_1 : decode cX12_clockOf 1 = .ok (.iload_n 1, 1) := by decide +kernel
theorem dX12_clockOf_2 : decode cX12_clockOf 2 = .ok (.invokevirtual 378, 3) := by decide +kernel
theorem dX12_clockOf_5 : decode cX12_clockOf 5 = .ok (.ifCond .eq 5, 3) := by decide +kernel
theorem dX12_clockOf_8 : decode cX12_clockOf 8 = .ok (.iconst 0, 1) := by decide +kernel
theorem dX12_clockOf_9 : decode cX12_clockOf 9 = .ok (.ireturn, 1) := by decide +kernel
theorem dX12_clockOf_10 : decode cX12_clockOf 10 = .ok (.aload_n 0, 1) := by decide +kernel
theorem dX12_clockOf_11 : decode cX12_clockOf 11 = .ok (.getfield 7, 3) := by decide +kernel
theorem dX12_clockOf_14 : decode cX12_clockOf 14 = .ok (.iconst 0, 1) := by decide +kernel
theorem dX12_clockOf_15 : decode cX12_clockOf 15 = .ok (.iaload, 1) := by decide +kernel
theorem dX12_clockOf_16 : decode cX12_clockOf 16 = .ok (.aload_n 0, 1) := by decide +kernel
theorem dX12_clockOf_17 : decode cX12_clockOf 17 = .ok (.getfield 7, 3) := by decide +kernel
theorem dX12_clockOf_20 : decode cX12_clockOf 20 = .ok (.iload_n 1, 1) := by decide +kernel
theorem dX12_clockOf_21 : decode cX12_clockOf 21 = .ok (.invokestatic 91, 3) := by decide +kernel
theorem dX12_clockOf_24 : decode cX12_clockOf 24 = .ok (.iconst 3, 1) := by decide +kernel
theorem dX12_clockOf_25 : decode cX12_clockOf 25 = .ok (.iadd, 1) := by decide +kernel
theorem dX12_clockOf_26 : decode cX12_clockOf 26 = .ok (.iaload, 1) := by decide +kernel
theorem dX12_clockOf_27 : decode cX12_clockOf 27 = .ok (.iadd, 1) := by decide +kernel
theorem dX12_clockOf_28 : decode cX12_clockOf 28 = .ok (.ireturn, 1) := by decide +kernel
set_option maxRecDepth 20000 in
theorem ggX12_trusts_X12_noRealms : GoodIn wsX12_trusts wsX12_noRealms := goodIn_r _ [6, 7, 8, 9, 5, 10, 1, 11, 12, 13, 14, 15, 16, 17, 18, 19, 20, 21, 22, 26, 27, 28, 29, 30, 31, 32, 33, 34, 35, 36, 37, 38, 39, 40, 41, 42, 43, 44, 45, 46, 47] (by decide +kernel) (by decide +kernel)
set_option maxRecDepth 20000 in
theorem gX12_trusts_X12_noRealms : GoodIn wsX12_trusts (wsV RX12 381 RX12 yX12_noRealms wsX12_noRealms) := goodIn_app (goodIn_of _ (by decide +kernel)) ggX12_trusts_X12_noRealms
set_option maxRecDepth 20000 in
theorem ggX12_trusts_X12_trusted : GoodIn wsX12_trusts wsX12_trusted := goodIn_r _ [25] (by decide +kernel) (by decide +kernel)
set_option maxRecDepth 20000 in
theorem gX12_trusts_X12_trusted : GoodIn wsX12_trusts (va_wsS RX12 75 yX12_trusted wsX12_trusted) := goodIn_app (goodIn_of _ (by decide +kernel)) ggX12_trusts_X12_trusted
theorem dX12_trusts_0 : decode cX12_trusts 0 = .ok (.aload_n 0, 1) := by decide +kernel
theorem dX12_trusts_1 : decode cX12_trusts 1 = .ok (.iload_n 1, 1) := by decide +kernel
theorem dX12_trusts_2 : decode cX12_trusts 2 = .ok (.iload_n 2, 1) := by decide +kernel
theorem dX12_trusts_3 : decode cX12_trusts 3 = .ok (.invokevirtual 381, 3) := by decide +kernel
theorem dX12_trusts_6 : decode cX12_trusts 6 = .ok (.ifCond .eq 5, 3) := by decide +kernel
theorem dX12_trusts_9 : decode cX12_trusts 9 = .ok (.iconst 0, 1) := by decide +kernel
theorem dX12_trusts_10 : decode cX12_trusts 10 = .ok (.ireturn, 1) := by decide +kernel
theorem dX12_trusts_11 : decode cX12_trusts 11 = .ok (.aload_n 0, 1) := by decide +kernel
theorem dX12_trusts_12 : decode cX12_trusts 12 = .ok (.getfield 7, 3) := by decide +kernel
theorem dX12_trusts_15 : decode cX12_trusts 15 = .ok (.iload_n 1, 1) := by decide +kernel
theorem dX12_trusts_16 : decode cX12_trusts 16 = .ok (.iload_n 2, 1) := by decide +kernel
theorem dX12_trusts_17 : decode cX12_trusts 17 = .ok (.invokestatic 75, 3) := by decide +kernel
theorem dX12_trusts_20 : decode cX12_trusts 20 = .ok (.ireturn, 1) := by decide +kernel
set_option maxRecDepth 20000 in
theorem ggX12_distance_X12_noRealms : GoodIn wsX12_distance wsX12_noRealms := goodIn_r _ [6, 7, 8, 9, 5, 10, 1, 11, 12, 13, 14, 15, 16, 17, 18, 19, 20, 21, 22, 38, 39, 40, 41, 42, 43, 44, 45, 46, 47, 48, 49, 50, 51, 52, 53, 54, 55, 56, 57, 58, 59] (by decide +kernel) (by decide +kernel)
set_option maxRecDepth 20000 in
theorem gX12_distance_X12_noRealms : GoodIn wsX12_distance (wsV RX12 381 RX12 yX12_noRealms wsX12_noRealms) := goodIn_app (goodIn_of _ (by decide +kernel)) ggX12_distance_X12_noRealms
set_option maxRecDepth 20000 in
theorem ggX12_distance_X12_far : GoodIn wsX12_distance wsX12_far := goodIn_r _ [26, 27, 28, 29, 30, 5, 31, 32, 33, 34, 35, 36, 37, 38, 39, 40, 41, 42, 43, 44, 45, 46, 47, 48, 49, 50, 51, 52, 53, 54, 55, 56, 57, 58, 59] (by decide +kernel) (by decide +kernel)
set_option maxRecDepth 20000 in
theorem gX12_distance_X12_far : GoodIn wsX12_distance (wsV RX12 385 RX12 yX12_far wsX12_far) := goodIn_app (goodIn_of _ (by decide +kernel)) ggX12_distance_X12_far
theorem dX12_distance_0 : decode cX12_distance 0 = .ok (.aload_n 0, 1) := by decide +kernel
theorem dX12_distance_1 : decode cX12_distance 1 = .ok (.iload_n 1, 1) := by decide +kernel
theorem dX12_distance_2 : decode cX12_distance 2 = .ok (.iload_n 2, 1) := by decide +kernel
theorem dX12_distance_3 : decode cX12_distance 3 = .ok (.invokevirtual 381, 3) := by decide +kernel
theorem dX12_distance_6 : decode cX12_distance 6 = .ok (.ifCond .eq 5, 3) := by decide +kernel
theorem dX12_distance_9 : decode cX12_distance 9 = .ok (.iconst 0, 1) := by decide +kernel
theorem dX12_distance_10 : decode cX12_distance 10 = .ok (.ireturn, 1) := by decide +kernel
theorem dX12_distance_11 : decode cX12_distance 11 = .ok (.aload_n 0, 1) := by decide +kernel
theorem dX12_distance_12 : decode cX12_distance 12 = .ok (.aload_n 0, 1) := by decide +kernel
theorem dX12_distance_13 : decode cX12_distance 13 = .ok (.getfield 7, 3) := by decide +kernel
theorem dX12_distance_16 : decode cX12_distance 16 = .ok (.iload_n 1, 1) := by decide +kernel
theorem dX12_distance_17 : decode cX12_distance 17 = .ok (.iload_n 2, 1) := by decide +kernel
theorem dX12_distance_18 : decode cX12_distance 18 = .ok (.invokevirtual 385, 3) := by decide +kernel
theorem dX12_distance_21 : decode cX12_distance 21 = .ok (.ireturn, 1) := by decide +kernel
set_option maxRecDepth 20000 in
theorem ggX12_nextRealm_X12_noRealms : GoodIn wsX12_nextRealm wsX12_noRealms := goodIn_r _ [6, 7, 8, 9, 5, 10, 1, 11, 12, 13, 14, 15, 16, 17, 18, 19, 20, 21, 22, 38, 39, 40, 41, 42, 43, 44, 45, 46, 47, 48, 49, 50, 51, 52, 53, 54, 55, 56, 57, 58, 59] (by decide +kernel) (by decide +kernel)
set_option maxRecDepth 20000 in
theorem gX12_nextRealm_X12_noRealms : GoodIn wsX12_nextRealm (wsV RX12 381 RX12 yX12_noRealms wsX12_noRealms) := goodIn_app (goodIn_of _ (by decide +kernel)) ggX12_nextRealm_X12_noRealms
set_option maxRecDepth 20000 in
theorem ggX12_nextRealm_X12_far : GoodIn wsX12_nextRealm wsX12_far := goodIn_r _ [26, 27, 28, 29, 30, 5, 31, 32, 33, 34, 35, 36, 37, 38, 39, 40, 41, 42, 43, 44, 45, 46, 47, 48, 49, 50, 51, 52, 53, 54, 55, 56, 57, 58, 59] (by decide +kernel) (by decide +kernel)
set_option maxRecDepth 20000 in
theorem gX12_nextRealm_X12_far : GoodIn wsX12_nextRealm (wsV RX12 385 RX12 yX12_far wsX12_far) := goodIn_app (goodIn_of _ (by decide +kernel)) ggX12_nextRealm_X12_far
set_option maxRecDepth 20000 in
theorem ggX12_nextRealm_X12_trusted : GoodIn wsX12_nextRealm wsX12_trusted := goodIn_r _ [34] (by decide +kernel) (by decide +kernel)
set_option maxRecDepth 20000 in
theorem gX12_nextRealm_X12_trusted : GoodIn wsX12_nextRealm (va_wsS RX12 75 yX12_trusted wsX12_trusted) := goodIn_app (goodIn_of _ (by decide +kernel)) ggX12_nextRealm_X12_trusted
theorem dX12_nextRealm_0 : decode cX12_nextRealm 0 = .ok (.aload_n 0, 1) := by decide +kernel
theorem dX12_nextRealm_1 : decode cX12_nextRealm 1 = .ok (.iload_n 1, 1) := by decide +kernel
theorem dX12_nextRealm_2 : decode cX12_nextRealm 2 = .ok (.iload_n 2, 1) := by decide +kernel
theorem dX12_nextRealm_3 : decode cX12_nextRealm 3 = .ok (.invokevirtual 381, 3) := by decide +kernel
theorem dX12_nextRealm_6 : decode cX12_nextRealm 6 = .ok (.ifCond .eq 5, 3) := by decide +kernel
theorem dX12_nextRealm_9 : decode cX12_nextRealm 9 = .ok (.iconst 0, 1) := by decide +kernel
theorem dX12_nextRealm_10 : decode cX12_nextRealm 10 = .ok (.ireturn, 1) := by decide +kernel
theorem dX12_nextRealm_11 : decode cX12_nextRealm 11 = .ok (.aload_n 0, 1) := by decide +kernel
theorem dX12_nextRealm_12 : decode cX12_nextRealm 12 = .ok (.aload_n 0, 1) := by decide +kernel
theorem dX12_nextRealm_13 : decode cX12_nextRealm 13 = .ok (.getfield 7, 3) := by decide +kernel
theorem dX12_nextRealm_16 : decode cX12_nextRealm 16 = .ok (.iload_n 1, 1) := by decide +kernel
theorem dX12_nextRealm_17 : decode cX12_nextRealm 17 = .ok (.iload_n 2, 1) := by decide +kernel
theorem dX12_nextRealm_18 : decode cX12_nextRealm 18 = .ok (.invokevirtual 385, 3) := by decide +kernel
theorem dX12_nextRealm_21 : decode cX12_nextRealm 21 = .ok (.istore_n 3, 1) := by decide +kernel
theorem dX12_nextRealm_22 : decode cX12_nextRealm 22 = .ok (.iconst 0, 1) := by decide +kernel
theorem dX12_nextRealm_23 : decode cX12_nextRealm 23 = .ok (.istore 4, 2) := by decide +kernel
theorem dX12_nextRealm_25 : decode cX12_nextRealm 25 = .ok (.iload 4, 2) := by decide +kernel
theorem dX12_nextRealm_27 : decode cX12_nextRealm 27 = .ok (.aload_n 0, 1) := by decide +kernel
theorem dX12_nextRealm_28 : decode cX12_nextRealm 28 = .ok (.getfield 7, 3) := by decide +kernel
theorem dX12_nextRealm_31 : decode cX12_nextRealm 31 = .ok (.iconst 3, 1) := by decide +kernel
theorem dX12_nextRealm_32 : decode cX12_nextRealm 32 = .ok (.iaload, 1) := by decide +kernel
theorem dX12_nextRealm_33 : decode cX12_nextRealm 33 = .ok (.if_icmp .ge 46, 3) := by decide +kernel
theorem dX12_nextRealm_36 : decode cX12_nextRealm 36 = .ok (.iload_n 3, 1) := by decide +kernel
theorem dX12_nextRealm_37 : decode cX12_nextRealm 37 = .ok (.ifCond .le 42, 3) := by decide +kernel
theorem dX12_nextRealm_40 : decode cX12_nextRealm 40 = .ok (.aload_n 0, 1) := by decide +kernel
theorem dX12_nextRealm_41 : decode cX12_nextRealm 41 = .ok (.getfield 7, 3) := by decide +kernel
theorem dX12_nextRealm_44 : decode cX12_nextRealm 44 = .ok (.iload_n 1, 1) := by decide +kernel
theorem dX12_nextRealm_45 : decode cX12_nextRealm 45 = .ok (.iload 4, 2) := by decide +kernel
theorem dX12_nextRealm_47 : decode cX12_nextRealm 47 = .ok (.invokestatic 75, 3) := by decide +kernel
theorem dX12_nextRealm_50 : decode cX12_nextRealm 50 = .ok (.ifCond .eq 23, 3) := by decide +kernel
theorem dX12_nextRealm_53 : decode cX12_nextRealm 53 = .ok (.aload_n 0, 1) := by decide +kernel
theorem dX12_nextRealm_54 : decode cX12_nextRealm 54 = .ok (.aload_n 0, 1) := by decide +kernel
theorem dX12_nextRealm_55 : decode cX12_nextRealm 55 = .ok (.getfield 7, 3) := by decide +kernel
theorem dX12_nextRealm_58 : decode cX12_nextRealm 58 = .ok (.iload 4, 2) := by decide +kernel
theorem dX12_nextRealm_60 : decode cX12_nextRealm 60 = .ok (.iload_n 2, 1) := by decide +kernel
theorem dX12_nextRealm_61 : decode cX12_nextRealm 61 = .ok (.invokevirtual 385, 3) := by decide +kernel
theorem dX12_nextRealm_64 : decode cX12_nextRealm 64 = .ok (.iload_n 3, 1) := by decide +kernel
theorem dX12_nextRealm_65 : decode cX12_nextRealm 65 = .ok (.iconst 1, 1) := by decide +kernel
theorem dX12_nextRealm_66 : decode cX12_nextRealm 66 = .ok (.isub, 1) := by decide +kernel
theorem dX12_nextRealm_67 : decode cX12_nextRealm 67 = .ok (.if_icmp .ne 6, 3) := by decide +kernel
theorem dX12_nextRealm_70 : decode cX12_nextRealm 70 = .ok (.iload 4, 2) := by decide +kernel
theorem dX12_nextRealm_72 : decode cX12_nextRealm 72 = .ok (.ireturn, 1) := by decide +kernel
theorem dX12_nextRealm_73 : decode cX12_nextRealm 73 = .ok (.iinc 4 1, 3) := by decide +kernel
theorem dX12_nextRealm_76 : decode cX12_nextRealm 76 = .ok (.goto (-51), 3) := by decide +kernel
theorem dX12_nextRealm_79 : decode cX12_nextRealm 79 = .ok (.iconst (-1), 1) := by decide +kernel
theorem dX12_nextRealm_80 : decode cX12_nextRealm 80 = .ok (.ireturn, 1) := by decide +kernel
set_option maxRecDepth 20000 in
theorem ggX12_homeOf_X12_noUser : GoodIn wsX12_homeOf wsX12_noUser := goodIn_r _ [6, 1, 7, 8, 9, 5, 10, 11, 12, 13, 14, 15, 16, 17, 18, 22, 23, 24, 25, 26, 27, 28, 29, 30, 31, 32, 33, 34, 35, 36, 37, 38, 39, 40, 41, 42, 43] (by decide +kernel) (by decide +kernel)
set_option maxRecDepth 20000 in
theorem gX12_homeOf_X12_noUser : GoodIn wsX12_homeOf (wsV RX12 388 RX12 yX12_noUser wsX12_noUser) := goodIn_app (goodIn_of _ (by decide +kernel)) ggX12_homeOf_X12_noUser
set_option maxRecDepth 20000 in
theorem ggX12_homeOf_X12_ofUser : GoodIn wsX12_homeOf wsX12_ofUser := goodIn_r _ [21] (by decide +kernel) (by decide +kernel)
set_option maxRecDepth 20000 in
theorem gX12_homeOf_X12_ofUser : GoodIn wsX12_homeOf (va_wsS RX12 87 yX12_ofUser wsX12_ofUser) := goodIn_app (goodIn_of _ (by decide +kernel)) ggX12_homeOf_X12_ofUser
theorem dX12_homeOf_0 : decode cX12_homeOf 0 = .ok (.aload_n 0, 1) := by decide +kernel
theorem dX12_homeOf_1 : decode cX12_homeOf 1 = .ok (.iload_n 1, 1) := by decide +kernel
theorem dX12_homeOf_2 : decode cX12_homeOf 2 = .ok (.invokevirtual 388, 3) := by decide +kernel
theorem dX12_homeOf_5 : decode cX12_homeOf 5 = .ok (.ifCond .eq 5, 3) := by decide +kernel
theorem dX12_homeOf_8 : decode cX12_homeOf 8 = .ok (.iconst 0, 1) := by decide +kernel
theorem dX12_homeOf_9 : decode cX12_homeOf 9 = .ok (.ireturn, 1) := by decide +kernel
theorem dX12_homeOf_10 : decode cX12_homeOf 10 = .ok (.aload_n 0, 1) := by decide +kernel
theorem dX12_homeOf_11 : decode cX12_homeOf 11 = .ok (.getfield 7, 3) := by decide +kernel
theorem dX12_homeOf_14 : decode cX12_homeOf 14 = .ok (.iload_n 1, 1) := by decide +kernel
theorem dX12_homeOf_15 : decode cX12_homeOf 15 = .ok (.invokestatic 87, 3) := by decide +kernel
theorem dX12_homeOf_18 : decode cX12_homeOf 18 = .ok (.iconst 1, 1) := by decide +kernel
theorem dX12_homeOf_19 : decode cX12_homeOf 19 = .ok (.iadd, 1) := by decide +kernel
theorem dX12_homeOf_20 : decode cX12_homeOf 20 = .ok (.iaload, 1) := by decide +kernel
theorem dX12_homeOf_21 : decode cX12_homeOf 21 = .ok (.ireturn, 1) := by decide +kernel
set_option maxRecDepth 20000 in
theorem ggX12_cheesesOf_X12_noUser : GoodIn wsX12_cheesesOf wsX12_noUser := goodIn_r _ [6, 1, 7, 8, 9, 5, 10, 11, 12, 13, 14, 15, 16, 17, 18, 22, 23, 24, 25, 26, 27, 28, 29, 30, 31, 32, 33, 34, 35, 36, 37, 38, 39, 40, 41, 42, 43] (by decide +kernel) (by decide +kernel)
set_option maxRecDepth 20000 in
theorem gX12_cheesesOf_X12_noUser : GoodIn wsX12_cheesesOf (wsV RX12 388 RX12 yX12_noUser wsX12_noUser) := goodIn_app (goodIn_of _ (by decide +kernel)) ggX12_cheesesOf_X12_noUser
set_option maxRecDepth 20000 in
theorem ggX12_cheesesOf_X12_ofUser : GoodIn wsX12_cheesesOf wsX12_ofUser := goodIn_r _ [21] (by decide +kernel) (by decide +kernel)
set_option maxRecDepth 20000 in
theorem gX12_cheesesOf_X12_ofUser : GoodIn wsX12_cheesesOf (va_wsS RX12 87 yX12_ofUser wsX12_ofUser) := goodIn_app (goodIn_of _ (by decide +kernel)) ggX12_cheesesOf_X12_ofUser
theorem dX12_cheesesOf_0 : decode cX12_cheesesOf 0 = .ok (.aload_n 0, 1) := by decide +kernel
theorem dX12_cheesesOf_1 : decode cX12_cheesesOf 1 = .ok (.iload_n 1, 1) := by decide +kernel
theorem dX12_cheesesOf_2 : decode cX12_cheesesOf 2 = .ok (.invokevirtual 388, 3) := by decide +kernel
theorem dX12_cheesesOf_5 : decode cX12_cheesesOf 5 = .ok (.ifCond .eq 5, 3) := by decide +kernel
theorem dX12_cheesesOf_8 : decode cX12_cheesesOf 8 = .ok (.iconst 0, 1) := by decide +kernel
theorem dX12_cheesesOf_9 : decode cX12_cheesesOf 9 = .ok (.ireturn, 1) := by decide +kernel
theorem dX12_cheesesOf_10 : decode cX12_cheesesOf 10 = .ok (.aload_n 0, 1) := by decide +kernel
theorem dX12_cheesesOf_11 : decode cX12_cheesesOf 11 = .ok (.getfield 7, 3) := by decide +kernel
theorem dX12_cheesesOf_14 : decode cX12_cheesesOf 14 = .ok (.iload_n 1, 1) := by decide +kernel
theorem dX12_cheesesOf_15 : decode cX12_cheesesOf 15 = .ok (.invokestatic 87, 3) := by decide +kernel
theorem dX12_cheesesOf_18 : decode cX12_cheesesOf 18 = .ok (.iconst 4, 1) := by decide +kernel
theorem dX12_cheesesOf_19 : decode cX12_cheesesOf 19 = .ok (.iadd, 1) := by decide +kernel
theorem dX12_cheesesOf_20 : decode cX12_cheesesOf 20 = .ok (.iaload, 1) := by decide +kernel
theorem dX12_cheesesOf_21 : decode cX12_cheesesOf 21 = .ok (.ireturn, 1) := by decide +kernel
set_option maxRecDepth 20000 in
theorem ggX12_skew_X12_noUser : GoodIn wsX12_skew wsX12_noUser := goodIn_r _ [6, 1, 7, 8, 9, 5, 10, 11, 12, 13, 14, 15, 16, 17, 18, 32, 33, 34, 35, 36, 37, 38, 39, 40, 41, 42, 43, 44, 45, 46, 47, 48, 49, 50, 51, 52, 53] (by decide +kernel) (by decide +kernel)
set_option maxRecDepth 20000 in
theorem gX12_skew_X12_noUser : GoodIn wsX12_skew (wsV RX12 388 RX12 yX12_noUser wsX12_noUser) := goodIn_app (goodIn_of _ (by decide +kernel)) ggX12_skew_X12_noUser
set_option maxRecDepth 20000 in
theorem ggX12_skew_X12_noRealm : GoodIn wsX12_skew wsX12_noRealm := goodIn_r _ [22, 1, 7, 8, 9, 5, 10, 11, 12, 13, 14, 15, 16, 17, 18, 32, 33, 34, 35, 36, 37, 38, 39, 40, 41, 42, 43, 44, 45, 46, 47, 48, 49, 50, 51, 52, 53] (by decide +kernel) (by decide +kernel)
set_option maxRecDepth 20000 in
theorem gX12_skew_X12_noRealm : GoodIn wsX12_skew (wsV RX12 378 RX12 yX12_noRealm wsX12_noRealm) := goodIn_app (goodIn_of _ (by decide +kernel)) ggX12_skew_X12_noRealm
set_option maxRecDepth 20000 in
theorem ggX12_skew_X12_skewOf : GoodIn wsX12_skew wsX12_skewOf := goodIn_r _ [25, 26, 27, 5, 28, 29, 30, 31] (by decide +kernel) (by decide +kernel)
set_option maxRecDepth 20000 in
theorem gX12_skew_X12_skewOf : GoodIn wsX12_skew (va_wsS RX12 94 yX12_skewOf wsX12_skewOf) := goodIn_app (goodIn_of _ (by decide +kernel)) ggX12_skew_X12_skewOf
theorem dX12_skew_0 : decode cX12_skew 0 = .ok (.aload_n 0, 1) := by decide +kernel
theorem dX12_skew_1 : decode cX12_skew 1 = .ok (.iload_n 1, 1) := by decide +kernel
theorem dX12_skew_2 : decode cX12_skew 2 = .ok (.invokevirtual 388, 3) := by decide +kernel
theorem dX12_skew_5 : decode cX12_skew 5 = .ok (.ifCond .ne 11, 3) := by decide +kernel
theorem dX12_skew_8 : decode cX12_skew 8 = .ok (.aload_n 0, 1) := by decide +kernel
theorem dX12_skew_9 : decode cX12_skew 9 = .ok (.iload_n 2, 1) := by decide +kernel
theorem dX12_skew_10 : decode cX12_skew 10 = .ok (.invokevirtual 378, 3) := by decide +kernel
theorem dX12_skew_13 : decode cX12_skew 13 = .ok (.ifCond .eq 5, 3) := by decide +kernel
theorem dX12_skew_16 : decode cX12_skew 16 = .ok (.iconst 0, 1) := by decide +kernel
theorem dX12_skew_17 : decode cX12_skew 17 = .ok (.ireturn, 1) := by decide +kernel
theorem dX12_skew_18 : decode cX12_skew 18 = .ok (.aload_n 0, 1) := by decide +kernel
theorem dX12_skew_19 : decode cX12_skew 19 = .ok (.getfield 7, 3) := by decide +kernel
theorem dX12_skew_22 : decode cX12_skew 22 = .ok (.iload_n 1, 1) := by decide +kernel
theorem dX12_skew_23 : decode cX12_skew 23 = .ok (.iload_n 2, 1) := by decide +kernel
theorem dX12_skew_24 : decode cX12_skew 24 = .ok (.invokestatic 94, 3) := by decide +kernel
theorem dX12_skew_27 : decode cX12_skew 27 = .ok (.ireturn, 1) := by decide +kernel
set_option maxRecDepth 20000 in
theorem ggX12_realmOfService_X12_noService : GoodIn wsX12_realmOfService wsX12_noService := goodIn_r _ [6, 1, 7, 8, 9, 5, 10, 11, 12, 13, 14, 15, 16, 17, 18, 22, 23, 24, 25, 26, 27, 28, 29, 30, 31, 32, 33, 34, 35, 36, 37, 38, 39, 40, 41, 42, 43] (by decide +kernel) (by decide +kernel)
set_option maxRecDepth 20000 in
theorem gX12_realmOfService_X12_noService : GoodIn wsX12_realmOfService (wsV RX12 391 RX12 yX12_noService wsX12_noService) := goodIn_app (goodIn_of _ (by decide +kernel)) ggX12_realmOfService_X12_noService
set_option maxRecDepth 20000 in
theorem ggX12_realmOfService_X12_ofService : GoodIn wsX12_realmOfService wsX12_ofService := goodIn_r _ [21] (by decide +kernel) (by decide +kernel)
set_option maxRecDepth 20000 in
theorem gX12_realmOfService_X12_ofService : GoodIn wsX12_realmOfService (va_wsS RX12 122 yX12_ofService wsX12_ofService) := goodIn_app (goodIn_of _ (by decide +kernel)) ggX12_realmOfService_X12_ofService
theorem dX12_realmOfService_0 : decode cX12_realmOfService 0 = .ok (.aload_n 0, 1) := by decide +kernel
theorem dX12_realmOfService_1 : decode cX12_realmOfService 1 = .ok (.iload_n 1, 1) := by decide +kernel
theorem dX12_realmOfService_2 : decode cX12_realmOfService 2 = .ok (.invokevirtual 391, 3) := by decide +kernel
theorem dX12_realmOfService_5 : decode cX12_realmOfService 5 = .ok (.ifCond .eq 5, 3) := by decide +kernel
theorem dX12_realmOfService_8 : decode cX12_realmOfService 8 = .ok (.iconst 0, 1) := by decide +kernel
theorem dX12_realmOfService_9 : decode cX12_realmOfService 9 = .ok (.ireturn, 1) := by decide +kernel
theorem dX12_realmOfService_10 : decode cX12_realmOfService 10 = .ok (.aload_n 0, 1) := by decide +kernel
theorem dX12_realmOfService_11 : decode cX12_realmOfService 11 = .ok (.getfield 7, 3) := by decide +kernel
theorem dX12_realmOfService_14 : decode cX12_realmOfService 14 = .ok (.iload_n 1, 1) := by decide +kernel
theorem dX12_realmOfService_15 : decode cX12_realmOfService 15 = .ok (.invokestatic 122, 3) := by decide +kernel
theorem dX12_realmOfService_18 : decode cX12_realmOfService 18 = .ok (.iconst 1, 1) := by decide +kernel
theorem dX12_realmOfService_19 : decode cX12_realmOfService 19 = .ok (.iadd, 1) := by decide +kernel
theorem dX12_realmOfService_20 : decode cX12_realmOfService 20 = .ok (.iaload, 1) := by decide +kernel
theorem dX12_realmOfService_21 : decode cX12_realmOfService 21 = .ok (.ireturn, 1) := by decide +kernel
set_option maxRecDepth 20000 in
theorem ggX12_cheesesLeft_X12_noService : GoodIn wsX12_cheesesLeft wsX12_noService := goodIn_r _ [6, 1, 7, 8, 9, 5, 10, 11, 12, 13, 14, 15, 16, 17, 18, 22, 23, 24, 25, 26, 27, 28, 29, 30, 31, 32, 33, 34, 35, 36, 37, 38, 39, 40, 41, 42, 43] (by decide +kernel) (by decide +kernel)
set_option maxRecDepth 20000 in
theorem gX12_cheesesLeft_X12_noService : GoodIn wsX12_cheesesLeft (wsV RX12 391 RX12 yX12_noService wsX12_noService) := goodIn_app (goodIn_of _ (by decide +kernel)) ggX12_cheesesLeft_X12_noService
set_option maxRecDepth 20000 in
theorem ggX12_cheesesLeft_X12_ofService : GoodIn wsX12_cheesesLeft wsX12_ofService := goodIn_r _ [21] (by decide +kernel) (by decide +kernel)
set_option maxRecDepth 20000 in
theorem gX12_cheesesLeft_X12_ofService : GoodIn wsX12_cheesesLeft (va_wsS RX12 122 yX12_ofService wsX12_ofService) := goodIn_app (goodIn_of _ (by decide +kernel)) ggX12_cheesesLeft_X12_ofService
theorem dX12_cheesesLeft_0 : decode cX12_cheesesLeft 0 = .ok (.aload_n 0, 1) := by decide +kernel
theorem dX12_cheesesLeft_1 : decode cX12_cheesesLeft 1 = .ok (.iload_n 1, 1) := by decide +kernel
theorem dX12_cheesesLeft_2 : decode cX12_cheesesLeft 2 = .ok (.invokevirtual 391, 3) := by decide +kernel
theorem dX12_cheesesLeft_5 : decode cX12_cheesesLeft 5 = .ok (.ifCond .eq 5, 3) := by decide +kernel
theorem dX12_cheesesLeft_8 : decode cX12_cheesesLeft 8 = .ok (.iconst 0, 1) := by decide +kernel
theorem dX12_cheesesLeft_9 : decode cX12_cheesesLeft 9 = .ok (.ireturn, 1) := by decide +kernel
theorem dX12_cheesesLeft_10 : decode cX12_cheesesLeft 10 = .ok (.aload_n 0, 1) := by decide +kernel
theorem dX12_cheesesLeft_11 : decode cX12_cheesesLeft 11 = .ok (.getfield 7, 3) := by decide +kernel
theorem dX12_cheesesLeft_14 : decode cX12_cheesesLeft 14 = .ok (.iload_n 1, 1) := by decide +kernel
theorem dX12_cheesesLeft_15 : decode cX12_cheesesLeft 15 = .ok (.invokestatic 122, 3) := by decide +kernel
theorem dX12_cheesesLeft_18 : decode cX12_cheesesLeft 18 = .ok (.iconst 2, 1) := by decide +kernel
theorem dX12_cheesesLeft_19 : decode cX12_cheesesLeft 19 = .ok (.iadd, 1) := by decide +kernel
theorem dX12_cheesesLeft_20 : decode cX12_cheesesLeft 20 = .ok (.iaload, 1) := by decide +kernel
theorem dX12_cheesesLeft_21 : decode cX12_cheesesLeft 21 = .ok (.ireturn, 1) := by decide +kernel
theorem dX12_ticketCount_0 : decode cX12_ticketCount 0 = .ok (.aload_n 0, 1) := by decide +kernel
theorem dX12_ticketCount_1 : decode cX12_ticketCount 1 = .ok (.iconst 0, 1) := by decide +kernel
theorem dX12_ticketCount_2 : decode cX12_ticketCount 2 = .ok (.putfield 72, 3) := by decide +kernel
theorem dX12_ticketCount_5 : decode cX12_ticketCount 5 = .ok (.aload_n 0, 1) := by decide +kernel
theorem dX12_ticketCount_6 : decode cX12_ticketCount 6 = .ok (.getfield 7, 3) := by decide +kernel
theorem dX12_ticketCount_9 : decode cX12_ticketCount 9 = .ok (.bipush 6, 2) := by decide +kernel
theorem dX12_ticketCount_11 : decode cX12_ticketCount 11 = .ok (.iaload, 1) := by decide +kernel
theorem dX12_ticketCount_12 : decode cX12_ticketCount 12 = .ok (.ireturn, 1) := by decide +kernel
set_option maxRecDepth 20000 in
theorem ggX12_ticketAt_X12_noNumber : GoodIn wsX12_ticketAt wsX12_noNumber := goodIn_r _ [6, 7, 8, 9, 5, 10, 11, 12, 13, 14, 18, 19, 20, 21, 22, 23, 24, 25, 26, 27, 28, 29, 30, 31, 32, 33, 34, 35, 36, 37, 38, 39] (by decide +kernel) (by decide +kernel)
set_option maxRecDepth 20000 in
theorem gX12_ticketAt_X12_noNumber : GoodIn wsX12_ticketAt (wsV RX12 160 RX12 yX12_noNumber wsX12_noNumber) := goodIn_app (goodIn_of _ (by decide +kernel)) ggX12_ticketAt_X12_noNumber
set_option maxRecDepth 20000 in
theorem ggX12_ticketAt_X12_ofTicket : GoodIn wsX12_ticketAt wsX12_ofTicket := goodIn_r _ [17] (by decide +kernel) (by decide +kernel)
set_option maxRecDepth 20000 in
theorem gX12_ticketAt_X12_ofTicket : GoodIn wsX12_ticketAt (va_wsS RX12 98 yX12_ofTicket wsX12_ofTicket) := goodIn_app (goodIn_of _ (by decide +kernel)) ggX12_ticketAt_X12_ofTicket
theorem dX12_ticketAt_0 : decode cX12_ticketAt 0 = .ok (.aload_n 0, 1) := by decide +kernel
theorem dX12_ticketAt_1 : decode cX12_ticketAt 1 = .ok (.iload_n 1, 1) := by decide +kernel
theorem dX12_ticketAt_2 : decode cX12_ticketAt 2 = .ok (.iconst 0, 1) := by decide +kernel
theorem dX12_ticketAt_3 : decode cX12_ticketAt 3 = .ok (.aload_n 0, 1) := by decide +kernel
theorem dX12_ticketAt_4 : decode cX12_ticketAt 4 = .ok (.getfield 7, 3) := by decide +kernel
theorem dX12_ticketAt_7 : decode cX12_ticketAt 7 = .ok (.bipush 6, 2) := by decide +kernel
theorem dX12_ticketAt_9 : decode cX12_ticketAt 9 = .ok (.iaload, 1) := by decide +kernel
theorem dX12_ticketAt_10 : decode cX12_ticketAt 10 = .ok (.iconst 1, 1) := by decide +kernel
theorem dX12_ticketAt_11 : decode cX12_ticketAt 11 = .ok (.isub, 1) := by decide +kernel
theorem dX12_ticketAt_12 : decode cX12_ticketAt 12 = .ok (.invokevirtual 160, 3) := by decide +kernel
theorem dX12_ticketAt_15 : decode cX12_ticketAt 15 = .ok (.ifCond .eq 5, 3) := by decide +kernel
theorem dX12_ticketAt_18 : decode cX12_ticketAt 18 = .ok (.iconst 0, 1) := by decide +kernel
theorem dX12_ticketAt_19 : decode cX12_ticketAt 19 = .ok (.ireturn, 1) := by decide +kernel
theorem dX12_ticketAt_20 : decode cX12_ticketAt 20 = .ok (.aload_n 0, 1) := by decide +kernel
theorem dX12_ticketAt_21 : decode cX12_ticketAt 21 = .ok (.getfield 7, 3) := by decide +kernel
theorem dX12_ticketAt_24 : decode cX12_ticketAt 24 = .ok (.iload_n 1, 1) := by decide +kernel
theorem dX12_ticketAt_25 : decode cX12_ticketAt 25 = .ok (.invokestatic 98, 3) := by decide +kernel
theorem dX12_ticketAt_28 : decode cX12_ticketAt 28 = .ok (.iconst 0, 1) := by decide +kernel
theorem dX12_ticketAt_29 : decode cX12_ticketAt 29 = .ok (.iadd, 1) := by decide +kernel
theorem dX12_ticketAt_30 : decode cX12_ticketAt 30 = .ok (.iaload, 1) := by decide +kernel
theorem dX12_ticketAt_31 : decode cX12_ticketAt 31 = .ok (.ireturn, 1) := by decide +kernel
set_option maxRecDepth 20000 in
theorem ggX12_ofIt_X12_noTicket : GoodIn wsX12_ofIt wsX12_noTicket := goodIn_r _ [6, 7, 1, 8, 9, 5, 10, 11, 12, 13, 14, 15, 16, 17, 18, 19, 20, 21, 22, 23, 24, 25, 26, 27, 28, 29, 30, 31, 32, 33, 34, 35, 36, 37, 38, 39] (by decide +kernel) (by decide +kernel)
set_option maxRecDepth 20000 in
theorem gX12_ofIt_X12_noTicket : GoodIn wsX12_ofIt (wsV RX12 394 RX12 yX12_noTicket wsX12_noTicket) := goodIn_app (goodIn_of _ (by decide +kernel)) ggX12_ofIt_X12_noTicket
set_option maxRecDepth 20000 in
theorem ggX12_ofIt_X12_find : GoodIn wsX12_ofIt wsX12_find := goodIn_r _ [10, 11, 12, 5, 13] (by decide +kernel) (by decide +kernel)
set_option maxRecDepth 20000 in
theorem gX12_ofIt_X12_find : GoodIn wsX12_ofIt (va_wsS RX12 226 yX12_find wsX12_find) := goodIn_app (goodIn_of _ (by decide +kernel)) ggX12_ofIt_X12_find
set_option maxRecDepth 20000 in
theorem ggX12_ofIt_X12_ofTicket : GoodIn wsX12_ofIt wsX12_ofTicket := goodIn_r _ [13] (by decide +kernel) (by decide +kernel)
set_option maxRecDepth 20000 in
theorem gX12_ofIt_X12_ofTicket : GoodIn wsX12_ofIt (va_wsS RX12 98 yX12_ofTicket wsX12_ofTicket) := goodIn_app (goodIn_of _ (by decide +kernel)) ggX12_ofIt_X12_ofTicket
theorem dX12_ofIt_0 : decode cX12_ofIt 0 = .ok (.aload_n 0, 1) := by decide +kernel
theorem dX12_ofIt_1 : decode cX12_ofIt 1 = .ok (.iload_n 1, 1) := by decide +kernel
theorem dX12_ofIt_2 : decode cX12_ofIt 2 = .ok (.invokevirtual 394, 3) := by decide +kernel
theorem dX12_ofIt_5 : decode cX12_ofIt 5 = .ok (.ifCond .eq 5, 3) := by decide +kernel
theorem dX12_ofIt_8 : decode cX12_ofIt 8 = .ok (.iconst 0, 1) := by decide +kernel
theorem dX12_ofIt_9 : decode cX12_ofIt 9 = .ok (.ireturn, 1) := by decide +kernel
theorem dX12_ofIt_10 : decode cX12_ofIt 10 = .ok (.aload_n 0, 1) := by decide +kernel
theorem dX12_ofIt_11 : decode cX12_ofIt 11 = .ok (.getfield 7, 3) := by decide +kernel
theorem dX12_ofIt_14 : decode cX12_ofIt 14 = .ok (.aload_n 0, 1) := by decide +kernel
theorem dX12_ofIt_15 : decode cX12_ofIt 15 = .ok (.getfield 7, 3) := by decide +kernel
theorem dX12_ofIt_18 : decode cX12_ofIt 18 = .ok (.iload_n 1, 1) := by decide +kernel
theorem dX12_ofIt_19 : decode cX12_ofIt 19 = .ok (.invokestatic 226, 3) := by decide +kernel
theorem dX12_ofIt_22 : decode cX12_ofIt 22 = .ok (.invokestatic 98, 3) := by decide +kernel
theorem dX12_ofIt_25 : decode cX12_ofIt 25 = .ok (.iload_n 2, 1) := by decide +kernel
theorem dX12_ofIt_26 : decode cX12_ofIt 26 = .ok (.iadd, 1) := by decide +kernel
theorem dX12_ofIt_27 : decode cX12_ofIt 27 = .ok (.iaload, 1) := by decide +kernel
theorem dX12_ofIt_28 : decode cX12_ofIt 28 = .ok (.ireturn, 1) := by decide +kernel
set_option maxRecDepth 20000 in
theorem ggX12_kindOf_X12_ofIt : GoodIn wsX12_kindOf wsX12_ofIt := goodIn_r _ [5, 6, 7, 8, 9, 4, 10, 11, 12, 13, 14, 15, 16, 17, 18, 19, 20, 21, 22, 23, 24, 25, 26, 27, 28, 29, 30, 31, 32, 33, 34, 35, 36, 37, 38, 39, 40, 41, 42, 43] (by decide +kernel) (by decide +kernel)
set_option maxRecDepth 20000 in
theorem gX12_kindOf_X12_ofIt : GoodIn wsX12_kindOf (wsV RX12 397 RX12 yX12_ofIt wsX12_ofIt) := goodIn_app (goodIn_of _ (by decide +kernel)) ggX12_kindOf_X12_ofIt
theorem dX12_kindOf_0 : decode cX12_kindOf 0 = .ok (.aload_n 0, 1) := by decide +kernel
theorem dX12_kindOf_1 : decode cX12_kindOf 1 = .ok (.iload_n 1, 1) := by decide +kernel
theorem dX12_kindOf_2 : decode cX12_kindOf 2 = .ok (.iconst 1, 1) := by decide +kernel
theorem dX12_kindOf_3 : decode cX12_kindOf 3 = .ok (.invokevirtual 397, 3) := by decide +kernel
theorem dX12_kindOf_6 : decode cX12_kindOf 6 = .ok (.ireturn, 1) := by decide +kernel
set_option maxRecDepth 20000 in
theorem ggX12_ownerOf_X12_ofIt : GoodIn wsX12_ownerOf wsX12_ofIt := goodIn_r _ [5, 6, 7, 8, 9, 4, 10, 11, 12, 13, 14, 15, 16, 17, 18, 19, 20, 21, 22, 23, 24, 25, 26, 27, 28, 29, 30, 31, 32, 33, 34, 35, 36, 37, 38, 39, 40, 41, 42, 43] (by decide +kernel) (by decide +kernel)
set_option maxRecDepth 20000 in
theorem gX12_ownerOf_X12_ofIt : GoodIn wsX12_ownerOf (wsV RX12 397 RX12 yX12_ofIt wsX12_ofIt) := goodIn_app (goodIn_of _ (by decide +kernel)) ggX12_ownerOf_X12_ofIt
theorem dX12_ownerOf_0 : decode cX12_ownerOf 0 = .ok (.aload_n 0, 1) := by decide +kernel
theorem dX12_ownerOf_1 : decode cX12_ownerOf 1 = .ok (.iload_n 1, 1) := by decide +kernel
theorem dX12_ownerOf_2 : decode cX12_ownerOf 2 = .ok (.iconst 2, 1) := by decide +kernel
theorem dX12_ownerOf_3 : decode cX12_ownerOf 3 = .ok (.invokevirtual 397, 3) := by decide +kernel
theorem dX12_ownerOf_6 : decode cX12_ownerOf 6 = .ok (.ireturn, 1) := by decide +kernel
set_option maxRecDepth 20000 in
theorem ggX12_realmOf_X12_ofIt : GoodIn wsX12_realmOf wsX12_ofIt := goodIn_r _ [5, 6, 7, 8, 9, 4, 10, 11, 12, 13, 14, 15, 16, 17, 18, 19, 20, 21, 22, 23, 24, 25, 26, 27, 28, 29, 30, 31, 32, 33, 34, 35, 36, 37, 38, 39, 40, 41, 42, 43] (by decide +kernel) (by decide +kernel)
set_option maxRecDepth 20000 in
theorem gX12_realmOf_X12_ofIt : GoodIn wsX12_realmOf (wsV RX12 397 RX12 yX12_ofIt wsX12_ofIt) := goodIn_app (goodIn_of _ (by decide +kernel)) ggX12_realmOf_X12_ofIt
theorem dX12_realmOf_0 : decode cX12_realmOf 0 = .ok (.aload_n 0, 1) := by decide +kernel
theorem dX12_realmOf_1 : decode cX12_realmOf 1 = .ok (.iload_n 1, 1) := by decide +kernel
theorem dX12_realmOf_2 : decode cX12_realmOf 2 = .ok (.iconst 3, 1) := by decide +kernel
theorem dX12_realmOf_3 : decode cX12_realmOf 3 = .ok (.invokevirtual 397, 3) := by decide +kernel
theorem dX12_realmOf_6 : decode cX12_realmOf 6 = .ok (.ireturn, 1) := by decide +kernel
set_option maxRecDepth 20000 in
theorem ggX12_serviceOf_X12_ofIt : GoodIn wsX12_serviceOf wsX12_ofIt := goodIn_r _ [5, 6, 7, 8, 9, 4, 10, 11, 12, 13, 14, 15, 16, 17, 18, 19, 20, 21, 22, 23, 24, 25, 26, 27, 28, 29, 30, 31, 32, 33, 34, 35, 36, 37, 38, 39, 40, 41, 42, 43] (by decide +kernel) (by decide +kernel)
set_option maxRecDepth 20000 in
theorem gX12_serviceOf_X12_ofIt : GoodIn wsX12_serviceOf (wsV RX12 397 RX12 yX12_ofIt wsX12_ofIt) := goodIn_app (goodIn_of _ (by decide +kernel)) ggX12_serviceOf_X12_ofIt
theorem dX12_serviceOf_0 : decode cX12_serviceOf 0 = .ok (.aload_n 0, 1) := by decide +kernel
theorem dX12_serviceOf_1 : decode cX12_serviceOf 1 = .ok (.iload_n 1, 1) := by decide +kernel
theorem dX12_serviceOf_2 : decode cX12_serviceOf 2 = .ok (.iconst 4, 1) := by decide +kernel
theorem dX12_serviceOf_3 : decode cX12_serviceOf 3 = .ok (.invokevirtual 397, 3) := by decide +kernel
theorem dX12_serviceOf_6 : decode cX12_serviceOf 6 = .ok (.ireturn, 1) := by decide +kernel
set_option maxRecDepth 20000 in
theorem ggX12_startOf_X12_ofIt : GoodIn wsX12_startOf wsX12_ofIt := goodIn_r _ [5, 6, 7, 8, 9, 4, 10, 11, 12, 13, 14, 15, 16, 17, 18, 19, 20, 21, 22, 23, 24, 25, 26, 27, 28, 29, 30, 31, 32, 33, 34, 35, 36, 37, 38, 39, 40, 41, 42, 43] (by decide +kernel) (by decide +kernel)
set_option maxRecDepth 20000 in
theorem gX12_startOf_X12_ofIt : GoodIn wsX12_startOf (wsV RX12 397 RX12 yX12_ofIt wsX12_ofIt) := goodIn_app (goodIn_of _ (by decide +kernel)) ggX12_startOf_X12_ofIt
theorem dX12_startOf_0 : decode cX12_startOf 0 = .ok (.aload_n 0, 1) := by decide +kernel
theorem dX12_startOf_1 : decode cX12_startOf 1 = .ok (.iload_n 1, 1) := by decide +kernel
theorem dX12_startOf_2 : decode cX12_startOf 2 = .ok (.iconst 5, 1) := by decide +kernel
theorem dX12_startOf_3 : decode cX12_startOf 3 = .ok (.invokevirtual 397, 3) := by decide +kernel
theorem dX12_startOf_6 : decode cX12_startOf 6 = .ok (.ireturn, 1) := by decide +kernel
set_option maxRecDepth 20000 in
theorem ggX12_endOf_X12_ofIt : GoodIn wsX12_endOf wsX12_ofIt := goodIn_r _ [5, 6, 7, 8, 9, 4, 10, 11, 12, 13, 14, 15, 16, 17, 18, 19, 20, 21, 22, 23, 24, 25, 26, 27, 28, 29, 30, 31, 32, 33, 34, 35, 36, 37, 38, 39, 40, 41, 42, 43] (by decide +kernel) (by decide +kernel)
set_option maxRecDepth 20000 in
theorem gX12_endOf_X12_ofIt : GoodIn wsX12_endOf (wsV RX12 397 RX12 yX12_ofIt wsX12_ofIt) := goodIn_app (goodIn_of _ (by decide +kernel)) ggX12_endOf_X12_ofIt
theorem dX12_endOf_0 : decode cX12_endOf 0 = .ok (.aload_n 0, 1) := by decide +kernel
theorem dX12_endOf_1 : decode cX12_endOf 1 = .ok (.iload_n 1, 1) := by decide +kernel
theorem dX12_endOf_2 : decode cX12_endOf 2 = .ok (.bipush 6, 2) := by decide +kernel
theorem dX12_endOf_4 : decode cX12_endOf 4 = .ok (.invokevirtual 397, 3) := by decide +kernel
theorem dX12_endOf_7 : decode cX12_endOf 7 = .ok (.ireturn, 1) := by decide +kernel
set_option maxRecDepth 20000 in
theorem ggX12_lastEndOf_X12_ofIt : GoodIn wsX12_lastEndOf wsX12_ofIt := goodIn_r _ [5, 6, 7, 8, 9, 4, 10, 11, 12, 13, 14, 15, 16, 17, 18, 19, 20, 21, 22, 23, 24, 25, 26, 27, 28, 29, 30, 31, 32, 33, 34, 35, 36, 37, 38, 39, 40, 41, 42, 43] (by decide +kernel) (by decide +kernel)
set_option maxRecDepth 20000 in
theorem gX12_lastEndOf_X12_ofIt : GoodIn wsX12_lastEndOf (wsV RX12 397 RX12 yX12_ofIt wsX12_ofIt) := goodIn_app (goodIn_of _ (by decide +kernel)) ggX12_lastEndOf_X12_ofIt
theorem dX12_lastEndOf_0 : decode cX12_lastEndOf 0 = .ok (.aload_n 0, 1) := by decide +kernel
theorem dX12_lastEndOf_1 : decode cX12_lastEndOf 1 = .ok (.iload_n 1, 1) := by decide +kernel
theorem dX12_lastEndOf_2 : decode cX12_lastEndOf 2 = .ok (.bipush 7, 2) := by decide +kernel
theorem dX12_lastEndOf_4 : decode cX12_lastEndOf 4 = .ok (.invokevirtual 397, 3) := by decide +kernel
theorem dX12_lastEndOf_7 : decode cX12_lastEndOf 7 = .ok (.ireturn, 1) := by decide +kernel
set_option maxRecDepth 20000 in
theorem ggX12_keyOf_X12_ofIt : GoodIn wsX12_keyOf wsX12_ofIt := goodIn_r _ [5, 6, 7, 8, 9, 4, 10, 11, 12, 13, 14, 15, 16, 17, 18, 19, 20, 21, 22, 23, 24, 25, 26, 27, 28, 29, 30, 31, 32, 33, 34, 35, 36, 37, 38, 39, 40, 41, 42, 43] (by decide +kernel) (by decide +kernel)
set_option maxRecDepth 20000 in
theorem gX12_keyOf_X12_ofIt : GoodIn wsX12_keyOf (wsV RX12 397 RX12 yX12_ofIt wsX12_ofIt) := goodIn_app (goodIn_of _ (by decide +kernel)) ggX12_keyOf_X12_ofIt
theorem dX12_keyOf_0 : decode cX12_keyOf 0 = .ok (.aload_n 0, 1) := by decide +kernel
theorem dX12_keyOf_1 : decode cX12_keyOf 1 = .ok (.iload_n 1, 1) := by decide +kernel
theorem dX12_keyOf_2 : decode cX12_keyOf 2 = .ok (.bipush 8, 2) := by decide +kernel
theorem dX12_keyOf_4 : decode cX12_keyOf 4 = .ok (.invokevirtual 397, 3) := by decide +kernel
theorem dX12_keyOf_7 : decode cX12_keyOf 7 = .ok (.ireturn, 1) := by decide +kernel
set_option maxRecDepth 20000 in
theorem ggX12_isRenewable_X12_ofIt : GoodIn wsX12_isRenewable wsX12_ofIt := goodIn_r _ [5, 6, 7, 8, 9, 4, 10, 11, 12, 13, 14, 15, 16, 17, 18, 19, 20, 21, 22, 23, 24, 25, 26, 27, 28, 29, 30, 31, 32, 33, 34, 35, 36, 37, 38, 39, 40, 41, 42, 43] (by decide +kernel) (by decide +kernel)
set_option maxRecDepth 20000 in
theorem gX12_isRenewable_X12_ofIt : GoodIn wsX12_isRenewable (wsV RX12 397 RX12 yX12_ofIt wsX12_ofIt) := goodIn_app (goodIn_of _ (by decide +kernel)) ggX12_isRenewable_X12_ofIt
theorem dX12_isRenewable_0 : decode cX12_isRenewable 0 = .ok (.aload_n 0, 1) := by decide +kernel
theorem dX12_isRenewable_1 : decode cX12_isRenewable 1 = .ok (.iload_n 1, 1) := by decide +kernel
theorem dX12_isRenewable_2 : decode cX12_isRenewable 2 = .ok (.bipush 9, 2) := by decide +kernel
theorem dX12_isRenewable_4 : decode cX12_isRenewable 4 = .ok (.invokevirtual 397, 3) := by decide +kernel
theorem dX12_isRenewable_7 : decode cX12_isRenewable 7 = .ok (.iconst 1, 1) := by decide +kernel
theorem dX12_isRenewable_8 : decode cX12_isRenewable 8 = .ok (.if_icmp .ne 7, 3) := by decide +kernel
theorem dX12_isRenewable_11 : decode cX12_isRenewable 11 = .ok (.iconst 1, 1) := by decide +kernel
theorem dX12_isRenewable_12 : decode cX12_isRenewable 12 = .ok (.goto 4, 3) := by decide +kernel
theorem dX12_isRenewable_15 : decode cX12_isRenewable 15 = .ok (.iconst 0, 1) := by decide +kernel
theorem dX12_isRenewable_16 : decode cX12_isRenewable 16 = .ok (.ireturn, 1) := by decide +kernel
set_option maxRecDepth 20000 in
theorem ggX12_isValid_X12_noTicket : GoodIn wsX12_isValid wsX12_noTicket := goodIn_r _ [6, 7, 1, 8, 9, 5, 10, 11, 12, 13, 14, 15, 16, 17, 21, 22, 23, 24, 25, 26, 27, 28, 29, 30, 31, 32, 33, 34, 35, 36, 37, 38, 39, 40, 41, 42] (by decide +kernel) (by decide +kernel)
set_option maxRecDepth 20000 in
theorem gX12_isValid_X12_noTicket : GoodIn wsX12_isValid (wsV RX12 394 RX12 yX12_noTicket wsX12_noTicket) := goodIn_app (goodIn_of _ (by decide +kernel)) ggX12_isValid_X12_noTicket
set_option maxRecDepth 20000 in
theorem ggX12_isValid_X12_find : GoodIn wsX12_isValid wsX12_find := goodIn_r _ [10, 11, 12, 5, 13] (by decide +kernel) (by decide +kernel)
set_option maxRecDepth 20000 in
theorem gX12_isValid_X12_find : GoodIn wsX12_isValid (va_wsS RX12 226 yX12_find wsX12_find) := goodIn_app (goodIn_of _ (by decide +kernel)) ggX12_isValid_X12_find
set_option maxRecDepth 20000 in
theorem ggX12_isValid_X12_lives : GoodIn wsX12_isValid wsX12_lives := goodIn_r _ [20, 11, 12, 5, 13] (by decide +kernel) (by decide +kernel)
set_option maxRecDepth 20000 in
theorem gX12_isValid_X12_lives : GoodIn wsX12_isValid (va_wsS RX12 101 yX12_lives wsX12_lives) := goodIn_app (goodIn_of _ (by decide +kernel)) ggX12_isValid_X12_lives
theorem dX12_isValid_0 : decode cX12_isValid 0 = .ok (.aload_n 0, 1) := by decide +kernel
theorem dX12_isValid_1 : decode cX12_isValid 1 = .ok (.iload_n 1, 1) := by decide +kernel
theorem dX12_isValid_2 : decode cX12_isValid 2 = .ok (.invokevirtual 394, 3) := by decide +kernel
theorem dX12_isValid_5 : decode cX12_isValid 5 = .ok (.ifCond .eq 5, 3) := by decide +kernel
theorem dX12_isValid_8 : decode cX12_isValid 8 = .ok (.iconst 0, 1) := by decide +kernel
theorem dX12_isValid_9 : decode cX12_isValid 9 = .ok (.ireturn, 1) := by decide +kernel
theorem dX12_isValid_10 : decode cX12_isValid 10 = .ok (.aload_n 0, 1) := by decide +kernel
theorem dX12_isValid_11 : decode cX12_isValid 11 = .ok (.getfield 7, 3) := by decide +kernel
theorem dX12_isValid_14 : decode cX12_isValid 14 = .ok (.aload_n 0, 1) := by decide +kernel
theorem dX12_isValid_15 : decode cX12_isValid 15 = .ok (.getfield 7, 3) := by decide +kernel
theorem dX12_isValid_18 : decode cX12_isValid 18 = .ok (.iload_n 1, 1) := by decide +kernel
theorem dX12_isValid_19 : decode cX12_isValid 19 = .ok (.invokestatic 226, 3) := by decide +kernel
theorem dX12_isValid_22 : decode cX12_isValid 22 = .ok (.invokestatic 101, 3) := by decide +kernel
theorem dX12_isValid_25 : decode cX12_isValid 25 = .ok (.ireturn, 1) := by decide +kernel
set_option maxRecDepth 20000 in
theorem ggX12_minutesLeft_X12_noTicket : GoodIn wsX12_minutesLeft wsX12_noTicket := goodIn_r _ [6, 7, 1, 8, 9, 5, 10, 11, 12, 13, 14, 15, 16, 17, 21, 22, 23, 24, 25, 26, 27, 28, 29, 30, 31, 32, 33, 34, 35, 36, 37, 38, 39, 40, 41, 42] (by decide +kernel) (by decide +kernel)
set_option maxRecDepth 20000 in
theorem gX12_minutesLeft_X12_noTicket : GoodIn wsX12_minutesLeft (wsV RX12 394 RX12 yX12_noTicket wsX12_noTicket) := goodIn_app (goodIn_of _ (by decide +kernel)) ggX12_minutesLeft_X12_noTicket
set_option maxRecDepth 20000 in
theorem ggX12_minutesLeft_X12_find : GoodIn wsX12_minutesLeft wsX12_find := goodIn_r _ [10, 11, 12, 5, 13] (by decide +kernel) (by decide +kernel)
set_option maxRecDepth 20000 in
theorem gX12_minutesLeft_X12_find : GoodIn wsX12_minutesLeft (va_wsS RX12 226 yX12_find wsX12_find) := goodIn_app (goodIn_of _ (by decide +kernel)) ggX12_minutesLeft_X12_find
set_option maxRecDepth 20000 in
theorem ggX12_minutesLeft_X12_ofTicket : GoodIn wsX12_minutesLeft wsX12_ofTicket := goodIn_r _ [13] (by decide +kernel) (by decide +kernel)
set_option maxRecDepth 20000 in
theorem gX12_minutesLeft_X12_ofTicket : GoodIn wsX12_minutesLeft (va_wsS RX12 98 yX12_ofTicket wsX12_ofTicket) := goodIn_app (goodIn_of _ (by decide +kernel)) ggX12_minutesLeft_X12_ofTicket
set_option maxRecDepth 20000 in
theorem ggX12_minutesLeft_X12_greater : GoodIn wsX12_minutesLeft wsX12_greater := goodIn_r _ [20] (by decide +kernel) (by decide +kernel)
set_option maxRecDepth 20000 in
theorem gX12_minutesLeft_X12_greater : GoodIn wsX12_minutesLeft (va_wsS RX12 105 yX12_greater wsX12_greater) := goodIn_app (goodIn_of _ (by decide +kernel)) ggX12_minutesLeft_X12_greater
theorem dX12_minutesLeft_0 : decode cX12_minutesLeft 0 = .ok (.aload_n 0, 1) := by decide +kernel
theorem dX12_minutesLeft_1 : decode cX12_minutesLeft 1 = .ok (.iload_n 1, 1) := by decide +kernel
theorem dX12_minutesLeft_2 : decode cX12_minutesLeft 2 = .ok (.invokevirtual 394, 3) := by decide +kernel
theorem dX12_minutesLeft_5 : decode cX12_minutesLeft 5 = .ok (.ifCond .eq 5, 3) := by decide +kernel
theorem dX12_minutesLeft_8 : decode cX12_minutesLeft 8 = .ok (.iconst 0, 1) := by decide +kernel
theorem dX12_minutesLeft_9 : decode cX12_minutesLeft 9 = .ok (.ireturn, 1) := by decide +kernel
theorem dX12_minutesLeft_10 : decode cX12_minutesLeft 10 = .ok (.iconst 0, 1) := by decide +kernel
theorem dX12_minutesLeft_11 : decode cX12_minutesLeft 11 = .ok (.aload_n 0, 1) := by decide +kernel
theorem dX12_minutesLeft_12 : decode cX12_minutesLeft 12 = .ok (.getfield 7, 3) := by decide +kernel
theorem dX12_minutesLeft_15 : decode cX12_minutesLeft 15 = .ok (.aload_n 0, 1) := by decide +kernel
theorem dX12_minutesLeft_16 : decode cX12_minutesLeft 16 = .ok (.getfield 7, 3) := by decide +kernel
theorem dX12_minutesLeft_19 : decode cX12_minutesLeft 19 = .ok (.iload_n 1, 1) := by decide +kernel
theorem dX12_minutesLeft_20 : decode cX12_minutesLeft 20 = .ok (.invokestatic 226, 3) := by decide +kernel
theorem dX12_minutesLeft_23 : decode cX12_minutesLeft 23 = .ok (.invokestatic 98, 3) := by decide +kernel
theorem dX12_minutesLeft_26 : decode cX12_minutesLeft 26 = .ok (.bipush 6, 2) := by decide +kernel
theorem dX12_minutesLeft_28 : decode cX12_minutesLeft 28 = .ok (.iadd, 1) := by decide +kernel
theorem dX12_minutesLeft_29 : decode cX12_minutesLeft 29 = .ok (.iaload, 1) := by decide +kernel
theorem dX12_minutesLeft_30 : decode cX12_minutesLeft 30 = .ok (.aload_n 0, 1) := by decide +kernel
theorem dX12_minutesLeft_31 : decode cX12_minutesLeft 31 = .ok (.getfield 7, 3) := by decide +kernel
theorem dX12_minutesLeft_34 : decode cX12_minutesLeft 34 = .ok (.iconst 0, 1) := by decide +kernel
theorem dX12_minutesLeft_35 : decode cX12_minutesLeft 35 = .ok (.iaload, 1) := by decide +kernel
theorem dX12_minutesLeft_36 : decode cX12_minutesLeft 36 = .ok (.isub, 1) := by decide +kernel
theorem dX12_minutesLeft_37 : decode cX12_minutesLeft 37 = .ok (.invokestatic 105, 3) := by decide +kernel
theorem dX12_minutesLeft_40 : decode cX12_minutesLeft 40 = .ok (.ireturn, 1) := by decide +kernel
set_option maxRecDepth 20000 in
theorem ggX12_loginRefusal_X12_noUser : GoodIn wsX12_loginRefusal wsX12_noUser := goodIn_r _ [6, 1, 7, 8, 9, 5, 10, 11, 12, 13, 14, 15, 16, 17, 18, 38, 39, 40, 41, 42, 43, 44, 45, 46, 47, 48, 49, 50, 51, 52, 53, 54, 55, 56, 57, 58, 59] (by decide +kernel) (by decide +kernel)
set_option maxRecDepth 20000 in
theorem gX12_loginRefusal_X12_noUser : GoodIn wsX12_loginRefusal (wsV RX12 388 RX12 yX12_noUser wsX12_noUser) := goodIn_app (goodIn_of _ (by decide +kernel)) ggX12_loginRefusal_X12_noUser
set_option maxRecDepth 20000 in
theorem ggX12_loginRefusal_X12_out : GoodIn wsX12_loginRefusal wsX12_out := goodIn_r _ [22, 12, 13, 5, 14, 15, 16, 17, 18, 11, 38, 39, 40, 41, 42, 43, 44, 45, 46, 47, 48, 49, 50, 51, 52, 53, 54, 55, 56, 57, 58, 59] (by decide +kernel) (by decide +kernel)
set_option maxRecDepth 20000 in
theorem gX12_loginRefusal_X12_out : GoodIn wsX12_loginRefusal (wsV RX12 400 RX12 yX12_out wsX12_out) := goodIn_app (goodIn_of _ (by decide +kernel)) ggX12_loginRefusal_X12_out
set_option maxRecDepth 20000 in
theorem ggX12_loginRefusal_X12_whyNotLogin : GoodIn wsX12_loginRefusal wsX12_whyNotLogin := goodIn_r _ [25, 26, 27, 5, 28, 29, 30, 31, 32, 33, 34, 35, 36, 37] (by decide +kernel) (by decide +kernel)
set_option maxRecDepth 20000 in
theorem gX12_loginRefusal_X12_whyNotLogin : GoodIn wsX12_loginRefusal (va_wsS RX12 263 yX12_whyNotLogin wsX12_whyNotLogin) := goodIn_app (goodIn_of _ (by decide +kernel)) ggX12_loginRefusal_X12_whyNotLogin
theorem dX12_loginRefusal_0 : decode cX12_loginRefusal 0 = .ok (.aload_n 0, 1) := by decide +kernel
theorem dX12_loginRefusal_1 : decode cX12_loginRefusal 1 = .ok (.iload_n 1, 1) := by decide +kernel
theorem dX12_loginRefusal_2 : decode cX12_loginRefusal 2 = .ok (.invokevirtual 388, 3) := by decide +kernel
theorem dX12_loginRefusal_5 : decode cX12_loginRefusal 5 = .ok (.ifCond .ne 15, 3) := by decide +kernel
theorem dX12_loginRefusal_8 : decode cX12_loginRefusal 8 = .ok (.aload_n 0, 1) := by decide +kernel
theorem dX12_loginRefusal_9 : decode cX12_loginRefusal 9 = .ok (.iload_n 2, 1) := by decide +kernel
theorem dX12_loginRefusal_10 : decode cX12_loginRefusal 10 = .ok (.iconst 0, 1) := by decide +kernel
theorem dX12_loginRefusal_11 : decode cX12_loginRefusal 11 = .ok (.sipush 9999, 3) := by decide +kernel
theorem dX12_loginRefusal_14 : decode cX12_loginRefusal 14 = .ok (.invokevirtual 400, 3) := by decide +kernel
theorem dX12_loginRefusal_17 : decode cX12_loginRefusal 17 = .ok (.ifCond .eq 5, 3) := by decide +kernel
theorem dX12_loginRefusal_20 : decode cX12_loginRefusal 20 = .ok (.iconst 0, 1) := by decide +kernel
theorem dX12_loginRefusal_21 : decode cX12_loginRefusal 21 = .ok (.ireturn, 1) := by decide +kernel
theorem dX12_loginRefusal_22 : decode cX12_loginRefusal 22 = .ok (.aload_n 0, 1) := by decide +kernel
theorem dX12_loginRefusal_23 : decode cX12_loginRefusal 23 = .ok (.getfield 7, 3) := by decide +kernel
theorem dX12_loginRefusal_26 : decode cX12_loginRefusal 26 = .ok (.iload_n 1, 1) := by decide +kernel
theorem dX12_loginRefusal_27 : decode cX12_loginRefusal 27 = .ok (.iload_n 2, 1) := by decide +kernel
theorem dX12_loginRefusal_28 : decode cX12_loginRefusal 28 = .ok (.invokestatic 263, 3) := by decide +kernel
theorem dX12_loginRefusal_31 : decode cX12_loginRefusal 31 = .ok (.ireturn, 1) := by decide +kernel
set_option maxRecDepth 20000 in
theorem ggX12_referRefusal_X12_noTicket : GoodIn wsX12_referRefusal wsX12_noTicket := goodIn_r _ [6, 7, 1, 8, 9, 5, 10, 11, 12, 13, 14, 15, 16, 17, 52, 53, 54, 55, 56, 57, 58, 59, 60, 61, 62, 63, 64, 65, 66, 67, 68, 69, 70, 71, 72, 73] (by decide +kernel) (by decide +kernel)
set_option maxRecDepth 20000 in
theorem gX12_referRefusal_X12_noTicket : GoodIn wsX12_referRefusal (wsV RX12 394 RX12 yX12_noTicket wsX12_noTicket) := goodIn_app (goodIn_of _ (by decide +kernel)) ggX12_referRefusal_X12_noTicket
set_option maxRecDepth 20000 in
theorem ggX12_referRefusal_X12_out : GoodIn wsX12_referRefusal wsX12_out := goodIn_r _ [21, 22, 23, 5, 24, 14, 15, 16, 17, 7, 52, 53, 54, 55, 56, 57, 58, 59, 60, 61, 62, 63, 64, 65, 66, 67, 68, 69, 70, 71, 72, 73] (by decide +kernel) (by decide +kernel)
set_option maxRecDepth 20000 in
theorem gX12_referRefusal_X12_out : GoodIn wsX12_referRefusal (wsV RX12 400 RX12 yX12_out wsX12_out) := goodIn_app (goodIn_of _ (by decide +kernel)) ggX12_referRefusal_X12_out
set_option maxRecDepth 20000 in
theorem ggX12_referRefusal_X12_find : GoodIn wsX12_referRefusal wsX12_find := goodIn_r _ [10, 11, 12, 5, 13] (by decide +kernel) (by decide +kernel)
set_option maxRecDepth 20000 in
theorem gX12_referRefusal_X12_find : GoodIn wsX12_referRefusal (va_wsS RX12 226 yX12_find wsX12_find) := goodIn_app (goodIn_of _ (by decide +kernel)) ggX12_referRefusal_X12_find
set_option maxRecDepth 20000 in
theorem ggX12_referRefusal_X12_whyNotRefer : GoodIn wsX12_referRefusal wsX12_whyNotRefer := goodIn_r _ [27, 28, 29, 5, 30, 11, 12, 13, 31, 32, 33, 34, 35, 36, 37, 38, 39, 40, 41, 42, 43, 44, 45, 46, 47, 48, 49, 50, 51] (by decide +kernel) (by decide +kernel)
set_option maxRecDepth 20000 in
theorem gX12_referRefusal_X12_whyNotRefer : GoodIn wsX12_referRefusal (va_wsS RX12 273 yX12_whyNotRefer wsX12_whyNotRefer) := goodIn_app (goodIn_of _ (by decide +kernel)) ggX12_referRefusal_X12_whyNotRefer
theorem dX12_referRefusal_0 : decode cX12_referRefusal 0 = .ok (.aload_n 0, 1) := by decide +kernel
theorem dX12_referRefusal_1 : decode cX12_referRefusal 1 = .ok (.iload_n 1, 1) := by decide +kernel
theorem dX12_referRefusal_2 : decode cX12_referRefusal 2 = .ok (.invokevirtual 394, 3) := by decide +kernel
theorem dX12_referRefusal_5 : decode cX12_referRefusal 5 = .ok (.ifCond .ne 20, 3) := by decide +kernel
theorem dX12_referRefusal_8 : decode cX12_referRefusal 8 = .ok (.aload_n 0, 1) := by decide +kernel
theorem dX12_referRefusal_9 : decode cX12_referRefusal 9 = .ok (.iload_n 2, 1) := by decide +kernel
theorem dX12_referRefusal_10 : decode cX12_referRefusal 10 = .ok (.iconst 0, 1) := by decide +kernel
theorem dX12_referRefusal_11 : decode cX12_referRefusal 11 = .ok (.aload_n 0, 1) := by decide +kernel
theorem dX12_referRefusal_12 : decode cX12_referRefusal 12 = .ok (.getfield 7, 3) := by decide +kernel
theorem dX12_referRefusal_15 : decode cX12_referRefusal 15 = .ok (.iconst 3, 1) := by decide +kernel
theorem dX12_referRefusal_16 : decode cX12_referRefusal 16 = .ok (.iaload, 1) := by decide +kernel
theorem dX12_referRefusal_17 : decode cX12_referRefusal 17 = .ok (.iconst 1, 1) := by decide +kernel
theorem dX12_referRefusal_18 : decode cX12_referRefusal 18 = .ok (.isub, 1) := by decide +kernel
theorem dX12_referRefusal_19 : decode cX12_referRefusal 19 = .ok (.invokevirtual 400, 3) := by decide +kernel
theorem dX12_referRefusal_22 : decode cX12_referRefusal 22 = .ok (.ifCond .eq 5, 3) := by decide +kernel
theorem dX12_referRefusal_25 : decode cX12_referRefusal 25 = .ok (.iconst 0, 1) := by decide +kernel
theorem dX12_referRefusal_26 : decode cX12_referRefusal 26 = .ok (.ireturn, 1) := by decide +kernel
theorem dX12_referRefusal_27 : decode cX12_referRefusal 27 = .ok (.aload_n 0, 1) := by decide +kernel
theorem dX12_referRefusal_28 : decode cX12_referRefusal 28 = .ok (.getfield 7, 3) := by decide +kernel
theorem dX12_referRefusal_31 : decode cX12_referRefusal 31 = .ok (.aload_n 0, 1) := by decide +kernel
theorem dX12_referRefusal_32 : decode cX12_referRefusal 32 = .ok (.getfield 7, 3) := by decide +kernel
theorem dX12_referRefusal_35 : decode cX12_referRefusal 35 = .ok (.iload_n 1, 1) := by decide +kernel
theorem dX12_referRefusal_36 : decode cX12_referRefusal 36 = .ok (.invokestatic 226, 3) := by decide +kernel
theorem dX12_referRefusal_39 : decode cX12_referRefusal 39 = .ok (.iload_n 2, 1) := by decide +kernel
theorem dX12_referRefusal_40 : decode cX12_referRefusal 40 = .ok (.invokestatic 273, 3) := by decide +kernel
theorem dX12_referRefusal_43 : decode cX12_referRefusal 43 = .ok (.ireturn, 1) := by decide +kernel
set_option maxRecDepth 20000 in
theorem ggX12_requestRefusal_X12_noTicket : GoodIn wsX12_requestRefusal wsX12_noTicket := goodIn_r _ [6, 7, 1, 8, 9, 5, 10, 11, 12, 13, 14, 15, 16, 17, 52, 53, 54, 55, 56, 57, 58, 59, 60, 61, 62, 63, 64, 65, 66, 67, 68, 69, 70, 71, 72, 73] (by decide +kernel) (by decide +kernel)
set_option maxRecDepth 20000 in
theorem gX12_requestRefusal_X12_noTicket : GoodIn wsX12_requestRefusal (wsV RX12 394 RX12 yX12_noTicket wsX12_noTicket) := goodIn_app (goodIn_of _ (by decide +kernel)) ggX12_requestRefusal_X12_noTicket
set_option maxRecDepth 20000 in
theorem ggX12_requestRefusal_X12_out : GoodIn wsX12_requestRefusal wsX12_out := goodIn_r _ [21, 22, 23, 5, 24, 14, 15, 16, 17, 7, 52, 53, 54, 55, 56, 57, 58, 59, 60, 61, 62, 63, 64, 65, 66, 67, 68, 69, 70, 71, 72, 73] (by decide +kernel) (by decide +kernel)
set_option maxRecDepth 20000 in
theorem gX12_requestRefusal_X12_out : GoodIn wsX12_requestRefusal (wsV RX12 400 RX12 yX12_out wsX12_out) := goodIn_app (goodIn_of _ (by decide +kernel)) ggX12_requestRefusal_X12_out
set_option maxRecDepth 20000 in
theorem ggX12_requestRefusal_X12_find : GoodIn wsX12_requestRefusal wsX12_find := goodIn_r _ [10, 11, 12, 5, 13] (by decide +kernel) (by decide +kernel)
set_option maxRecDepth 20000 in
theorem gX12_requestRefusal_X12_find : GoodIn wsX12_requestRefusal (va_wsS RX12 226 yX12_find wsX12_find) := goodIn_app (goodIn_of _ (by decide +kernel)) ggX12_requestRefusal_X12_find
set_option maxRecDepth 20000 in
theorem ggX12_requestRefusal_X12_whyNotRequest : GoodIn wsX12_requestRefusal wsX12_whyNotRequest := goodIn_r _ [27, 28, 29, 5, 30, 11, 12, 13, 31, 32, 33, 34, 35, 36, 37, 38, 39, 40, 41, 42, 43, 44, 45, 46, 47, 48, 49, 50, 51] (by decide +kernel) (by decide +kernel)
set_option maxRecDepth 20000 in
theorem gX12_requestRefusal_X12_whyNotRequest : GoodIn wsX12_requestRefusal (va_wsS RX12 283 yX12_whyNotRequest wsX12_whyNotRequest) := goodIn_app (goodIn_of _ (by decide +kernel)) ggX12_requestRefusal_X12_whyNotRequest
theorem dX12_requestRefusal_0 : decode cX12_requestRefusal 0 = .ok (.aload_n 0, 1) := by decide +kernel
theorem dX12_requestRefusal_1 : decode cX12_requestRefusal 1 = .ok (.iload_n 1, 1) := by decide +kernel
theorem dX12_requestRefusal_2 : decode cX12_requestRefusal 2 = .ok (.invokevirtual 394, 3) := by decide +kernel
theorem dX12_requestRefusal_5 : decode cX12_requestRefusal 5 = .ok (.ifCond .ne 20, 3) := by decide +kernel
theorem dX12_requestRefusal_8 : decode cX12_requestRefusal 8 = .ok (.aload_n 0, 1) := by decide +kernel
theorem dX12_requestRefusal_9 : decode cX12_requestRefusal 9 = .ok (.iload_n 2, 1) := by decide +kernel
theorem dX12_requestRefusal_10 : decode cX12_requestRefusal 10 = .ok (.iconst 0, 1) := by decide +kernel
theorem dX12_requestRefusal_11 : decode cX12_requestRefusal 11 = .ok (.aload_n 0, 1) := by decide +kernel
theorem dX12_requestRefusal_12 : decode cX12_requestRefusal 12 = .ok (.getfield 7, 3) := by decide +kernel
theorem dX12_requestRefusal_15 : decode cX12_requestRefusal 15 = .ok (.iconst 5, 1) := by decide +kernel
theorem dX12_requestRefusal_16 : decode cX12_requestRefusal 16 = .ok (.iaload, 1) := by decide +kernel
theorem dX12_requestRefusal_17 : decode cX12_requestRefusal 17 = .ok (.iconst 1, 1) := by decide +kernel
theorem dX12_requestRefusal_18 : decode cX12_requestRefusal 18 = .ok (.isub, 1) := by decide +kernel
theorem dX12_requestRefusal_19 : decode cX12_requestRefusal 19 = .ok (.invokevirtual 400, 3) := by decide +kernel
theorem dX12_requestRefusal_22 : decode cX12_requestRefusal 22 = .ok (.ifCond .eq 5, 3) := by decide +kernel
theorem dX12_requestRefusal_25 : decode cX12_requestRefusal 25 = .ok (.iconst 0, 1) := by decide +kernel
theorem dX12_requestRefusal_26 : decode cX12_requestRefusal 26 = .ok (.ireturn, 1) := by decide +kernel
theorem dX12_requestRefusal_27 : decode cX12_requestRefusal 27 = .ok (.aload_n 0, 1) := by decide +kernel
theorem dX12_requestRefusal_28 : decode cX12_requestRefusal 28 = .ok (.getfield 7, 3) := by decide +kernel
theorem dX12_requestRefusal_31 : decode cX12_requestRefusal 31 = .ok (.aload_n 0, 1) := by decide +kernel
theorem dX12_requestRefusal_32 : decode cX12_requestRefusal 32 = .ok (.getfield 7, 3) := by decide +kernel
theorem dX12_requestRefusal_35 : decode cX12_requestRefusal 35 = .ok (.iload_n 1, 1) := by decide +kernel
theorem dX12_requestRefusal_36 : decode cX12_requestRefusal 36 = .ok (.invokestatic 226, 3) := by decide +kernel
theorem dX12_requestRefusal_39 : decode cX12_requestRefusal 39 = .ok (.iload_n 2, 1) := by decide +kernel
theorem dX12_requestRefusal_40 : decode cX12_requestRefusal 40 = .ok (.invokestatic 283, 3) := by decide +kernel
theorem dX12_requestRefusal_43 : decode cX12_requestRefusal 43 = .ok (.ireturn, 1) := by decide +kernel
set_option maxRecDepth 20000 in
theorem ggX12_renewRefusal_X12_noTicket : GoodIn wsX12_renewRefusal wsX12_noTicket := goodIn_r _ [6, 7, 1, 8, 9, 5, 10, 11, 12, 13, 14, 15, 16, 17, 33, 34, 35, 36, 37, 38, 39, 40, 41, 42, 43, 44, 45, 46, 47, 48, 49, 50, 51, 52, 53, 54] (by decide +kernel) (by decide +kernel)
set_option maxRecDepth 20000 in
theorem gX12_renewRefusal_X12_noTicket : GoodIn wsX12_renewRefusal (wsV RX12 394 RX12 yX12_noTicket wsX12_noTicket) := goodIn_app (goodIn_of _ (by decide +kernel)) ggX12_renewRefusal_X12_noTicket
set_option maxRecDepth 20000 in
theorem ggX12_renewRefusal_X12_find : GoodIn wsX12_renewRefusal wsX12_find := goodIn_r _ [10, 11, 12, 5, 13] (by decide +kernel) (by decide +kernel)
set_option maxRecDepth 20000 in
theorem gX12_renewRefusal_X12_find : GoodIn wsX12_renewRefusal (va_wsS RX12 226 yX12_find wsX12_find) := goodIn_app (goodIn_of _ (by decide +kernel)) ggX12_renewRefusal_X12_find
set_option maxRecDepth 20000 in
theorem ggX12_renewRefusal_X12_whyNotRenew : GoodIn wsX12_renewRefusal wsX12_whyNotRenew := goodIn_r _ [20, 11, 12, 5, 13, 21, 22, 23, 24, 25, 26, 27, 28, 29, 30, 31, 32] (by decide +kernel) (by decide +kernel)
set_option maxRecDepth 20000 in
theorem gX12_renewRefusal_X12_whyNotRenew : GoodIn wsX12_renewRefusal (va_wsS RX12 286 yX12_whyNotRenew wsX12_whyNotRenew) := goodIn_app (goodIn_of _ (by decide +kernel)) ggX12_renewRefusal_X12_whyNotRenew
theorem dX12_renewRefusal_0 : decode cX12_renewRefusal 0 = .ok (.aload_n 0, 1) := by decide +kernel
theorem dX12_renewRefusal_1 : decode cX12_renewRefusal 1 = .ok (.iload_n 1, 1) := by decide +kernel
theorem dX12_renewRefusal_2 : decode cX12_renewRefusal 2 = .ok (.invokevirtual 394, 3) := by decide +kernel
