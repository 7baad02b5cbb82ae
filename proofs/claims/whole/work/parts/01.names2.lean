theorem dX0_add_23 : decode cX0_add 23 = .ok (.aload_n 0, 1) := by decide +kernel
theorem dX0_add_24 : decode cX0_add 24 = .ok (.getfield 21, 3) := by decide +kernel
theorem dX0_add_27 : decode cX0_add 27 = .ok (.iload_n 1, 1) := by decide +kernel
theorem dX0_add_28 : decode cX0_add 28 = .ok (.sipush 255, 3) := by decide +kernel
theorem dX0_add_31 : decode cX0_add 31 = .ok (.iand, 1) := by decide +kernel
theorem dX0_add_32 : decode cX0_add 32 = .ok (.iastore, 1) := by decide +kernel
theorem dX0_add_33 : decode cX0_add 33 = .ok (.aload_n 0, 1) := by decide +kernel
theorem dX0_add_34 : decode cX0_add 34 = .ok (.dup, 1) := by decide +kernel
theorem dX0_add_35 : decode cX0_add 35 = .ok (.getfield 21, 3) := by decide +kernel
theorem dX0_add_38 : decode cX0_add 38 = .ok (.iconst 1, 1) := by decide +kernel
theorem dX0_add_39 : decode cX0_add 39 = .ok (.iadd, 1) := by decide +kernel
theorem dX0_add_40 : decode cX0_add 40 = .ok (.putfield 21, 3) := by decide +kernel
theorem dX0_add_43 : decode cX0_add 43 = .ok (.return_, 1) := by decide +kernel
set_option maxRecDepth 20000 in
theorem ggX0_addFour_X0_add : GoodIn wsX0_addFour wsX0_add := goodIn_r _ [5, 6, 7, 8, 9] (by decide +kernel) (by decide +kernel)
set_option maxRecDepth 20000 in
theorem gX0_addFour_X0_add : GoodIn wsX0_addFour (wsV RX0 25 RX0 yX0_add wsX0_add) := goodIn_app (goodIn_of _ (by decide +kernel)) ggX0_addFour_X0_add
theorem dX0_addFour_0 : decode cX0_addFour 0 = .ok (.aload_n 0, 1) := by decide +kernel
theorem dX0_addFour_1 : decode cX0_addFour 1 = .ok (.iload_n 1, 1) := by decide +kernel
theorem dX0_addFour_2 : decode cX0_addFour 2 = .ok (.bipush 24, 2) := by decide +kernel
theorem dX0_addFour_4 : decode cX0_addFour 4 = .ok (.iushr, 1) := by decide +kernel
theorem dX0_addFour_5 : decode cX0_addFour 5 = .ok (.invokevirtual 25, 3) := by decide +kernel
theorem dX0_addFour_8 : decode cX0_addFour 8 = .ok (.aload_n 0, 1) := by decide +kernel
theorem dX0_addFour_9 : decode cX0_addFour 9 = .ok (.iload_n 1, 1) := by decide +kernel
theorem dX0_addFour_10 : decode cX0_addFour 10 = .ok (.bipush 16, 2) := by decide +kernel
theorem dX0_addFour_12 : decode cX0_addFour 12 = .ok (.iushr, 1) := by decide +kernel
theorem dX0_addFour_13 : decode cX0_addFour 13 = .ok (.invokevirtual 25, 3) := by decide +kernel
theorem dX0_addFour_16 : decode cX0_addFour 16 = .ok (.aload_n 0, 1) := by decide +kernel
theorem dX0_addFour_17 : decode cX0_addFour 17 = .ok (.iload_n 1, 1) := by decide +kernel
theorem dX0_addFour_18 : decode cX0_addFour 18 = .ok (.bipush 8, 2) := by decide +kernel
theorem dX0_addFour_20 : decode cX0_addFour 20 = .ok (.iushr, 1) := by decide +kernel
theorem dX0_addFour_21 : decode cX0_addFour 21 = .ok (.invokevirtual 25, 3) := by decide +kernel
theorem dX0_addFour_24 : decode cX0_addFour 24 = .ok (.aload_n 0, 1) := by decide +kernel
theorem dX0_addFour_25 : decode cX0_addFour 25 = .ok (.iload_n 1, 1) := by decide +kernel
theorem dX0_addFour_26 : decode cX0_addFour 26 = .ok (.invokevirtual 25, 3) := by decide +kernel
theorem dX0_addFour_29 : decode cX0_addFour 29 = .ok (.return_, 1) := by decide +kernel
set_option maxRecDepth 20000 in
theorem ggX0_addText_J0_length_8abf5 : GoodIn wsX0_addText wsJ0_length_8abf5 := goodIn_r _ [5, 6, 7, 8, 9, 4, 10, 11, 12] (by decide +kernel) (by decide +kernel)
set_option maxRecDepth 20000 in
theorem gX0_addText_J0_length_8abf5 : GoodIn wsX0_addText (wsV RX0 29 RJ0 yJ0_length_8abf5 wsJ0_length_8abf5) := goodIn_app (goodIn_of _ (by decide +kernel)) ggX0_addText_J0_length_8abf5
set_option maxRecDepth 20000 in
theorem ggX0_addText_J0_charAt_5068e : GoodIn wsX0_addText wsJ0_charAt_5068e := goodIn_r _ [16, 6, 17, 18, 19, 4, 20, 11, 12, 21, 22, 23, 24, 25, 26, 27, 28, 29, 30, 31, 32, 33, 34, 35, 36, 37, 38, 39, 40, 41, 42, 43, 44, 45, 46, 47, 48, 49] (by decide +kernel) (by decide +kernel)
set_option maxRecDepth 20000 in
theorem gX0_addText_J0_charAt_5068e : GoodIn wsX0_addText (wsV RX0 35 RJ0 yJ0_charAt_5068e wsJ0_charAt_5068e) := goodIn_app (goodIn_of _ (by decide +kernel)) ggX0_addText_J0_charAt_5068e
set_option maxRecDepth 20000 in
theorem ggX0_addText_X0_add : GoodIn wsX0_addText wsX0_add := goodIn_r _ [54, 55, 56, 57, 58] (by decide +kernel) (by decide +kernel)
set_option maxRecDepth 20000 in
theorem gX0_addText_X0_add : GoodIn wsX0_addText (wsV RX0 25 RX0 yX0_add wsX0_add) := goodIn_app (goodIn_of _ (by decide +kernel)) ggX0_addText_X0_add
theorem dX0_addText_0 : decode cX0_addText 0 = .ok (.iconst 0, 1) := by decide +kernel
theorem dX0_addText_1 : decode cX0_addText 1 = .ok (.istore_n 2, 1) := by decide +kernel
theorem dX0_addText_2 : decode cX0_addText 2 = .ok (.iload_n 2, 1) := by decide +kernel
theorem dX0_addText_3 : decode cX0_addText 3 = .ok (.aload_n 1, 1) := by decide +kernel
theorem dX0_addText_4 : decode cX0_addText 4 = .ok (.invokevirtual 29, 3) := by decide +kernel
theorem dX0_addText_7 : decode cX0_addText 7 = .ok (.if_icmp .ge 18, 3) := by decide +kernel
theorem dX0_addText_10 : decode cX0_addText 10 = .ok (.aload_n 0, 1) := by decide +kernel
theorem dX0_addText_11 : decode cX0_addText 11 = .ok (.aload_n 1, 1) := by decide +kernel
theorem dX0_addText_12 : decode cX0_addText 12 = .ok (.iload_n 2, 1) := by decide +kernel
theorem dX0_addText_13 : decode cX0_addText 13 = .ok (.invokevirtual 35, 3) := by decide +kernel
theorem dX0_addText_16 : decode cX0_addText 16 = .ok (.invokevirtual 25, 3) := by decide +kernel
theorem dX0_addText_19 : decode cX0_addText 19 = .ok (.iinc 2 1, 3) := by decide +kernel
theorem dX0_addText_22 : decode cX0_addText 22 = .ok (.goto (-20), 3) := by decide +kernel
theorem dX0_addText_25 : decode cX0_addText 25 = .ok (.return_, 1) := by decide +kernel
set_option maxRecDepth 20000 in
theorem ggX0_addName_X0_add : GoodIn wsX0_addName wsX0_add := goodIn_r _ [5, 6, 7, 8, 9] (by decide +kernel) (by decide +kernel)
set_option maxRecDepth 20000 in
theorem gX0_addName_X0_add : GoodIn wsX0_addName (wsV RX0 25 RX0 yX0_add wsX0_add) := goodIn_app (goodIn_of _ (by decide +kernel)) ggX0_addName_X0_add
theorem dX0_addName_0 : decode cX0_addName 0 = .ok (.bipush 24, 2) := by decide +kernel
theorem dX0_addName_2 : decode cX0_addName 2 = .ok (.istore_n 2, 1) := by decide +kernel
theorem dX0_addName_3 : decode cX0_addName 3 = .ok (.iload_n 2, 1) := by decide +kernel
theorem dX0_addName_4 : decode cX0_addName 4 = .ok (.ifCond .lt 26, 3) := by decide +kernel
theorem dX0_addName_7 : decode cX0_addName 7 = .ok (.iload_n 1, 1) := by decide +kernel
theorem dX0_addName_8 : decode cX0_addName 8 = .ok (.iload_n 2, 1) := by decide +kernel
theorem dX0_addName_9 : decode cX0_addName 9 = .ok (.iushr, 1) := by decide +kernel
theorem dX0_addName_10 : decode cX0_addName 10 = .ok (.sipush 255, 3) := by decide +kernel
theorem dX0_addName_13 : decode cX0_addName 13 = .ok (.iand, 1) := by decide +kernel
theorem dX0_addName_14 : decode cX0_addName 14 = .ok (.istore_n 3, 1) := by decide +kernel
theorem dX0_addName_15 : decode cX0_addName 15 = .ok (.iload_n 3, 1) := by decide +kernel
theorem dX0_addName_16 : decode cX0_addName 16 = .ok (.ifCond .eq 8, 3) := by decide +kernel
theorem dX0_addName_19 : decode cX0_addName 19 = .ok (.aload_n 0, 1) := by decide +kernel
theorem dX0_addName_20 : decode cX0_addName 20 = .ok (.iload_n 3, 1) := by decide +kernel
theorem dX0_addName_21 : decode cX0_addName 21 = .ok (.invokevirtual 25, 3) := by decide +kernel
theorem dX0_addName_24 : decode cX0_addName 24 = .ok (.iinc 2 (-8), 3) := by decide +kernel
theorem dX0_addName_27 : decode cX0_addName 27 = .ok (.goto (-24), 3) := by decide +kernel
theorem dX0_addName_30 : decode cX0_addName 30 = .ok (.return_, 1) := by decide +kernel
set_option maxRecDepth 20000 in
theorem ggX0_addNumber_X0_add : GoodIn wsX0_addNumber wsX0_add := goodIn_r _ [6, 7, 8, 9, 10] (by decide +kernel) (by decide +kernel)
set_option maxRecDepth 20000 in
theorem gX0_addNumber_X0_add : GoodIn wsX0_addNumber (wsV RX0 25 RX0 yX0_add wsX0_add) := goodIn_app (goodIn_of _ (by decide +kernel)) ggX0_addNumber_X0_add
theorem dX0_addNumber_0 : decode cX0_addNumber 0 = .ok (.iconst 0, 1) := by decide +kernel
theorem dX0_addNumber_1 : decode cX0_addNumber 1 = .ok (.istore_n 2, 1) := by decide +kernel
theorem dX0_addNumber_2 : decode cX0_addNumber 2 = .ok (.ldc 39, 2) := by decide +kernel
theorem dX0_addNumber_4 : decode cX0_addNumber 4 = .ok (.istore_n 3, 1) := by decide +kernel
theorem dX0_addNumber_5 : decode cX0_addNumber 5 = .ok (.iload_n 3, 1) := by decide +kernel
theorem dX0_addNumber_6 : decode cX0_addNumber 6 = .ok (.ifCond .le 52, 3) := by decide +kernel
theorem dX0_addNumber_9 : decode cX0_addNumber 9 = .ok (.iload_n 1, 1) := by decide +kernel
theorem dX0_addNumber_10 : decode cX0_addNumber 10 = .ok (.iload_n 3, 1) := by decide +kernel
theorem dX0_addNumber_11 : decode cX0_addNumber 11 = .ok (.idiv, 1) := by decide +kernel
theorem dX0_addNumber_12 : decode cX0_addNumber 12 = .ok (.bipush 10, 2) := by decide +kernel
theorem dX0_addNumber_14 : decode cX0_addNumber 14 = .ok (.irem, 1) := by decide +kernel
theorem dX0_addNumber_15 : decode cX0_addNumber 15 = .ok (.istore 4, 2) := by decide +kernel
theorem dX0_addNumber_17 : decode cX0_addNumber 17 = .ok (.iload_n 2, 1) := by decide +kernel
theorem dX0_addNumber_18 : decode cX0_addNumber 18 = .ok (.ifCond .ne 13, 3) := by decide +kernel
theorem dX0_addNumber_21 : decode cX0_addNumber 21 = .ok (.iload 4, 2) := by decide +kernel
theorem dX0_addNumber_23 : decode cX0_addNumber 23 = .ok (.ifCond .gt 8, 3) := by decide +kernel
theorem dX0_addNumber_26 : decode cX0_addNumber 26 = .ok (.iload_n 3, 1) := by decide +kernel
theorem dX0_addNumber_27 : decode cX0_addNumber 27 = .ok (.iconst 1, 1) := by decide +kernel
theorem dX0_addNumber_28 : decode cX0_addNumber 28 = .ok (.if_icmp .ne 7, 3) := by decide +kernel
theorem dX0_addNumber_31 : decode cX0_addNumber 31 = .ok (.iconst 1, 1) := by decide +kernel
theorem dX0_addNumber_32 : decode cX0_addNumber 32 = .ok (.goto 4, 3) := by decide +kernel
theorem dX0_addNumber_35 : decode cX0_addNumber 35 = .ok (.iconst 0, 1) := by decide +kernel
theorem dX0_addNumber_36 : decode cX0_addNumber 36 = .ok (.istore_n 2, 1) := by decide +kernel
theorem dX0_addNumber_37 : decode cX0_addNumber 37 = .ok (.iload_n 2, 1) := by decide +kernel
theorem dX0_addNumber_38 : decode cX0_addNumber 38 = .ok (.ifCond .eq 12, 3) := by decide +kernel
theorem dX0_addNumber_41 : decode cX0_addNumber 41 = .ok (.aload_n 0, 1) := by decide +kernel
theorem dX0_addNumber_42 : decode cX0_addNumber 42 = .ok (.bipush 48, 2) := by decide +kernel
theorem dX0_addNumber_44 : decode cX0_addNumber 44 = .ok (.iload 4, 2) := by decide +kernel
theorem dX0_addNumber_46 : decode cX0_addNumber 46 = .ok (.iadd, 1) := by decide +kernel
theorem dX0_addNumber_47 : decode cX0_addNumber 47 = .ok (.invokevirtual 25, 3) := by decide +kernel
theorem dX0_addNumber_50 : decode cX0_addNumber 50 = .ok (.iload_n 3, 1) := by decide +kernel
theorem dX0_addNumber_51 : decode cX0_addNumber 51 = .ok (.bipush 10, 2) := by decide +kernel
theorem dX0_addNumber_53 : decode cX0_addNumber 53 = .ok (.idiv, 1) := by decide +kernel
theorem dX0_addNumber_54 : decode cX0_addNumber 54 = .ok (.istore_n 3, 1) := by decide +kernel
theorem dX0_addNumber_55 : decode cX0_addNumber 55 = .ok (.goto (-50), 3) := by decide +kernel
theorem dX0_addNumber_58 : decode cX0_addNumber 58 = .ok (.return_, 1) := by decide +kernel
set_option maxRecDepth 20000 in
theorem ggX0_endOfRun_X0_at : GoodIn wsX0_endOfRun wsX0_at := goodIn_r _ [6, 1, 7, 8, 9] (by decide +kernel) (by decide +kernel)
set_option maxRecDepth 20000 in
theorem gX0_endOfRun_X0_at : GoodIn wsX0_endOfRun (wsV RX0 40 RX0 yX0_at wsX0_at) := goodIn_app (goodIn_of _ (by decide +kernel)) ggX0_endOfRun_X0_at
theorem dX0_endOfRun_0 : decode cX0_endOfRun 0 = .ok (.iload_n 1, 1) := by decide +kernel
theorem dX0_endOfRun_1 : decode cX0_endOfRun 1 = .ok (.istore 4, 2) := by decide +kernel
theorem dX0_endOfRun_3 : decode cX0_endOfRun 3 = .ok (.iload 4, 2) := by decide +kernel
theorem dX0_endOfRun_5 : decode cX0_endOfRun 5 = .ok (.aload_n 0, 1) := by decide +kernel
theorem dX0_endOfRun_6 : decode cX0_endOfRun 6 = .ok (.getfield 21, 3) := by decide +kernel
theorem dX0_endOfRun_9 : decode cX0_endOfRun 9 = .ok (.if_icmp .ge 29, 3) := by decide +kernel
theorem dX0_endOfRun_12 : decode cX0_endOfRun 12 = .ok (.aload_n 0, 1) := by decide +kernel
theorem dX0_endOfRun_13 : decode cX0_endOfRun 13 = .ok (.iload 4, 2) := by decide +kernel
theorem dX0_endOfRun_15 : decode cX0_endOfRun 15 = .ok (.invokevirtual 40, 3) := by decide +kernel
theorem dX0_endOfRun_18 : decode cX0_endOfRun 18 = .ok (.iload_n 2, 1) := by decide +kernel
theorem dX0_endOfRun_19 : decode cX0_endOfRun 19 = .ok (.if_icmp .lt 19, 3) := by decide +kernel
theorem dX0_endOfRun_22 : decode cX0_endOfRun 22 = .ok (.aload_n 0, 1) := by decide +kernel
theorem dX0_endOfRun_23 : decode cX0_endOfRun 23 = .ok (.iload 4, 2) := by decide +kernel
theorem dX0_endOfRun_25 : decode cX0_endOfRun 25 = .ok (.invokevirtual 40, 3) := by decide +kernel
theorem dX0_endOfRun_28 : decode cX0_endOfRun 28 = .ok (.iload_n 3, 1) := by decide +kernel
theorem dX0_endOfRun_29 : decode cX0_endOfRun 29 = .ok (.if_icmp .gt 9, 3) := by decide +kernel
theorem dX0_endOfRun_32 : decode cX0_endOfRun 32 = .ok (.iinc 4 1, 3) := by decide +kernel
theorem dX0_endOfRun_35 : decode cX0_endOfRun 35 = .ok (.goto (-32), 3) := by decide +kernel
theorem dX0_endOfRun_38 : decode cX0_endOfRun 38 = .ok (.iload 4, 2) := by decide +kernel
theorem dX0_endOfRun_40 : decode cX0_endOfRun 40 = .ok (.ireturn, 1) := by decide +kernel
set_option maxRecDepth 20000 in
theorem ggX0_endOfBlanks_X0_at : GoodIn wsX0_endOfBlanks wsX0_at := goodIn_r _ [6, 1, 7, 8, 9] (by decide +kernel) (by decide +kernel)
set_option maxRecDepth 20000 in
theorem gX0_endOfBlanks_X0_at : GoodIn wsX0_endOfBlanks (wsV RX0 40 RX0 yX0_at wsX0_at) := goodIn_app (goodIn_of _ (by decide +kernel)) ggX0_endOfBlanks_X0_at
theorem dX0_endOfBlanks_0 : decode cX0_endOfBlanks 0 = .ok (.iload_n 1, 1) := by decide +kernel
theorem dX0_endOfBlanks_1 : decode cX0_endOfBlanks 1 = .ok (.istore_n 2, 1) := by decide +kernel
theorem dX0_endOfBlanks_2 : decode cX0_endOfBlanks 2 = .ok (.iload_n 2, 1) := by decide +kernel
theorem dX0_endOfBlanks_3 : decode cX0_endOfBlanks 3 = .ok (.aload_n 0, 1) := by decide +kernel
theorem dX0_endOfBlanks_4 : decode cX0_endOfBlanks 4 = .ok (.getfield 21, 3) := by decide +kernel
theorem dX0_endOfBlanks_7 : decode cX0_endOfBlanks 7 = .ok (.if_icmp .ge 29, 3) := by decide +kernel
theorem dX0_endOfBlanks_10 : decode cX0_endOfBlanks 10 = .ok (.aload_n 0, 1) := by decide +kernel
theorem dX0_endOfBlanks_11 : decode cX0_endOfBlanks 11 = .ok (.iload_n 2, 1) := by decide +kernel
theorem dX0_endOfBlanks_12 : decode cX0_endOfBlanks 12 = .ok (.invokevirtual 40, 3) := by decide +kernel
theorem dX0_endOfBlanks_15 : decode cX0_endOfBlanks 15 = .ok (.bipush 32, 2) := by decide +kernel
theorem dX0_endOfBlanks_17 : decode cX0_endOfBlanks 17 = .ok (.if_icmp .eq 13, 3) := by decide +kernel
theorem dX0_endOfBlanks_20 : decode cX0_endOfBlanks 20 = .ok (.aload_n 0, 1) := by decide +kernel
theorem dX0_endOfBlanks_21 : decode cX0_endOfBlanks 21 = .ok (.iload_n 2, 1) := by decide +kernel
theorem dX0_endOfBlanks_22 : decode cX0_endOfBlanks 22 = .ok (.invokevirtual 40, 3) := by decide +kernel
theorem dX0_endOfBlanks_25 : decode cX0_endOfBlanks 25 = .ok (.bipush 10, 2) := by decide +kernel
theorem dX0_endOfBlanks_27 : decode cX0_endOfBlanks 27 = .ok (.if_icmp .ne 9, 3) := by decide +kernel
theorem dX0_endOfBlanks_30 : decode cX0_endOfBlanks 30 = .ok (.iinc 2 1, 3) := by decide +kernel
theorem dX0_endOfBlanks_33 : decode cX0_endOfBlanks 33 = .ok (.goto (-31), 3) := by decide +kernel
theorem dX0_endOfBlanks_36 : decode cX0_endOfBlanks 36 = .ok (.iload_n 2, 1) := by decide +kernel
theorem dX0_endOfBlanks_37 : decode cX0_endOfBlanks 37 = .ok (.ireturn, 1) := by decide +kernel
set_option maxRecDepth 20000 in
theorem ggX0_nameBetween_X0_at : GoodIn wsX0_nameBetween wsX0_at := goodIn_r _ [5, 6, 7, 8, 9] (by decide +kernel) (by decide +kernel)
set_option maxRecDepth 20000 in
theorem gX0_nameBetween_X0_at : GoodIn wsX0_nameBetween (wsV RX0 40 RX0 yX0_at wsX0_at) := goodIn_app (goodIn_of _ (by decide +kernel)) ggX0_nameBetween_X0_at
theorem dX0_nameBetween_0 : decode cX0_nameBetween 0 = .ok (.iload_n 2, 1) := by decide +kernel
theorem dX0_nameBetween_1 : decode cX0_nameBetween 1 = .ok (.iload_n 1, 1) := by decide +kernel
theorem dX0_nameBetween_2 : decode cX0_nameBetween 2 = .ok (.isub, 1) := by decide +kernel
theorem dX0_nameBetween_3 : decode cX0_nameBetween 3 = .ok (.iconst 4, 1) := by decide +kernel
theorem dX0_nameBetween_4 : decode cX0_nameBetween 4 = .ok (.if_icmp .gt 7, 3) := by decide +kernel
theorem dX0_nameBetween_7 : decode cX0_nameBetween 7 = .ok (.iconst 1, 1) := by decide +kernel
theorem dX0_nameBetween_8 : decode cX0_nameBetween 8 = .ok (.goto 4, 3) := by decide +kernel
theorem dX0_nameBetween_11 : decode cX0_nameBetween 11 = .ok (.iconst 0, 1) := by decide +kernel
theorem dX0_nameBetween_12 : decode cX0_nameBetween 12 = .ok (.istore_n 3, 1) := by decide +kernel
theorem dX0_nameBetween_13 : decode cX0_nameBetween 13 = .ok (.iconst 0, 1) := by decide +kernel
theorem dX0_nameBetween_14 : decode cX0_nameBetween 14 = .ok (.istore 4, 2) := by decide +kernel
theorem dX0_nameBetween_16 : decode cX0_nameBetween 16 = .ok (.iload_n 1, 1) := by decide +kernel
theorem dX0_nameBetween_17 : decode cX0_nameBetween 17 = .ok (.istore 5, 2) := by decide +kernel
theorem dX0_nameBetween_19 : decode cX0_nameBetween 19 = .ok (.iload_n 3, 1) := by decide +kernel
theorem dX0_nameBetween_20 : decode cX0_nameBetween 20 = .ok (.ifCond .eq 57, 3) := by decide +kernel
theorem dX0_nameBetween_23 : decode cX0_nameBetween 23 = .ok (.iload 5, 2) := by decide +kernel
theorem dX0_nameBetween_25 : decode cX0_nameBetween 25 = .ok (.iload_n 2, 1) := by decide +kernel
theorem dX0_nameBetween_26 : decode cX0_nameBetween 26 = .ok (.if_icmp .ge 51, 3) := by decide +kernel
theorem dX0_nameBetween_29 : decode cX0_nameBetween 29 = .ok (.aload_n 0, 1) := by decide +kernel
theorem dX0_nameBetween_30 : decode cX0_nameBetween 30 = .ok (.iload 5, 2) := by decide +kernel
theorem dX0_nameBetween_32 : decode cX0_nameBetween 32 = .ok (.invokevirtual 40, 3) := by decide +kernel
theorem dX0_nameBetween_35 : decode cX0_nameBetween 35 = .ok (.bipush 97, 2) := by decide +kernel
theorem dX0_nameBetween_37 : decode cX0_nameBetween 37 = .ok (.if_icmp .lt 18, 3) := by decide +kernel
theorem dX0_nameBetween_40 : decode cX0_nameBetween 40 = .ok (.aload_n 0, 1) := by decide +kernel
theorem dX0_nameBetween_41 : decode cX0_nameBetween 41 = .ok (.iload 5, 2) := by decide +kernel
theorem dX0_nameBetween_43 : decode cX0_nameBetween 43 = .ok (.invokevirtual 40, 3) := by decide +kernel
theorem dX0_nameBetween_46 : decode cX0_nameBetween 46 = .ok (.bipush 122, 2) := by decide +kernel
theorem dX0_nameBetween_48 : decode cX0_nameBetween 48 = .ok (.if_icmp .gt 7, 3) := by decide +kernel
theorem dX0_nameBetween_51 : decode cX0_nameBetween 51 = .ok (.iconst 1, 1) := by decide +kernel
theorem dX0_nameBetween_52 : decode cX0_nameBetween 52 = .ok (.goto 4, 3) := by decide +kernel
theorem dX0_nameBetween_55 : decode cX0_nameBetween 55 = .ok (.iconst 0, 1) := by decide +kernel
theorem dX0_nameBetween_56 : decode cX0_nameBetween 56 = .ok (.istore_n 3, 1) := by decide +kernel
theorem dX0_nameBetween_57 : decode cX0_nameBetween 57 = .ok (.iload 4, 2) := by decide +kernel
theorem dX0_nameBetween_59 : decode cX0_nameBetween 59 = .ok (.bipush 8, 2) := by decide +kernel
theorem dX0_nameBetween_61 : decode cX0_nameBetween 61 = .ok (.ishl, 1) := by decide +kernel
theorem dX0_nameBetween_62 : decode cX0_nameBetween 62 = .ok (.aload_n 0, 1) := by decide +kernel
theorem dX0_nameBetween_63 : decode cX0_nameBetween 63 = .ok (.iload 5, 2) := by decide +kernel
theorem dX0_nameBetween_65 : decode cX0_nameBetween 65 = .ok (.invokevirtual 40, 3) := by decide +kernel
theorem dX0_nameBetween_68 : decode cX0_nameBetween 68 = .ok (.ior, 1) := by decide +kernel
theorem dX0_nameBetween_69 : decode cX0_nameBetween 69 = .ok (.istore 4, 2) := by decide +kernel
theorem dX0_nameBetween_71 : decode cX0_nameBetween 71 = .ok (.iinc 5 1, 3) := by decide +kernel
theorem dX0_nameBetween_74 : decode cX0_nameBetween 74 = .ok (.goto (-55), 3) := by decide +kernel
theorem dX0_nameBetween_77 : decode cX0_nameBetween 77 = .ok (.iload_n 3, 1) := by decide +kernel
theorem dX0_nameBetween_78 : decode cX0_nameBetween 78 = .ok (.ifCond .eq 8, 3) := by decide +kernel
theorem dX0_nameBetween_81 : decode cX0_nameBetween 81 = .ok (.iload 4, 2) := by decide +kernel
theorem dX0_nameBetween_83 : decode cX0_nameBetween 83 = .ok (.goto 4, 3) := by decide +kernel
theorem dX0_nameBetween_86 : decode cX0_nameBetween 86 = .ok (.iconst 0, 1) := by decide +kernel
theorem dX0_nameBetween_87 : decode cX0_nameBetween 87 = .ok (.ireturn, 1) := by decide +kernel
set_option maxRecDepth 20000 in
theorem ggX0_numberBetween_X0_at : GoodIn wsX0_numberBetween wsX0_at := goodIn_r _ [10, 11, 12, 13, 14] (by decide +kernel) (by decide +kernel)
set_option maxRecDepth 20000 in
theorem gX0_numberBetween_X0_at : GoodIn wsX0_numberBetween (wsV RX0 40 RX0 yX0_at wsX0_at) := goodIn_app (goodIn_of _ (by decide +kernel)) ggX0_numberBetween_X0_at
theorem dX0_numberBetween_0 : decode cX0_numberBetween 0 = .ok (.iconst 0, 1) := by decide +kernel
theorem dX0_numberBetween_1 : decode cX0_numberBetween 1 = .ok (.istore_n 3, 1) := by decide +kernel
theorem dX0_numberBetween_2 : decode cX0_numberBetween 2 = .ok (.iload_n 1, 1) := by decide +kernel
theorem dX0_numberBetween_3 : decode cX0_numberBetween 3 = .ok (.istore 4, 2) := by decide +kernel
theorem dX0_numberBetween_5 : decode cX0_numberBetween 5 = .ok (.iload 4, 2) := by decide +kernel
theorem dX0_numberBetween_7 : decode cX0_numberBetween 7 = .ok (.iload_n 2, 1) := by decide +kernel
theorem dX0_numberBetween_8 : decode cX0_numberBetween 8 = .ok (.if_icmp .ge 29, 3) := by decide +kernel
theorem dX0_numberBetween_11 : decode cX0_numberBetween 11 = .ok (.ldc 44, 2) := by decide +kernel
theorem dX0_numberBetween_13 : decode cX0_numberBetween 13 = .ok (.bipush 10, 2) := by decide +kernel
theorem dX0_numberBetween_15 : decode cX0_numberBetween 15 = .ok (.iload_n 3, 1) := by decide +kernel
theorem dX0_numberBetween_16 : decode cX0_numberBetween 16 = .ok (.imul, 1) := by decide +kernel
theorem dX0_numberBetween_17 : decode cX0_numberBetween 17 = .ok (.aload_n 0, 1) := by decide +kernel
theorem dX0_numberBetween_18 : decode cX0_numberBetween 18 = .ok (.iload 4, 2) := by decide +kernel
theorem dX0_numberBetween_20 : decode cX0_numberBetween 20 = .ok (.invokevirtual 40, 3) := by decide +kernel
theorem dX0_numberBetween_23 : decode cX0_numberBetween 23 = .ok (.iadd, 1) := by decide +kernel
theorem dX0_numberBetween_24 : decode cX0_numberBetween 24 = .ok (.bipush 48, 2) := by decide +kernel
theorem dX0_numberBetween_26 : decode cX0_numberBetween 26 = .ok (.isub, 1) := by decide +kernel
theorem dX0_numberBetween_27 : decode cX0_numberBetween 27 = .ok (.invokestatic 45, 3) := by decide +kernel
theorem dX0_numberBetween_30 : decode cX0_numberBetween 30 = .ok (.istore_n 3, 1) := by decide +kernel
theorem dX0_numberBetween_31 : decode cX0_numberBetween 31 = .ok (.iinc 4 1, 3) := by decide +kernel
theorem dX0_numberBetween_34 : decode cX0_numberBetween 34 = .ok (.goto (-29), 3) := by decide +kernel
theorem dX0_numberBetween_37 : decode cX0_numberBetween 37 = .ok (.iload_n 3, 1) := by decide +kernel
theorem dX0_numberBetween_38 : decode cX0_numberBetween 38 = .ok (.ireturn, 1) := by decide +kernel
set_option maxRecDepth 20000 in
theorem ggX0_isText_J0_length_8abf5 : GoodIn wsX0_isText wsJ0_length_8abf5 := goodIn_r _ [5, 6, 7, 8, 9, 4, 10, 11, 12] (by decide +kernel) (by decide +kernel)
set_option maxRecDepth 20000 in
theorem gX0_isText_J0_length_8abf5 : GoodIn wsX0_isText (wsV RX0 29 RJ0 yJ0_length_8abf5 wsJ0_length_8abf5) := goodIn_app (goodIn_of _ (by decide +kernel)) ggX0_isText_J0_length_8abf5
set_option maxRecDepth 20000 in
theorem ggX0_isText_X0_at : GoodIn wsX0_isText wsX0_at := goodIn_r _ [17, 18, 19, 57, 58] (by decide +kernel) (by decide +kernel)
set_option maxRecDepth 20000 in
theorem gX0_isText_X0_at : GoodIn wsX0_isText (wsV RX0 40 RX0 yX0_at wsX0_at) := goodIn_app (goodIn_of _ (by decide +kernel)) ggX0_isText_X0_at
set_option maxRecDepth 20000 in
theorem ggX0_isText_J0_charAt_5068e : GoodIn wsX0_isText wsJ0_charAt_5068e := goodIn_r _ [23, 6, 24, 25, 26, 4, 27, 11, 12, 28, 29, 30, 31, 32, 33, 34, 35, 36, 37, 38, 39, 40, 41, 42, 43, 44, 45, 46, 47, 48, 49, 50, 51, 52, 53, 54, 55, 56] (by decide +kernel) (by decide +kernel)
set_option maxRecDepth 20000 in
theorem gX0_isText_J0_charAt_5068e : GoodIn wsX0_isText (wsV RX0 35 RJ0 yJ0_charAt_5068e wsJ0_charAt_5068e) := goodIn_app (goodIn_of _ (by decide +kernel)) ggX0_isText_J0_charAt_5068e
theorem dX0_isText_0 : decode cX0_isText 0 = .ok (.iload_n 2, 1) := by decide +kernel
theorem dX0_isText_1 : decode cX0_isText 1 = .ok (.iload_n 1, 1) := by decide +kernel
theorem dX0_isText_2 : decode cX0_isText 2 = .ok (.isub, 1) := by decide +kernel
theorem dX0_isText_3 : decode cX0_isText 3 = .ok (.aload_n 3, 1) := by decide +kernel
theorem dX0_isText_4 : decode cX0_isText 4 = .ok (.invokevirtual 29, 3) := by decide +kernel
theorem dX0_isText_7 : decode cX0_isText 7 = .ok (.if_icmp .ne 7, 3) := by decide +kernel
theorem dX0_isText_10 : decode cX0_isText 10 = .ok (.iconst 1, 1) := by decide +kernel
theorem dX0_isText_11 : decode cX0_isText 11 = .ok (.goto 4, 3) := by decide +kernel
theorem dX0_isText_14 : decode cX0_isText 14 = .ok (.iconst 0, 1) := by decide +kernel
theorem dX0_isText_15 : decode cX0_isText 15 = .ok (.istore 4, 2) := by decide +kernel
theorem dX0_isText_17 : decode cX0_isText 17 = .ok (.iconst 0, 1) := by decide +kernel
theorem dX0_isText_18 : decode cX0_isText 18 = .ok (.istore 5, 2) := by decide +kernel
theorem dX0_isText_20 : decode cX0_isText 20 = .ok (.iload 4, 2) := by decide +kernel
theorem dX0_isText_22 : decode cX0_isText 22 = .ok (.ifCond .eq 42, 3) := by decide +kernel
theorem dX0_isText_25 : decode cX0_isText 25 = .ok (.iload 5, 2) := by decide +kernel
theorem dX0_isText_27 : decode cX0_isText 27 = .ok (.aload_n 3, 1) := by decide +kernel
theorem dX0_isText_28 : decode cX0_isText 28 = .ok (.invokevirtual 29, 3) := by decide +kernel
theorem dX0_isText_31 : decode cX0_isText 31 = .ok (.if_icmp .ge 33, 3) := by decide +kernel
theorem dX0_isText_34 : decode cX0_isText 34 = .ok (.aload_n 0, 1) := by decide +kernel
theorem dX0_isText_35 : decode cX0_isText 35 = .ok (.iload_n 1, 1) := by decide +kernel
theorem dX0_isText_36 : decode cX0_isText 36 = .ok (.iload 5, 2) := by decide +kernel
theorem dX0_isText_38 : decode cX0_isText 38 = .ok (.iadd, 1) := by decide +kernel
theorem dX0_isText_39 : decode cX0_isText 39 = .ok (.invokevirtual 40, 3) := by decide +kernel
theorem dX0_isText_42 : decode cX0_isText 42 = .ok (.aload_n 3, 1) := by decide +kernel
theorem dX0_isText_43 : decode cX0_isText 43 = .ok (.iload 5, 2) := by decide +kernel
theorem dX0_isText_45 : decode cX0_isText 45 = .ok (.invokevirtual 35, 3) := by decide +kernel
theorem dX0_isText_48 : decode cX0_isText 48 = .ok (.if_icmp .ne 7, 3) := by decide +kernel
theorem dX0_isText_51 : decode cX0_isText 51 = .ok (.iconst 1, 1) := by decide +kernel
theorem dX0_isText_52 : decode cX0_isText 52 = .ok (.goto 4, 3) := by decide +kernel
theorem dX0_isText_55 : decode cX0_isText 55 = .ok (.iconst 0, 1) := by decide +kernel
theorem dX0_isText_56 : decode cX0_isText 56 = .ok (.istore 4, 2) := by decide +kernel
theorem dX0_isText_58 : decode cX0_isText 58 = .ok (.iinc 5 1, 3) := by decide +kernel
theorem dX0_isText_61 : decode cX0_isText 61 = .ok (.goto (-41), 3) := by decide +kernel
theorem dX0_isText_64 : decode cX0_isText 64 = .ok (.iload 4, 2) := by decide +kernel
theorem dX0_isText_66 : decode cX0_isText 66 = .ok (.ireturn, 1) := by decide +kernel
set_option maxRecDepth 20000 in
theorem ggX1_init_X5_init : GoodIn wsX1_init wsX5_init := goodIn_r _ [11, 12, 2, 3, 13, 14, 15, 16, 17, 18, 19, 20, 21, 22, 23, 24, 25, 26, 27, 28, 29, 30, 31, 32, 33, 34, 35, 36, 37, 38, 39, 40, 41, 42, 43, 44, 45, 46, 47, 48, 49, 50, 51, 52, 53, 54, 55, 56, 57, 58, 59, 60, 61, 62, 63, 64, 83, 84, 85, 86, 65, 66, 67, 68, 69, 70, 71, 72, 73, 74, 87, 88, 89, 90, 91, 92, 93, 94, 95, 96, 97, 98, 99, 100, 101, 102, 103, 104, 105, 106] (by decide +kernel) (by decide +kernel)
set_option maxRecDepth 20000 in
theorem gX1_init_X5_init_n11 : GoodIn wsX1_init (wsX5_init) := ggX1_init_X5_init
theorem dX1_init_0 : decode cX1_init 0 = .ok (.aload_n 0, 1) := by decide +kernel
theorem dX1_init_1 : decode cX1_init 1 = .ok (.invokespecial 3, 3) := by decide +kernel
theorem dX1_init_4 : decode cX1_init 4 = .ok (.aload_n 0, 1) := by decide +kernel
theorem dX1_init_5 : decode cX1_init 5 = .ok (.new 9, 3) := by decide +kernel
theorem dX1_init_8 : decode cX1_init 8 = .ok (.dup, 1) := by decide +kernel
theorem dX1_init_9 : decode cX1_init 9 = .ok (.invokespecial 11, 3) := by decide +kernel
theorem dX1_init_12 : decode cX1_init 12 = .ok (.putfield 12, 3) := by decide +kernel
theorem dX1_init_15 : decode cX1_init 15 = .ok (.aload_n 0, 1) := by decide +kernel
theorem dX1_init_16 : decode cX1_init 16 = .ok (.iconst (-1), 1) := by decide +kernel
theorem dX1_init_17 : decode cX1_init 17 = .ok (.putfield 18, 3) := by decide +kernel
theorem dX1_init_20 : decode cX1_init 20 = .ok (.aload_n 0, 1) := by decide +kernel
theorem dX1_init_21 : decode cX1_init 21 = .ok (.aload_n 1, 1) := by decide +kernel
theorem dX1_init_22 : decode cX1_init 22 = .ok (.putfield 22, 3) := by decide +kernel
theorem dX1_init_25 : decode cX1_init 25 = .ok (.return_, 1) := by decide +kernel
set_option maxRecDepth 20000 in
theorem ggX1_run_X5_begin : GoodIn wsX1_run wsX5_begin := goodIn_r _ [10, 11, 12, 13, 14, 15, 16, 17, 18, 19, 20, 21, 22, 23, 24, 25, 26, 27, 28, 29, 30, 31, 32, 33, 34, 35, 36, 37, 38, 39, 484, 485, 486, 487, 488, 489, 490, 491, 492, 493, 494, 495, 496, 497, 498, 499, 500, 501, 502, 503, 504, 505, 506, 507, 508, 509, 510, 511, 512, 513, 514, 515, 516, 517] (by decide +kernel) (by decide +kernel)
set_option maxRecDepth 20000 in
theorem gX1_run_X5_begin : GoodIn wsX1_run (wsV RX1 32 RX5 yX5_begin wsX5_begin) := goodIn_app (goodIn_of _ (by decide +kernel)) ggX1_run_X5_begin
set_option maxRecDepth 20000 in
theorem ggX1_run_X1_take : GoodIn wsX1_run wsX1_take := goodIn_r _ [44, 45, 2, 46, 1, 47, 5, 48, 49, 50, 51, 52, 53, 54, 55, 56, 57, 58, 59, 60, 61, 62, 63, 64, 65, 66, 67, 68, 69, 70, 71, 72, 73, 74, 75, 76, 476, 477, 478, 479, 480, 481, 482, 483, 518, 519] (by decide +kernel) (by decide +kernel)
set_option maxRecDepth 20000 in
theorem gX1_run_X1_take : GoodIn wsX1_run (wsV RX1 36 RX1 yX1_take wsX1_take) := goodIn_app (goodIn_of _ (by decide +kernel)) ggX1_run_X1_take
set_option maxRecDepth 20000 in
theorem ggX1_run_X1_readGate : GoodIn wsX1_run wsX1_readGate := goodIn_r _ [80, 4, 81, 82, 83, 43, 84, 5, 46, 47, 1, 85, 86, 87, 51, 88, 89, 90, 91, 92, 93, 94, 95, 96, 97, 98, 99, 100, 54, 55, 56, 57, 53, 58, 101, 102, 103, 104, 105, 106, 107, 108, 109, 110, 111, 112, 113, 114, 115, 116, 117, 118, 119, 120, 121, 122, 123, 124, 125, 126, 127, 128, 129, 130, 131, 132, 133, 134, 135, 136, 137, 138, 139, 140, 141, 2, 3, 40, 41, 42, 44, 45, 48, 49, 50, 52, 59, 60, 61, 62, 63, 64, 65, 66, 67, 68, 69, 70, 71, 72, 73, 74, 75, 76, 142, 143, 144, 145, 146, 147, 148, 149, 6, 7, 8, 9, 10, 11, 12, 13, 14, 15, 16, 17, 18, 19, 20, 21, 22, 23, 24, 25, 26, 27, 28, 29, 30, 31, 32, 33, 34, 35, 36, 37, 38, 39, 476, 477, 478, 479, 480, 481, 482, 483, 518, 519, 484, 485, 486, 487, 488, 489, 490, 491, 492, 493, 494, 495, 496, 497, 498, 499, 500, 501, 502, 503, 504, 505, 506, 507, 508, 509, 510, 511, 512, 513, 514, 515, 516, 517] (by decide +kernel) (by decide +kernel)
set_option maxRecDepth 20000 in
theorem gX1_run_X1_readGate : GoodIn wsX1_run (wsV RX1 40 RX1 yX1_readGate wsX1_readGate) := goodIn_app (goodIn_of _ (by decide +kernel)) ggX1_run_X1_readGate
set_option maxRecDepth 20000 in
theorem ggX1_run_X1_readStatement : GoodIn wsX1_run wsX1_readStatement := goodIn_r _ [153, 81, 82, 83, 43, 84, 5, 46, 47, 1, 85, 86, 87, 51, 88, 89, 90, 91, 92, 93, 94, 95, 96, 97, 98, 99, 100, 54, 55, 56, 57, 53, 58, 101, 102, 103, 104, 105, 106, 107, 108, 109, 110, 111, 112, 113, 114, 115, 116, 117, 118, 119, 120, 121, 122, 123, 124, 125, 126, 127, 128, 129, 130, 131, 132, 133, 134, 135, 136, 137, 154, 155, 156, 157, 4, 158, 159, 160, 161, 25, 162, 27, 163, 138, 139, 140, 141, 2, 3, 40, 41, 42, 44, 45, 48, 49, 50, 52, 59, 60, 61, 62, 63, 64, 65, 66, 67, 68, 69, 70, 71, 72, 73, 74, 75, 76, 164, 165, 166, 167, 168, 169, 170, 9, 171, 11, 12, 13, 172, 173, 174, 175, 176, 177, 178, 179, 180, 181, 182, 183, 184, 185, 186, 187, 188, 189, 190, 191, 192, 193, 194, 142, 143, 144, 145, 195, 196, 197, 198, 146, 147, 148, 149, 199, 200, 201, 202, 203, 204, 205, 206, 207, 208, 209, 210, 211, 212, 213, 214, 215, 216, 217, 218, 219, 220, 221, 222, 223, 224, 225, 226, 227, 228, 229, 230, 231, 232, 233, 234, 235, 236, 237, 238, 239, 240, 241, 242, 243, 244, 245, 246, 247, 248, 249, 250, 251, 252, 253, 254, 255, 256, 257, 258, 259, 260, 261, 262, 263, 264, 265, 266, 267, 268, 269, 270, 271, 272, 273, 274, 275, 276, 277, 278, 279, 280, 281, 282, 283, 284, 285, 17, 14, 286, 287, 288, 289, 290, 291, 292, 293, 294, 295, 296, 297, 298, 299, 300, 301, 302, 303, 304, 305, 306, 307, 308, 19, 16, 309, 310, 311, 312, 313, 314, 315, 316, 317, 318, 18, 319, 320, 321, 322, 323, 324, 325, 326, 327, 328, 329, 330, 331, 332, 333, 334, 335, 336, 337, 338, 339, 340, 341, 342, 343, 344, 345, 346, 347, 348, 349, 350, 351, 352, 353, 354, 355, 356, 357, 358, 359, 360, 361, 362, 363, 364, 365, 366, 367, 368, 369, 370, 371, 372, 373, 374, 375, 376, 377, 378, 379, 380, 381, 382, 383, 384, 385, 386, 387, 388, 389, 390, 391, 392, 393, 394, 395, 396, 397, 398, 399, 400, 401, 402, 403, 404, 405, 406, 15, 407, 408, 409, 410, 411, 412, 413, 414, 415, 416, 417, 418, 419, 420, 421, 422, 423, 424, 425, 426, 427, 428, 429, 430, 431, 432, 433, 434, 435, 436, 437, 438, 439, 440, 441, 442, 443, 444, 445, 446, 447, 448, 449, 450, 451, 452, 453, 454, 455, 456, 457, 458, 459, 460, 461, 462, 463, 464, 465, 466, 467, 468, 469, 470, 471, 472, 473, 474, 475, 476, 477, 478, 479, 480, 481, 482, 483, 518, 519, 484, 485, 486, 487, 488, 489, 490, 491, 492, 493, 494, 495, 496, 497, 498, 499, 500, 501, 502, 503, 504, 505, 506, 507, 508, 509, 510, 511, 512, 513, 514, 515, 516, 517] (by decide +kernel) (by decide +kernel)
set_option maxRecDepth 20000 in
theorem gX1_run_X1_readStatement : GoodIn wsX1_run (wsV RX1 46 RX1 yX1_readStatement wsX1_readStatement) := goodIn_app (goodIn_of _ (by decide +kernel)) ggX1_run_X1_readStatement
theorem dX1_run_0 : decode cX1_run 0 = .ok (.aload_n 0, 1) := by decide +kernel
theorem dX1_run_1 : decode cX1_run 1 = .ok (.iconst 0, 1) := by decide +kernel
theorem dX1_run_2 : decode cX1_run 2 = .ok (.putfield 26, 3) := by decide +kernel
theorem dX1_run_5 : decode cX1_run 5 = .ok (.aload_n 0, 1) := by decide +kernel
theorem dX1_run_6 : decode cX1_run 6 = .ok (.iconst 0, 1) := by decide +kernel
theorem dX1_run_7 : decode cX1_run 7 = .ok (.putfield 29, 3) := by decide +kernel
theorem dX1_run_10 : decode cX1_run 10 = .ok (.aload_n 0, 1) := by decide +kernel
theorem dX1_run_11 : decode cX1_run 11 = .ok (.iconst (-1), 1) := by decide +kernel
theorem dX1_run_12 : decode cX1_run 12 = .ok (.putfield 18, 3) := by decide +kernel
theorem dX1_run_15 : decode cX1_run 15 = .ok (.aload_n 0, 1) := by decide +kernel
theorem dX1_run_16 : decode cX1_run 16 = .ok (.getfield 12, 3) := by decide +kernel
theorem dX1_run_19 : decode cX1_run 19 = .ok (.iconst 0, 1) := by decide +kernel
theorem dX1_run_20 : decode cX1_run 20 = .ok (.iconst 0, 1) := by decide +kernel
theorem dX1_run_21 : decode cX1_run 21 = .ok (.invokevirtual 32, 3) := by decide +kernel
theorem dX1_run_24 : decode cX1_run 24 = .ok (.aload_n 0, 1) := by decide +kernel
theorem dX1_run_25 : decode cX1_run 25 = .ok (.invokevirtual 36, 3) := by decide +kernel
theorem dX1_run_28 : decode cX1_run 28 = .ok (.pop, 1) := by decide +kernel
theorem dX1_run_29 : decode cX1_run 29 = .ok (.aload_n 0, 1) := by decide +kernel
theorem dX1_run_30 : decode cX1_run 30 = .ok (.invokevirtual 40, 3) := by decide +kernel
theorem dX1_run_33 : decode cX1_run 33 = .ok (.iconst 0, 1) := by decide +kernel
theorem dX1_run_34 : decode cX1_run 34 = .ok (.istore_n 1, 1) := by decide +kernel
theorem dX1_run_35 : decode cX1_run 35 = .ok (.iload_n 1, 1) := by decide +kernel
theorem dX1_run_36 : decode cX1_run 36 = .ok (.sipush 600, 3) := by decide +kernel
theorem dX1_run_39 : decode cX1_run 39 = .ok (.if_icmp .ge 27, 3) := by decide +kernel
theorem dX1_run_42 : decode cX1_run 42 = .ok (.aload_n 0, 1) := by decide +kernel
theorem dX1_run_43 : decode cX1_run 43 = .ok (.getfield 29, 3) := by decide +kernel
theorem dX1_run_46 : decode cX1_run 46 = .ok (.ifCond .ne 20, 3) := by decide +kernel
theorem dX1_run_49 : decode cX1_run 49 = .ok (.aload_n 0, 1) := by decide +kernel
theorem dX1_run_50 : decode cX1_run 50 = .ok (.getfield 43, 3) := by decide +kernel
theorem dX1_run_53 : decode cX1_run 53 = .ok (.ifCond .eq 13, 3) := by decide +kernel
theorem dX1_run_56 : decode cX1_run 56 = .ok (.aload_n 0, 1) := by decide +kernel
theorem dX1_run_57 : decode cX1_run 57 = .ok (.invokevirtual 46, 3) := by decide +kernel
theorem dX1_run_60 : decode cX1_run 60 = .ok (.iinc 1 1, 3) := by decide +kernel
theorem dX1_run_63 : decode cX1_run 63 = .ok (.goto (-28), 3) := by decide +kernel
theorem dX1_run_66 : decode cX1_run 66 = .ok (.aload_n 0, 1) := by decide +kernel
theorem dX1_run_67 : decode cX1_run 67 = .ok (.getfield 29, 3) := by decide +kernel
theorem dX1_run_70 : decode cX1_run 70 = .ok (.ifCond .ne 7, 3) := by decide +kernel
theorem dX1_run_73 : decode cX1_run 73 = .ok (.iconst 1, 1) := by decide +kernel
theorem dX1_run_74 : decode cX1_run 74 = .ok (.goto 4, 3) := by decide +kernel
theorem dX1_run_77 : decode cX1_run 77 = .ok (.iconst 0, 1) := by decide +kernel
theorem dX1_run_78 : decode cX1_run 78 = .ok (.ireturn, 1) := by decide +kernel
set_option maxRecDepth 20000 in
theorem ggX1_readStatement_X1_isWord : GoodIn wsX1_readStatement wsX1_isWord := goodIn_r _ [5, 6, 7, 8, 9, 10, 11, 12, 13, 14, 15, 16, 17, 18, 19, 20, 21, 22, 23, 24, 25, 26, 27, 28, 29, 30, 31, 32, 33, 34, 35, 36, 37, 38, 39, 40, 41, 42, 43, 44, 45, 46, 47, 48, 49, 50, 51, 52, 53, 54, 55, 56, 57, 58, 59, 60, 61, 62, 63, 64, 65, 66, 67, 68, 69, 446, 447, 448, 449, 450, 451, 452, 453, 454, 455] (by decide +kernel) (by decide +kernel)
set_option maxRecDepth 20000 in
theorem gX1_readStatement_X1_isWord : GoodIn wsX1_readStatement (wsV RX1 51 RX1 yX1_isWord wsX1_isWord) := goodIn_app (goodIn_of _ (by decide +kernel)) ggX1_readStatement_X1_isWord
set_option maxRecDepth 20000 in
theorem ggX1_readStatement_X1_readRealm : GoodIn wsX1_readStatement wsX1_readRealm := goodIn_r _ [73, 74, 75, 76, 77, 78, 79, 80, 81, 82, 83, 84, 85, 4, 86, 87, 8, 88, 89, 90, 91, 92, 93, 7, 9, 6, 94, 95, 96, 13, 97, 31, 27, 28, 29, 30, 32, 98, 99, 100, 101, 102, 103, 104, 105, 106, 107, 108, 109, 110, 111, 112, 113, 114, 115, 116, 117, 118, 119, 120, 121, 122, 123, 124, 125, 126, 127, 128, 129, 130, 131, 132, 133, 134, 135, 136, 137, 138, 139, 140, 141, 142, 143, 144, 145, 146, 147, 148, 149, 150, 151, 152, 153, 154, 155, 156, 157, 158, 1, 2, 3, 5, 10, 11, 12, 14, 15, 16, 17, 18, 19, 20, 21, 22, 23, 24, 25, 26, 33, 34, 35, 36, 37, 38, 39, 40, 41, 42, 43, 44, 45, 46, 47, 48, 49, 50, 51, 52, 53, 54, 55, 56, 57, 58, 59, 60, 61, 62, 63, 64, 65, 66, 67, 68, 69, 159, 160, 161, 162, 163, 164, 165, 166, 167, 168, 169, 170, 171, 172, 173, 174, 175, 176, 177, 446, 447, 448, 449, 450, 451, 452, 453, 456, 457, 458, 459, 460, 461, 462, 463, 464, 465, 466, 467, 468, 469, 470, 471, 472, 473, 474, 475, 476, 477, 478, 479, 480, 481, 482, 483, 484, 485, 486, 487, 488, 489, 454, 455] (by decide +kernel) (by decide +kernel)
set_option maxRecDepth 20000 in
theorem gX1_readStatement_X1_readRealm : GoodIn wsX1_readStatement (wsV RX1 55 RX1 yX1_readRealm wsX1_readRealm) := goodIn_app (goodIn_of _ (by decide +kernel)) ggX1_readStatement_X1_readRealm
set_option maxRecDepth 20000 in
theorem ggX1_readStatement_X1_readTrust : GoodIn wsX1_readStatement wsX1_readTrust := goodIn_r _ [181, 74, 93, 6, 89, 90, 91, 4, 92, 87, 7, 9, 8, 94, 95, 96, 13, 97, 31, 27, 28, 29, 30, 32, 98, 99, 100, 101, 102, 103, 104, 105, 106, 107, 108, 109, 110, 111, 112, 113, 114, 115, 182, 183, 184, 185, 186, 187, 188, 131, 79, 132, 81, 133, 134, 135, 136, 137, 138, 139, 140, 141, 142, 143, 144, 189, 190, 191, 192, 193, 83, 84, 85, 86, 88, 194, 129, 130, 195, 196, 197, 166, 198, 199, 200, 201, 159, 160, 161, 162, 202, 203, 204, 205, 173, 174, 175, 176, 177, 446, 447, 448, 449, 450, 451, 452, 453, 456, 457, 458, 459, 460, 461, 462, 463, 464, 465, 454, 455, 466, 467, 468, 469, 470, 471, 472, 473, 474, 475, 476, 477, 478, 479, 480, 481, 482, 483, 484, 485, 486, 487, 488, 489] (by decide +kernel) (by decide +kernel)
set_option maxRecDepth 20000 in
theorem gX1_readStatement_X1_readTrust : GoodIn wsX1_readStatement (wsV RX1 60 RX1 yX1_readTrust wsX1_readTrust) := goodIn_app (goodIn_of _ (by decide +kernel)) ggX1_readStatement_X1_readTrust
set_option maxRecDepth 20000 in
theorem ggX1_readStatement_X1_readUser : GoodIn wsX1_readStatement wsX1_readUser := goodIn_r _ [209, 74, 210, 211, 212, 78, 79, 80, 81, 82, 83, 84, 85, 4, 86, 87, 8, 88, 89, 90, 91, 92, 93, 7, 9, 6, 94, 95, 96, 13, 97, 31, 27, 28, 29, 30, 32, 98, 99, 100, 101, 102, 103, 104, 105, 106, 107, 108, 109, 110, 111, 112, 113, 114, 115, 116, 117, 118, 119, 120, 121, 122, 123, 124, 125, 126, 127, 128, 129, 130, 131, 132, 133, 134, 135, 136, 137, 138, 139, 140, 141, 142, 143, 144, 145, 146, 147, 148, 149, 150, 182, 183, 184, 185, 186, 187, 188, 189, 190, 191, 192, 193, 151, 152, 153, 154, 155, 156, 157, 158, 1, 2, 3, 5, 10, 11, 12, 14, 15, 16, 17, 18, 19, 20, 21, 22, 23, 24, 25, 26, 33, 34, 35, 36, 37, 38, 39, 40, 41, 42, 43, 44, 45, 46, 47, 48, 49, 50, 51, 52, 53, 54, 55, 56, 57, 58, 59, 60, 61, 62, 63, 64, 65, 66, 67, 68, 69, 159, 160, 161, 162, 213, 214, 215, 216, 217, 218, 219, 220, 171, 172, 221, 222, 223, 176, 177, 446, 447, 448, 449, 450, 451, 452, 453, 456, 457, 458, 459, 460, 461, 462, 463, 464, 465, 466, 467, 468, 469, 470, 471, 472, 473, 474, 475, 476, 477, 478, 479, 480, 481, 482, 483, 484, 485, 486, 487, 488, 489, 454, 455] (by decide +kernel) (by decide +kernel)
set_option maxRecDepth 20000 in
theorem gX1_readStatement_X1_readUser : GoodIn wsX1_readStatement (wsV RX1 65 RX1 yX1_readUser wsX1_readUser) := goodIn_app (goodIn_of _ (by decide +kernel)) ggX1_readStatement_X1_readUser
set_option maxRecDepth 20000 in
theorem ggX1_readStatement_X1_readService : GoodIn wsX1_readStatement wsX1_readService := goodIn_r _ [227, 74, 228, 229, 230, 78, 79, 80, 81, 82, 83, 84, 85, 4, 86, 87, 8, 88, 89, 90, 91, 92, 93, 7, 9, 6, 94, 95, 96, 13, 97, 31, 27, 28, 29, 30, 32, 98, 99, 100, 101, 102, 103, 104, 105, 106, 107, 108, 109, 110, 111, 112, 113, 114, 115, 116, 117, 118, 119, 120, 121, 122, 123, 124, 125, 126, 127, 128, 129, 130, 131, 132, 133, 134, 135, 136, 137, 138, 139, 140, 141, 142, 143, 144, 145, 146, 147, 148, 149, 150, 182, 183, 184, 185, 186, 187, 188, 189, 190, 191, 192, 193, 151, 152, 153, 154, 159, 160, 161, 162, 231, 232, 233, 234, 235, 236, 237, 238, 171, 172, 239, 240, 241, 176, 177, 446, 447, 448, 449, 450, 451, 452, 453, 456, 457, 458, 459, 460, 461, 462, 463, 464, 465, 466, 467, 468, 469, 470, 471, 472, 473, 474, 475, 476, 477, 478, 479, 480, 481, 482, 483, 484, 485, 486, 487, 488, 489, 454, 455] (by decide +kernel) (by decide +kernel)
set_option maxRecDepth 20000 in
theorem gX1_readStatement_X1_readService : GoodIn wsX1_readStatement (wsV RX1 70 RX1 yX1_readService wsX1_readService) := goodIn_app (goodIn_of _ (by decide +kernel)) ggX1_readStatement_X1_readService
set_option maxRecDepth 20000 in
theorem ggX1_readStatement_X1_readLogin : GoodIn wsX1_readStatement wsX1_readLogin := goodIn_r _ [245, 74, 89, 90, 91, 4, 92, 93, 87, 7, 9, 8, 6, 94, 95, 96, 13, 97, 31, 27, 28, 29, 30, 32, 98, 99, 100, 101, 102, 103, 104, 105, 106, 107, 108, 109, 110, 111, 112, 113, 114, 115, 182, 183, 184, 185, 186, 187, 188, 131, 79, 132, 81, 133, 134, 135, 136, 137, 138, 139, 140, 141, 142, 143, 144, 189, 190, 191, 192, 193, 83, 84, 85, 86, 88, 151, 152, 153, 154, 1, 2, 3, 5, 10, 11, 12, 14, 15, 16, 17, 18, 19, 20, 21, 22, 23, 24, 25, 26, 33, 34, 35, 36, 37, 38, 39, 40, 41, 42, 43, 44, 45, 46, 47, 48, 49, 50, 51, 52, 53, 54, 55, 56, 57, 58, 59, 60, 61, 62, 63, 64, 65, 66, 67, 68, 69, 246, 247, 248, 123, 249, 126, 250, 251, 252, 253, 254, 255, 256, 257, 258, 125, 259, 260, 261, 262, 200, 201, 263, 264, 265, 78, 80, 82, 159, 160, 161, 162, 266, 267, 268, 269, 270, 271, 272, 273, 274, 275, 276, 277, 278, 279, 171, 172, 280, 281, 282, 176, 177, 283, 284, 285, 286, 287, 288, 289, 290, 291, 292, 293, 294, 295, 296, 297, 298, 446, 447, 448, 449, 450, 451, 452, 453, 456, 457, 458, 459, 460, 461, 462, 463, 464, 465, 454, 455, 466, 467, 468, 469, 470, 471, 472, 473, 474, 475, 476, 477, 478, 479, 480, 481, 482, 483, 484, 485, 486, 487, 488, 489] (by decide +kernel) (by decide +kernel)
set_option maxRecDepth 20000 in
theorem gX1_readStatement_X1_readLogin : GoodIn wsX1_readStatement (wsV RX1 75 RX1 yX1_readLogin wsX1_readLogin) := goodIn_app (goodIn_of _ (by decide +kernel)) ggX1_readStatement_X1_readLogin
set_option maxRecDepth 20000 in
theorem ggX1_readStatement_X1_readRefer : GoodIn wsX1_readStatement wsX1_readRefer := goodIn_r _ [302, 74, 89, 90, 91, 4, 92, 93, 87, 7, 9, 8, 6, 94, 95, 96, 13, 97, 31, 27, 28, 29, 30, 32, 98, 99, 100, 101, 102, 103, 104, 105, 106, 107, 108, 109, 110, 111, 112, 113, 114, 115, 303, 304, 305, 306, 307, 308, 309, 131, 79, 132, 81, 133, 134, 135, 136, 137, 138, 139, 140, 141, 142, 143, 144, 83, 84, 85, 86, 88, 182, 183, 184, 185, 186, 187, 188, 189, 190, 191, 192, 193, 310, 311, 312, 123, 313, 251, 276, 125, 296, 297, 298, 314, 315, 316, 317, 318, 319, 320, 196, 197, 166, 198, 199, 200, 201, 321, 322, 323, 324, 250, 255, 256, 257, 258, 126, 259, 260, 261, 252, 253, 254, 262, 263, 264, 265, 78, 80, 82, 159, 160, 161, 162, 325, 326, 327, 328, 271, 272, 273, 274, 275, 277, 278, 279, 171, 172, 280, 281, 282, 176, 177, 283, 284, 285, 286, 287, 329, 330, 331, 332, 333, 334, 335, 336, 288, 289, 290, 291, 292, 293, 294, 295, 446, 447, 448, 449, 450, 451, 452, 453, 456, 457, 458, 459, 460, 461, 462, 463, 464, 465, 454, 455, 466, 467, 468, 469, 470, 471, 472, 473, 474, 475, 476, 477, 478, 479, 480, 481, 482, 483, 484, 485, 486, 487, 488, 489] (by decide +kernel) (by decide +kernel)
set_option maxRecDepth 20000 in
theorem gX1_readStatement_X1_readRefer : GoodIn wsX1_readStatement (wsV RX1 80 RX1 yX1_readRefer wsX1_readRefer) := goodIn_app (goodIn_of _ (by decide +kernel)) ggX1_readStatement_X1_readRefer
set_option maxRecDepth 20000 in
theorem ggX1_readStatement_X1_readRequest : GoodIn wsX1_readStatement wsX1_readRequest := goodIn_r _ [340, 74, 89, 90, 91, 4, 92, 93, 87, 7, 9, 8, 6, 94, 95, 96, 13, 97, 31, 27, 28, 29, 30, 32, 98, 99, 100, 101, 102, 103, 104, 105, 106, 107, 108, 109, 110, 111, 112, 113, 114, 115, 303, 304, 305, 306, 307, 308, 309, 131, 79, 132, 81, 133, 134, 135, 136, 137, 138, 139, 140, 141, 142, 143, 144, 83, 84, 85, 86, 88, 182, 183, 184, 185, 186, 187, 188, 189, 190, 191, 192, 193, 341, 342, 343, 123, 344, 251, 276, 127, 296, 297, 298, 314, 315, 316, 317, 318, 319, 345, 346, 347, 321, 322, 323, 324, 250, 255, 256, 257, 258, 126, 125, 259, 260, 261, 252, 253, 254, 262, 200, 201, 263, 264, 265, 78, 80, 82, 159, 160, 161, 162, 348, 349, 350, 351, 271, 272, 273, 274, 275, 277, 278, 279, 171, 172, 280, 281, 282, 176, 177, 283, 284, 285, 286, 287, 329, 330, 331, 332, 333, 334, 335, 336, 288, 289, 290, 291, 292, 293, 294, 295, 446, 447, 448, 449, 450, 451, 452, 453, 456, 457, 458, 459, 460, 461, 462, 463, 464, 465, 454, 455, 466, 467, 468, 469, 470, 471, 472, 473, 474, 475, 476, 477, 478, 479, 480, 481, 482, 483, 484, 485, 486, 487, 488, 489] (by decide +kernel) (by decide +kernel)
set_option maxRecDepth 20000 in
theorem gX1_readStatement_X1_readRequest : GoodIn wsX1_readStatement (wsV RX1 85 RX1 yX1_readRequest wsX1_readRequest) := goodIn_app (goodIn_of _ (by decide +kernel)) ggX1_readStatement_X1_readRequest
set_option maxRecDepth 20000 in
theorem ggX1_readStatement_X1_readRenew : GoodIn wsX1_readStatement wsX1_readRenew := goodIn_r _ [355, 74, 89, 90, 91, 4, 92, 93, 87, 7, 9, 8, 6, 94, 95, 96, 13, 97, 31, 27, 28, 29, 30, 32, 98, 99, 100, 101, 102, 103, 104, 105, 106, 107, 108, 109, 110, 111, 112, 113, 114, 115, 303, 304, 305, 306, 307, 308, 309, 131, 79, 132, 81, 133, 134, 135, 136, 137, 138, 139, 140, 141, 142, 143, 144, 83, 84, 85, 86, 88, 356, 357, 358, 123, 359, 251, 276, 333, 334, 335, 317, 336, 319, 297, 298, 314, 315, 316, 318, 360, 361, 362, 363, 125, 292, 296, 262, 200, 201, 159, 160, 161, 162, 364, 365, 366, 367, 280, 281, 282, 176, 177, 283, 284, 285, 286, 287, 446, 447, 448, 449, 450, 451, 452, 453, 454, 455, 456, 457, 458, 459, 460, 461, 462, 463, 464, 465, 466, 467, 468, 469, 470, 471, 472, 473, 474, 475, 476, 477, 478, 479, 480, 481, 482, 483, 484, 485, 486, 487, 488, 489] (by decide +kernel) (by decide +kernel)
set_option maxRecDepth 20000 in
theorem gX1_readStatement_X1_readRenew : GoodIn wsX1_readStatement (wsV RX1 90 RX1 yX1_readRenew wsX1_readRenew) := goodIn_app (goodIn_of _ (by decide +kernel)) ggX1_readStatement_X1_readRenew
set_option maxRecDepth 20000 in
theorem ggX1_readStatement_X1_readCheese : GoodIn wsX1_readStatement wsX1_readCheese := goodIn_r _ [371, 74, 89, 90, 91, 4, 92, 93, 87, 7, 9, 8, 6, 94, 95, 96, 13, 97, 31, 27, 28, 29, 30, 32, 98, 99, 100, 101, 102, 103, 104, 105, 106, 107, 108, 109, 110, 111, 112, 113, 114, 115, 303, 304, 305, 306, 307, 308, 309, 131, 79, 132, 81, 133, 134, 135, 136, 137, 138, 139, 140, 141, 142, 143, 144, 83, 84, 85, 86, 88, 372, 373, 374, 123, 375, 276, 251, 376, 126, 250, 127, 296, 297, 298, 314, 315, 316, 317, 318, 319, 321, 322, 323, 324, 255, 256, 257, 258, 125, 259, 260, 261, 252, 253, 254, 262, 200, 201, 377, 378, 379, 380, 381, 382, 383, 384, 385, 386, 387, 388, 389, 345, 346, 347, 159, 160, 161, 162, 390, 391, 392, 393, 394, 395, 396, 397, 398, 399, 400, 78, 80, 82, 401, 402, 403, 404, 405, 406, 407, 408, 171, 172, 409, 410, 411, 176, 177, 412, 240, 241, 413, 222, 223, 446, 447, 448, 449, 450, 451, 452, 453, 454, 455, 456, 457, 458, 459, 460, 461, 462, 463, 464, 465, 466, 467, 468, 469, 470, 471, 472, 473, 474, 475, 476, 477, 478, 479, 480, 481, 482, 483, 484, 485, 486, 487, 488, 489] (by decide +kernel) (by decide +kernel)
set_option maxRecDepth 20000 in
theorem gX1_readStatement_X1_readCheese : GoodIn wsX1_readStatement (wsV RX1 95 RX1 yX1_readCheese wsX1_readCheese) := goodIn_app (goodIn_of _ (by decide +kernel)) ggX1_readStatement_X1_readCheese
set_option maxRecDepth 20000 in
theorem ggX1_readStatement_X1_readDrop : GoodIn wsX1_readStatement wsX1_readDrop := goodIn_r _ [417, 74, 89, 90, 91, 4, 92, 93, 87, 7, 9, 8, 6, 94, 95, 96, 13, 97, 31, 27, 28, 29, 30, 32, 98, 99, 100, 101, 102, 103, 104, 105, 106, 107, 108, 109, 110, 111, 112, 113, 114, 115, 303, 304, 305, 306, 307, 308, 309, 131, 79, 132, 81, 133, 134, 135, 136, 137, 138, 139, 140, 141, 142, 143, 144, 83, 84, 85, 86, 88, 159, 160, 161, 162, 418, 419, 420, 404, 405, 446, 447, 448, 449, 450, 451, 452, 453, 456, 457, 458, 459, 460, 461, 462, 463, 464, 465, 454, 455, 466, 467, 468, 469, 470, 471, 472, 473, 474, 475, 476, 477, 478, 479, 480, 481, 482, 483, 484, 485, 486, 487, 488, 489] (by decide +kernel) (by decide +kernel)
set_option maxRecDepth 20000 in
theorem gX1_readStatement_X1_readDrop : GoodIn wsX1_readStatement (wsV RX1 100 RX1 yX1_readDrop wsX1_readDrop) := goodIn_app (goodIn_of _ (by decide +kernel)) ggX1_readStatement_X1_readDrop
set_option maxRecDepth 20000 in
theorem ggX1_readStatement_X1_readSweep : GoodIn wsX1_readStatement wsX1_readSweep := goodIn_r _ [424, 74, 89, 90, 91, 4, 92, 93, 87, 7, 9, 8, 6, 94, 95, 96, 13, 97, 31, 27, 28, 29, 30, 32, 98, 99, 100, 101, 102, 103, 104, 105, 106, 107, 108, 109, 110, 111, 112, 113, 114, 115, 159, 160, 161, 162, 83, 84, 85, 86, 88, 425, 426, 427, 317, 428, 429, 430, 431, 385, 79, 386, 81, 432, 315, 316, 318, 319, 297, 298, 136, 137, 138, 139, 433, 419, 420, 404, 405, 446, 447, 448, 449, 450, 451, 452, 453, 456, 457, 458, 459, 460, 461, 462, 463, 464, 465, 454, 455, 466, 467, 468, 469, 470, 471, 472, 473, 474, 475, 476, 477, 478, 479, 480, 481, 482, 483, 484, 485, 486, 487, 488, 489] (by decide +kernel) (by decide +kernel)
set_option maxRecDepth 20000 in
theorem gX1_readStatement_X1_readSweep : GoodIn wsX1_readStatement (wsV RX1 105 RX1 yX1_readSweep wsX1_readSweep) := goodIn_app (goodIn_of _ (by decide +kernel)) ggX1_readStatement_X1_readSweep
set_option maxRecDepth 20000 in
theorem ggX1_readStatement_X1_readPass : GoodIn wsX1_readStatement wsX1_readPass := goodIn_r _ [437, 74, 89, 90, 91, 4, 92, 93, 87, 7, 9, 8, 6, 94, 95, 96, 13, 97, 31, 27, 28, 29, 30, 32, 98, 99, 100, 101, 102, 103, 104, 105, 106, 107, 108, 109, 110, 111, 112, 113, 114, 115, 151, 152, 153, 154, 83, 84, 85, 86, 88, 159, 160, 161, 162, 438, 439, 440, 123, 441, 276, 376, 250, 442, 443, 444, 380, 445, 382, 383, 384, 385, 79, 386, 81, 387, 388, 389, 136, 137, 138, 139, 401, 402, 403, 404, 405, 446, 447, 448, 449, 450, 451, 452, 453, 454, 455, 456, 457, 458, 459, 460, 461, 462, 463, 464, 465, 466, 467, 468, 469, 470, 471, 472, 473, 474, 475, 476, 477, 478, 479, 480, 481, 482, 483, 484, 485, 486, 487, 488, 489] (by decide +kernel) (by decide +kernel)
set_option maxRecDepth 20000 in
theorem gX1_readStatement_X1_readPass : GoodIn wsX1_readStatement (wsV RX1 110 RX1 yX1_readPass wsX1_readPass) := goodIn_app (goodIn_of _ (by decide +kernel)) ggX1_readStatement_X1_readPass
set_option maxRecDepth 20000 in
theorem ggX1_readStatement_X1_require : GoodIn wsX1_readStatement wsX1_require := goodIn_r _ [86, 87, 8, 88, 446, 447, 448, 449, 450, 451, 452, 453] (by decide +kernel) (by decide +kernel)
set_option maxRecDepth 20000 in
theorem gX1_readStatement_X1_require : GoodIn wsX1_readStatement (wsV RX1 113 RX1 yX1_require wsX1_require) := goodIn_app (goodIn_of _ (by decide +kernel)) ggX1_readStatement_X1_require
theorem dX1_readStatement_0 : decode cX1_readStatement 0 = .ok (.aload_n 0, 1) := by decide +kernel
theorem dX1_readStatement_1 : decode cX1_readStatement 1 = .ok (.ldc 49, 2) := by decide +kernel
theorem dX1_readStatement_3 : decode cX1_readStatement 3 = .ok (.invokevirtual 51, 3) := by decide +kernel
theorem dX1_readStatement_6 : decode cX1_readStatement 6 = .ok (.ifCond .eq 10, 3) := by decide +kernel
theorem dX1_readStatement_9 : decode cX1_readStatement 9 = .ok (.aload_n 0, 1) := by decide +kernel
theorem dX1_readStatement_10 : decode cX1_readStatement 10 = .ok (.invokevirtual 55, 3) := by decide +kernel
theorem dX1_readStatement_13 : decode cX1_readStatement 13 = .ok (.goto 185, 3) := by decide +kernel
theorem dX1_readStatement_16 : decode cX1_readStatement 16 = .ok (.aload_n 0, 1) := by decide +kernel
theorem dX1_readStatement_17 : decode cX1_readStatement 17 = .ok (.ldc 58, 2) := by decide +kernel
theorem dX1_readStatement_19 : decode cX1_readStatement 19 = .ok (.invokevirtual 51, 3) := by decide +kernel
theorem dX1_readStatement_22 : decode cX1_readStatement 22 = .ok (.ifCond .eq 10, 3) := by decide +kernel
theorem dX1_readStatement_25 : decode cX1_readStatement 25 = .ok (.aload_n 0, 1) := by decide +kernel
theorem dX1_readStatement_26 : decode cX1_readStatement 26 = .ok (.invokevirtual 60, 3) := by decide +kernel
theorem dX1_readStatement_29 : decode cX1_readStatement 29 = .ok (.goto 169, 3) := by decide +kernel
theorem dX1_readStatement_32 : decode cX1_readStatement 32 = .ok (.aload_n 0, 1) := by decide +kernel
theorem dX1_readStatement_33 : decode cX1_readStatement 33 = .ok (.ldc 63, 2) := by decide +kernel
theorem dX1_readStatement_35 : decode cX1_readStatement 35 = .ok (.invokevirtual 51, 3) := by decide +kernel
theorem dX1_readStatement_38 : decode cX1_readStatement 38 = .ok (.ifCond .eq 10, 3) := by decide +kernel
theorem dX1_readStatement_41 : decode cX1_readStatement 41 = .ok (.aload_n 0, 1) := by decide +kernel
theorem dX1_readStatement_42 : decode cX1_readStatement 42 = .ok (.invokevirtual 65, 3) := by decide +kernel
theorem dX1_readStatement_45 : decode cX1_readStatement 45 = .ok (.goto 153, 3) := by decide +kernel
theorem dX1_readStatement_48 : decode cX1_readStatement 48 = .ok (.aload_n 0, 1) := by decide +kernel
theorem dX1_readStatement_49 : decode cX1_readStatement 49 = .ok (.ldc 68, 2) := by decide +kernel
theorem dX1_readStatement_51 : decode cX1_readStatement 51 = .ok (.invokevirtual 51, 3) := by decide +kernel
theorem dX1_readStatement_54 : decode cX1_readStatement 54 = .ok (.ifCond .eq 10, 3) := by decide +kernel
theorem dX1_readStatement_57 : decode cX1_readStatement 57 = .ok (.aload_n 0, 1) := by decide +kernel
theorem dX1_readStatement_58 : decode cX1_readStatement 58 = .ok (.invokevirtual 70, 3) := by decide +kernel
theorem dX1_readStatement_61 : decode cX1_readStatement 61 = .ok (.goto 137, 3) := by decide +kernel
theorem dX1_readStatement_64 : decode cX1_readStatement 64 = .ok (.aload_n 0, 1) := by decide +kernel
theorem dX1_readStatement_65 : decode cX1_readStatement 65 = .ok (.ldc 73, 2) := by decide +kernel
theorem dX1_readStatement_67 : decode cX1_readStatement 67 = .ok (.invokevirtual 51, 3) := by decide +kernel
theorem dX1_readStatement_70 : decode cX1_readStatement 70 = .ok (.ifCond .eq 10, 3) := by decide +kernel
theorem dX1_readStatement_73 : decode cX1_readStatement 73 = .ok (.aload_n 0, 1) := by decide +kernel
theorem dX1_readStatement_74 : decode cX1_readStatement 74 = .ok (.invokevirtual 75, 3) := by decide +kernel
theorem dX1_readStatement_77 : decode cX1_readStatement 77 = .ok (.goto 121, 3) := by decide +kernel
theorem dX1_readStatement_80 : decode cX1_readStatement 80 = .ok (.aload_n 0, 1) := by decide +kernel
theorem dX1_readStatement_81 : decode cX1_readStatement 81 = .ok (.ldc 78, 2) := by decide +kernel
theorem dX1_readStatement_83 : decode cX1_readStatement 83 = .ok (.invokevirtual 51, 3) := by decide +kernel
theorem dX1_readStatement_86 : decode cX1_readStatement 86 = .ok (.ifCond .eq 10, 3) := by decide +kernel
theorem dX1_readStatement_89 : decode cX1_readStatement 89 = .ok (.aload_n 0, 1) := by decide +kernel
theorem dX1_readStatement_90 : decode cX1_readStatement 90 = .ok (.invokevirtual 80, 3) := by decide +kernel
theorem dX1_readStatement_93 : decode cX1_readStatement 93 = .ok (.goto 105, 3) := by decide +kernel
theorem dX1_readStatement_96 : decode cX1_readStatement 96 = .ok (.aload_n 0, 1) := by decide +kernel
theorem dX1_readStatement_97 : decode cX1_readStatement 97 = .ok (.ldc 83, 2) := by decide +kernel
theorem dX1_readStatement_99 : decode cX1_readStatement 99 = .ok (.invokevirtual 51, 3) := by decide +kernel
theorem dX1_readStatement_102 : decode cX1_readStatement 102 = .ok (.ifCond .eq 10, 3) := by decide +kernel
theorem dX1_readStatement_105 : decode cX1_readStatement 105 = .ok (.aload_n 0, 1) := by decide +kernel
theorem dX1_readStatement_106 : decode cX1_readStatement 106 = .ok (.invokevirtual 85, 3) := by decide +kernel
theorem dX1_readStatement_109 : decode cX1_readStatement 109 = .ok (.goto 89, 3) := by decide +kernel
theorem dX1_readStatement_112 : decode cX1_readStatement 112 = .ok (.aload_n 0, 1) := by decide +kernel
theorem dX1_readStatement_113 : decode cX1_readStatement 113 = .ok (.ldc 88, 2) := by decide +kernel
theorem dX1_readStatement_115 : decode cX1_readStatement 115 = .ok (.invokevirtual 51, 3) := by decide +kernel
theorem dX1_readStatement_118 : decode cX1_readStatement 118 = .ok (.ifCond .eq 10, 3) := by decide +kernel
theorem dX1_readStatement_121 : decode cX1_readStatement 121 = .ok (.aload_n 0, 1) := by decide +kernel
theorem dX1_readStatement_122 : decode cX1_readStatement 122 = .ok (.invokevirtual 90, 3) := by decide +kernel
theorem dX1_readStatement_125 : decode cX1_readStatement 125 = .ok (.goto 73, 3) := by decide +kernel
theorem dX1_readStatement_128 : decode cX1_readStatement 128 = .ok (.aload_n 0, 1) := by decide +kernel
theorem dX1_readStatement_129 : decode cX1_readStatement 129 = .ok (.ldc 93, 2) := by decide +kernel
theorem dX1_readStatement_131 : decode cX1_readStatement 131 = .ok (.invokevirtual 51, 3) := by decide +kernel
theorem dX1_readStatement_134 : decode cX1_readStatement 134 = .ok (.ifCond .eq 10, 3) := by decide +kernel
theorem dX1_readStatement_137 : decode cX1_readStatement 137 = .ok (.aload_n 0, 1) := by decide +kernel
theorem dX1_readStatement_138 : decode cX1_readStatement 138 = .ok (.invokevirtual 95, 3) := by decide +kernel
theorem dX1_readStatement_141 : decode cX1_readStatement 141 = .ok (.goto 57, 3) := by decide +kernel
theorem dX1_readStatement_144 : decode cX1_readStatement 144 = .ok (.aload_n 0, 1) := by decide +kernel
theorem dX1_readStatement_145 : decode cX1_readStatement 145 = .ok (.ldc 98, 2) := by decide +kernel
theorem dX1_readStatement_147 : decode cX1_readStatement 147 = .ok (.invokevirtual 51, 3) := by decide +kernel
theorem dX1_readStatement_150 : decode cX1_readStatement 150 = .ok (.ifCond .eq 10, 3) := by decide +kernel
theorem dX1_readStatement_153 : decode cX1_readStatement 153 = .ok (.aload_n 0, 1) := by decide +kernel
theorem dX1_readStatement_154 : decode cX1_readStatement 154 = .ok (.invokevirtual 100, 3) := by decide +kernel
theorem dX1_readStatement_157 : decode cX1_readStatement 157 = .ok (.goto 41, 3) := by decide +kernel
theorem dX1_readStatement_160 : decode cX1_readStatement 160 = .ok (.aload_n 0, 1) := by decide +kernel
theorem dX1_readStatement_161 : decode cX1_readStatement 161 = .ok (.ldc 103, 2) := by decide +kernel
theorem dX1_readStatement_163 : decode cX1_readStatement 163 = .ok (.invokevirtual 51, 3) := by decide +kernel
theorem dX1_readStatement_166 : decode cX1_readStatement 166 = .ok (.ifCond .eq 10, 3) := by decide +kernel
theorem dX1_readStatement_169 : decode cX1_readStatement 169 = .ok (.aload_n 0, 1) := by decide +kernel
theorem dX1_readStatement_170 : decode cX1_readStatement 170 = .ok (.invokevirtual 105, 3) := by decide +kernel
theorem dX1_readStatement_173 : decode cX1_readStatement 173 = .ok (.goto 25, 3) := by decide +kernel
theorem dX1_readStatement_176 : decode cX1_readStatement 176 = .ok (.aload_n 0, 1) := by decide +kernel
theorem dX1_readStatement_177 : decode cX1_readStatement 177 = .ok (.ldc 108, 2) := by decide +kernel
theorem dX1_readStatement_179 : decode cX1_readStatement 179 = .ok (.invokevirtual 51, 3) := by decide +kernel
theorem dX1_readStatement_182 : decode cX1_readStatement 182 = .ok (.ifCond .eq 10, 3) := by decide +kernel
theorem dX1_readStatement_185 : decode cX1_readStatement 185 = .ok (.aload_n 0, 1) := by decide +kernel
theorem dX1_readStatement_186 : decode cX1_readStatement 186 = .ok (.invokevirtual 110, 3) := by decide +kernel
theorem dX1_readStatement_189 : decode cX1_readStatement 189 = .ok (.goto 9, 3) := by decide +kernel
theorem dX1_readStatement_192 : decode cX1_readStatement 192 = .ok (.aload_n 0, 1) := by decide +kernel
theorem dX1_readStatement_193 : decode cX1_readStatement 193 = .ok (.iconst 0, 1) := by decide +kernel
theorem dX1_readStatement_194 : decode cX1_readStatement 194 = .ok (.iconst 1, 1) := by decide +kernel
theorem dX1_readStatement_195 : decode cX1_readStatement 195 = .ok (.invokevirtual 113, 3) := by decide +kernel
theorem dX1_readStatement_198 : decode cX1_readStatement 198 = .ok (.return_, 1) := by decide +kernel
set_option maxRecDepth 20000 in
theorem ggX1_readGate_X1_isWord : GoodIn wsX1_readGate wsX1_isWord := goodIn_r _ [6, 7, 8, 9, 10, 11, 12, 13, 14, 15, 16, 17, 18, 19, 20, 21, 22, 23, 24, 25, 26, 27, 28, 29, 30, 31, 32, 33, 34, 35, 36, 37, 38, 39, 40, 41, 42, 43, 44, 45, 46, 47, 48, 49, 50, 51, 52, 53, 54, 55, 56, 57, 58, 59, 60, 61, 62, 63, 64, 65, 66, 67, 68, 69, 70, 146, 147, 148, 149, 150, 151, 152, 153, 154, 155] (by decide +kernel) (by decide +kernel)
set_option maxRecDepth 20000 in
theorem gX1_readGate_X1_isWord : GoodIn wsX1_readGate (wsV RX1 51 RX1 yX1_isWord wsX1_isWord) := goodIn_app (goodIn_of _ (by decide +kernel)) ggX1_readGate_X1_isWord
set_option maxRecDepth 20000 in
theorem ggX1_readGate_X1_require : GoodIn wsX1_readGate wsX1_require := goodIn_r _ [74, 75, 9, 76, 146, 147, 148, 149, 150, 151, 152, 153] (by decide +kernel) (by decide +kernel)
set_option maxRecDepth 20000 in
theorem gX1_readGate_X1_require : GoodIn wsX1_readGate (wsV RX1 113 RX1 yX1_require wsX1_require) := goodIn_app (goodIn_of _ (by decide +kernel)) ggX1_readGate_X1_require
set_option maxRecDepth 20000 in
theorem ggX1_readGate_X1_take : GoodIn wsX1_readGate wsX1_take := goodIn_r _ [80, 81, 75, 8, 10, 9, 7, 82, 83, 84, 14, 85, 32, 28, 29, 30, 31, 33, 86, 87, 88, 89, 90, 91, 92, 93, 94, 95, 96, 97, 98, 99, 100, 101, 102, 103, 146, 147, 148, 149, 150, 151, 152, 153, 154, 155] (by decide +kernel) (by decide +kernel)
set_option maxRecDepth 20000 in
theorem gX1_readGate_X1_take : GoodIn wsX1_readGate (wsV RX1 36 RX1 yX1_take wsX1_take) := goodIn_app (goodIn_of _ (by decide +kernel)) ggX1_readGate_X1_take
set_option maxRecDepth 20000 in
theorem ggX1_readGate_X1_number : GoodIn wsX1_readGate wsX1_number := goodIn_r _ [107, 7, 81, 71, 72, 73, 5, 74, 75, 9, 76, 77, 78, 79, 80, 8, 10, 82, 83, 84, 14, 85, 32, 28, 29, 30, 31, 33, 86, 87, 88, 89, 90, 91, 92, 93, 94, 95, 96, 97, 98, 99, 100, 101, 102, 103, 146, 147, 148, 149, 150, 151, 152, 153, 154, 155] (by decide +kernel) (by decide +kernel)
set_option maxRecDepth 20000 in
theorem gX1_readGate_X1_number : GoodIn wsX1_readGate (wsV RX1 119 RX1 yX1_number wsX1_number) := goodIn_app (goodIn_of _ (by decide +kernel)) ggX1_readGate_X1_number
set_option maxRecDepth 20000 in
theorem ggX1_readGate_X1_semicolon : GoodIn wsX1_readGate wsX1_semicolon := goodIn_r _ [111, 7, 81, 75, 71, 72, 73, 5, 74, 9, 76, 77, 78, 79, 80, 8, 10, 82, 83, 84, 14, 85, 32, 28, 29, 30, 31, 33, 86, 87, 88, 89, 90, 91, 92, 93, 94, 95, 96, 97, 98, 99, 100, 101, 102, 103, 146, 147, 148, 149, 150, 151, 152, 153, 154, 155] (by decide +kernel) (by decide +kernel)
set_option maxRecDepth 20000 in
theorem gX1_readGate_X1_semicolon : GoodIn wsX1_readGate (wsV RX1 123 RX1 yX1_semicolon wsX1_semicolon) := goodIn_app (goodIn_of _ (by decide +kernel)) ggX1_readGate_X1_semicolon
set_option maxRecDepth 20000 in
theorem ggX1_readGate_X5_begin : GoodIn wsX1_readGate wsX5_begin := goodIn_r _ [116, 117, 118, 119, 120, 121, 122, 123, 124, 125, 126, 127, 128, 129, 130, 131, 132, 133, 134, 135, 136, 137, 138, 139, 140, 141, 142, 143, 144, 145, 156, 157, 158, 159, 160, 161, 162, 163, 164, 165, 166, 167, 168, 169, 170, 171, 172, 173, 174, 175, 176, 177, 178, 179, 180, 181, 182, 183, 184, 185, 186, 187, 188, 189] (by decide +kernel) (by decide +kernel)
set_option maxRecDepth 20000 in
theorem gX1_readGate_X5_begin : GoodIn wsX1_readGate (wsV RX1 32 RX5 yX5_begin wsX5_begin) := goodIn_app (goodIn_of _ (by decide +kernel)) ggX1_readGate_X5_begin
theorem dX1_readGate_0 : decode cX1_readGate 0 = .ok (.aload_n 0, 1) := by decide +kernel
theorem dX1_readGate_1 : decode cX1_readGate 1 = .ok (.aload_n 0, 1) := by decide +kernel
theorem dX1_readGate_2 : decode cX1_readGate 2 = .ok (.ldc 117, 2) := by decide +kernel
theorem dX1_readGate_4 : decode cX1_readGate 4 = .ok (.invokevirtual 51, 3) := by decide +kernel
theorem dX1_readGate_7 : decode cX1_readGate 7 = .ok (.iconst 1, 1) := by decide +kernel
theorem dX1_readGate_8 : decode cX1_readGate 8 = .ok (.invokevirtual 113, 3) := by decide +kernel
theorem dX1_readGate_11 : decode cX1_readGate 11 = .ok (.aload_n 0, 1) := by decide +kernel
theorem dX1_readGate_12 : decode cX1_readGate 12 = .ok (.invokevirtual 36, 3) := by decide +kernel
theorem dX1_readGate_15 : decode cX1_readGate 15 = .ok (.pop, 1) := by decide +kernel
theorem dX1_readGate_16 : decode cX1_readGate 16 = .ok (.aload_n 0, 1) := by decide +kernel
theorem dX1_readGate_17 : decode cX1_readGate 17 = .ok (.iconst 0, 1) := by decide +kernel
theorem dX1_readGate_18 : decode cX1_readGate 18 = .ok (.bipush 9, 2) := by decide +kernel
theorem dX1_readGate_20 : decode cX1_readGate 20 = .ok (.invokevirtual 119, 3) := by decide +kernel
theorem dX1_readGate_23 : decode cX1_readGate 23 = .ok (.istore_n 1, 1) := by decide +kernel
theorem dX1_readGate_24 : decode cX1_readGate 24 = .ok (.aload_n 0, 1) := by decide +kernel
theorem dX1_readGate_25 : decode cX1_readGate 25 = .ok (.iconst 0, 1) := by decide +kernel
theorem dX1_readGate_26 : decode cX1_readGate 26 = .ok (.sipush 1023, 3) := by decide +kernel
theorem dX1_readGate_29 : decode cX1_readGate 29 = .ok (.invokevirtual 119, 3) := by decide +kernel
theorem dX1_readGate_32 : decode cX1_readGate 32 = .ok (.istore_n 2, 1) := by decide +kernel
theorem dX1_readGate_33 : decode cX1_readGate 33 = .ok (.aload_n 0, 1) := by decide +kernel
theorem dX1_readGate_34 : decode cX1_readGate 34 = .ok (.iconst 1, 1) := by decide +kernel
theorem dX1_readGate_35 : decode cX1_readGate 35 = .ok (.invokevirtual 123, 3) := by decide +kernel
theorem dX1_readGate_38 : decode cX1_readGate 38 = .ok (.ifCond .eq 12, 3) := by decide +kernel
theorem dX1_readGate_41 : decode cX1_readGate 41 = .ok (.aload_n 0, 1) := by decide +kernel
theorem dX1_readGate_42 : decode cX1_readGate 42 = .ok (.getfield 12, 3) := by decide +kernel
theorem dX1_readGate_45 : decode cX1_readGate 45 = .ok (.iload_n 1, 1) := by decide +kernel
theorem dX1_readGate_46 : decode cX1_readGate 46 = .ok (.iload_n 2, 1) := by decide +kernel
theorem dX1_readGate_47 : decode cX1_readGate 47 = .ok (.invokevirtual 32, 3) := by decide +kernel
theorem dX1_readGate_50 : decode cX1_readGate 50 = .ok (.return_, 1) := by decide +kernel
set_option maxRecDepth 20000 in
theorem ggX1_readRealm_X6_isFull : GoodIn wsX1_readRealm wsX6_isFull := goodIn_r _ [7, 8, 9, 192, 193, 194, 195, 196, 197, 198, 199, 200, 201, 202, 203, 204, 205, 206, 207, 208, 209, 210, 211, 212, 213, 214, 215] (by decide +kernel) (by decide +kernel)
set_option maxRecDepth 20000 in
theorem gX1_readRealm_X6_isFull_u131X2 : GoodIn wsX1_readRealm (va_wsU RX1 131 RX2 "TicketGate$Table" ⟨"TicketGate$Realms", "isFull", "()Z"⟩ yX6_isFull wsX6_isFull) := goodIn_app (goodIn_of _ (by decide +kernel)) ggX1_readRealm_X6_isFull
set_option maxRecDepth 20000 in
theorem ggX1_readRealm_X1_require : GoodIn wsX1_readRealm wsX1_require := goodIn_r _ [14, 15, 16, 17, 174, 175, 176, 177, 178, 179, 180, 181] (by decide +kernel) (by decide +kernel)
set_option maxRecDepth 20000 in
theorem gX1_readRealm_X1_require : GoodIn wsX1_readRealm (wsV RX1 113 RX1 yX1_require wsX1_require) := goodIn_app (goodIn_of _ (by decide +kernel)) ggX1_readRealm_X1_require
set_option maxRecDepth 20000 in
theorem ggX1_readRealm_X1_take : GoodIn wsX1_readRealm wsX1_take := goodIn_r _ [21, 22, 15, 23, 24, 16, 25, 26, 27, 28, 29, 30, 31, 32, 33, 34, 35, 36, 37, 38, 39, 40, 41, 42, 43, 44, 45, 46, 47, 48, 49, 50, 51, 52, 53, 54, 174, 175, 176, 177, 178, 179, 180, 181, 216, 217] (by decide +kernel) (by decide +kernel)
set_option maxRecDepth 20000 in
theorem gX1_readRealm_X1_take : GoodIn wsX1_readRealm (wsV RX1 36 RX1 yX1_take wsX1_take) := goodIn_app (goodIn_of _ (by decide +kernel)) ggX1_readRealm_X1_take
set_option maxRecDepth 20000 in
theorem ggX1_readRealm_X1_newName : GoodIn wsX1_readRealm wsX1_newName := goodIn_r _ [58, 25, 22, 1, 10, 11, 12, 13, 14, 15, 16, 17, 59, 60, 61, 62, 63, 64, 65, 66, 67, 68, 69, 70, 6, 71, 8, 72, 73, 74, 75, 76, 77, 78, 79, 80, 81, 82, 83, 84, 85, 86, 87, 88, 89, 18, 19, 20, 21, 23, 24, 26, 27, 28, 29, 30, 31, 32, 33, 34, 35, 36, 37, 38, 39, 40, 41, 42, 43, 44, 45, 46, 47, 48, 49, 50, 51, 52, 53, 54, 174, 175, 176, 177, 178, 179, 180, 181, 182, 183, 184, 185, 186, 187, 188, 189, 190, 191, 192, 193, 194, 195, 196, 197, 198, 199, 200, 201, 202, 203, 204, 205, 206, 207, 208, 209, 210, 211, 212, 213, 214, 215, 216, 217] (by decide +kernel) (by decide +kernel)
set_option maxRecDepth 20000 in
theorem gX1_readRealm_X1_newName : GoodIn wsX1_readRealm (wsV RX1 137 RX1 yX1_newName wsX1_newName) := goodIn_app (goodIn_of _ (by decide +kernel)) ggX1_readRealm_X1_newName
set_option maxRecDepth 20000 in
theorem ggX1_readRealm_X1_number : GoodIn wsX1_readRealm wsX1_number := goodIn_r _ [93, 25, 22, 10, 11, 12, 13, 14, 15, 16, 17, 18, 19, 20, 21, 23, 24, 26, 27, 28, 29, 30, 31, 32, 33, 34, 35, 36, 37, 38, 39, 40, 41, 42, 43, 44, 45, 46, 47, 48, 49, 50, 51, 52, 53, 54, 174, 175, 176, 177, 178, 179, 180, 181, 216, 217] (by decide +kernel) (by decide +kernel)
set_option maxRecDepth 20000 in
theorem gX1_readRealm_X1_number : GoodIn wsX1_readRealm (wsV RX1 119 RX1 yX1_number wsX1_number) := goodIn_app (goodIn_of _ (by decide +kernel)) ggX1_readRealm_X1_number
set_option maxRecDepth 20000 in
theorem ggX1_readRealm_X1_clockWord : GoodIn wsX1_readRealm wsX1_clockWord := goodIn_r _ [97, 98, 99, 100, 13, 101, 25, 23, 16, 24, 102, 103, 104, 29, 105, 106, 107, 108, 109, 110, 111, 112, 113, 114, 115, 116, 117, 32, 33, 34, 35, 31, 36, 118, 119, 120, 121, 122, 123, 124, 125, 126, 127, 128, 129, 130, 131, 132, 133, 134, 135, 136, 137, 138, 139, 140, 141, 142, 143, 144, 145, 146, 147, 148, 149, 150, 151, 152, 153, 154, 10, 11, 12, 14, 15, 17, 18, 19, 20, 21, 22, 26, 27, 28, 30, 37, 38, 39, 40, 41, 42, 43, 44, 45, 46, 47, 48, 49, 50, 51, 52, 53, 54, 174, 175, 176, 177, 178, 179, 180, 181, 216, 217] (by decide +kernel) (by decide +kernel)
set_option maxRecDepth 20000 in
theorem gX1_readRealm_X1_clockWord : GoodIn wsX1_readRealm (wsV RX1 140 RX1 yX1_clockWord wsX1_clockWord) := goodIn_app (goodIn_of _ (by decide +kernel)) ggX1_readRealm_X1_clockWord
set_option maxRecDepth 20000 in
theorem ggX1_readRealm_X1_semicolon : GoodIn wsX1_readRealm wsX1_semicolon := goodIn_r _ [158, 25, 22, 15, 10, 11, 12, 13, 14, 16, 17, 18, 19, 20, 21, 23, 24, 26, 27, 28, 29, 30, 31, 32, 33, 34, 35, 36, 37, 38, 39, 40, 41, 42, 43, 44, 45, 46, 47, 48, 49, 50, 51, 52, 53, 54, 174, 175, 176, 177, 178, 179, 180, 181, 216, 217] (by decide +kernel) (by decide +kernel)
set_option maxRecDepth 20000 in
theorem gX1_readRealm_X1_semicolon : GoodIn wsX1_readRealm (wsV RX1 123 RX1 yX1_semicolon wsX1_semicolon) := goodIn_app (goodIn_of _ (by decide +kernel)) ggX1_readRealm_X1_semicolon
set_option maxRecDepth 20000 in
theorem ggX1_readRealm_X2_addRealm : GoodIn wsX1_readRealm wsX2_addRealm := goodIn_r _ [163, 164, 165, 166, 167, 6, 168, 8, 9, 169, 170, 171, 172, 173, 77, 78, 192, 193, 194, 195, 196, 197, 198, 199, 200, 201, 202, 203, 204, 205, 206, 207, 208, 209, 210, 211, 212, 213, 214, 215] (by decide +kernel) (by decide +kernel)
set_option maxRecDepth 20000 in
theorem gX1_readRealm_X2_addRealm : GoodIn wsX1_readRealm (wsV RX1 143 RX2 yX2_addRealm wsX2_addRealm) := goodIn_app (goodIn_of _ (by decide +kernel)) ggX1_readRealm_X2_addRealm
theorem dX1_readRealm_0 : decode cX1_readRealm 0 = .ok (.aload_n 0, 1) := by decide +kernel
theorem dX1_readRealm_1 : decode cX1_readRealm 1 = .ok (.aload_n 0, 1) := by decide +kernel
theorem dX1_readRealm_2 : decode cX1_readRealm 2 = .ok (.getfield 12, 3) := by decide +kernel
theorem dX1_readRealm_5 : decode cX1_readRealm 5 = .ok (.getfield 127, 3) := by decide +kernel
theorem dX1_readRealm_8 : decode cX1_readRealm 8 = .ok (.invokevirtual 131, 3) := by decide +kernel
theorem dX1_readRealm_11 : decode cX1_readRealm 11 = .ok (.ifCond .ne 7, 3) := by decide +kernel
theorem dX1_readRealm_14 : decode cX1_readRealm 14 = .ok (.iconst 1, 1) := by decide +kernel
theorem dX1_readRealm_15 : decode cX1_readRealm 15 = .ok (.goto 4, 3) := by decide +kernel
theorem dX1_readRealm_18 : decode cX1_readRealm 18 = .ok (.iconst 0, 1) := by decide +kernel
theorem dX1_readRealm_19 : decode cX1_readRealm 19 = .ok (.iconst 5, 1) := by decide +kernel
theorem dX1_readRealm_20 : decode cX1_readRealm 20 = .ok (.invokevirtual 113, 3) := by decide +kernel
theorem dX1_readRealm_23 : decode cX1_readRealm 23 = .ok (.aload_n 0, 1) := by decide +kernel
theorem dX1_readRealm_24 : decode cX1_readRealm 24 = .ok (.invokevirtual 36, 3) := by decide +kernel
theorem dX1_readRealm_27 : decode cX1_readRealm 27 = .ok (.pop, 1) := by decide +kernel
theorem dX1_readRealm_28 : decode cX1_readRealm 28 = .ok (.aload_n 0, 1) := by decide +kernel
theorem dX1_readRealm_29 : decode cX1_readRealm 29 = .ok (.invokevirtual 137, 3) := by decide +kernel
theorem dX1_readRealm_32 : decode cX1_readRealm 32 = .ok (.istore_n 1, 1) := by decide +kernel
theorem dX1_readRealm_33 : decode cX1_readRealm 33 = .ok (.aload_n 0, 1) := by decide +kernel
theorem dX1_readRealm_34 : decode cX1_readRealm 34 = .ok (.iconst 1, 1) := by decide +kernel
theorem dX1_readRealm_35 : decode cX1_readRealm 35 = .ok (.sipush 999, 3) := by decide +kernel
theorem dX1_readRealm_38 : decode cX1_readRealm 38 = .ok (.invokevirtual 119, 3) := by decide +kernel
theorem dX1_readRealm_41 : decode cX1_readRealm 41 = .ok (.istore_n 2, 1) := by decide +kernel
theorem dX1_readRealm_42 : decode cX1_readRealm 42 = .ok (.aload_n 0, 1) := by decide +kernel
theorem dX1_readRealm_43 : decode cX1_readRealm 43 = .ok (.iconst 0, 1) := by decide +kernel
theorem dX1_readRealm_44 : decode cX1_readRealm 44 = .ok (.sipush 9999, 3) := by decide +kernel
theorem dX1_readRealm_47 : decode cX1_readRealm 47 = .ok (.invokevirtual 119, 3) := by decide +kernel
theorem dX1_readRealm_50 : decode cX1_readRealm 50 = .ok (.istore_n 3, 1) := by decide +kernel
theorem dX1_readRealm_51 : decode cX1_readRealm 51 = .ok (.aload_n 0, 1) := by decide +kernel
theorem dX1_readRealm_52 : decode cX1_readRealm 52 = .ok (.invokevirtual 140, 3) := by decide +kernel
theorem dX1_readRealm_55 : decode cX1_readRealm 55 = .ok (.istore 4, 2) := by decide +kernel
theorem dX1_readRealm_57 : decode cX1_readRealm 57 = .ok (.iload 4, 2) := by decide +kernel
theorem dX1_readRealm_59 : decode cX1_readRealm 59 = .ok (.ifCond .ne 7, 3) := by decide +kernel
theorem dX1_readRealm_62 : decode cX1_readRealm 62 = .ok (.iconst 0, 1) := by decide +kernel
theorem dX1_readRealm_63 : decode cX1_readRealm 63 = .ok (.goto 13, 3) := by decide +kernel
theorem dX1_readRealm_66 : decode cX1_readRealm 66 = .ok (.iload 4, 2) := by decide +kernel
theorem dX1_readRealm_68 : decode cX1_readRealm 68 = .ok (.aload_n 0, 1) := by decide +kernel
theorem dX1_readRealm_69 : decode cX1_readRealm 69 = .ok (.iconst 1, 1) := by decide +kernel
theorem dX1_readRealm_70 : decode cX1_readRealm 70 = .ok (.bipush 9, 2) := by decide +kernel
theorem dX1_readRealm_72 : decode cX1_readRealm 72 = .ok (.invokevirtual 119, 3) := by decide +kernel
theorem dX1_readRealm_75 : decode cX1_readRealm 75 = .ok (.imul, 1) := by decide +kernel
theorem dX1_readRealm_76 : decode cX1_readRealm 76 = .ok (.istore 5, 2) := by decide +kernel
theorem dX1_readRealm_78 : decode cX1_readRealm 78 = .ok (.aload_n 0, 1) := by decide +kernel
theorem dX1_readRealm_79 : decode cX1_readRealm 79 = .ok (.iconst 1, 1) := by decide +kernel
theorem dX1_readRealm_80 : decode cX1_readRealm 80 = .ok (.invokevirtual 123, 3) := by decide +kernel
theorem dX1_readRealm_83 : decode cX1_readRealm 83 = .ok (.ifCond .eq 18, 3) := by decide +kernel
theorem dX1_readRealm_86 : decode cX1_readRealm 86 = .ok (.aload_n 0, 1) := by decide +kernel
theorem dX1_readRealm_87 : decode cX1_readRealm 87 = .ok (.getfield 12, 3) := by decide +kernel
theorem dX1_readRealm_90 : decode cX1_readRealm 90 = .ok (.getfield 127, 3) := by decide +kernel
theorem dX1_readRealm_93 : decode cX1_readRealm 93 = .ok (.iload_n 1, 1) := by decide +kernel
theorem dX1_readRealm_94 : decode cX1_readRealm 94 = .ok (.iload_n 2, 1) := by decide +kernel
theorem dX1_readRealm_95 : decode cX1_readRealm 95 = .ok (.iload_n 3, 1) := by decide +kernel
theorem dX1_readRealm_96 : decode cX1_readRealm 96 = .ok (.iload 5, 2) := by decide +kernel
theorem dX1_readRealm_98 : decode cX1_readRealm 98 = .ok (.invokevirtual 143, 3) := by decide +kernel
theorem dX1_readRealm_101 : decode cX1_readRealm 101 = .ok (.return_, 1) := by decide +kernel
set_option maxRecDepth 20000 in
theorem ggX1_readTrust_X1_take : GoodIn wsX1_readTrust wsX1_take := goodIn_r _ [8, 2, 9, 10, 11, 12, 3, 13, 14, 15, 16, 17, 18, 19, 20, 21, 22, 23, 24, 25, 26, 27, 28, 29, 30, 31, 32, 33, 34, 35, 36, 37, 38, 39, 40, 41, 99, 100, 101, 102, 103, 104, 105, 106, 117, 118] (by decide +kernel) (by decide +kernel)
set_option maxRecDepth 20000 in
theorem gX1_readTrust_X1_take : GoodIn wsX1_readTrust (wsV RX1 36 RX1 yX1_take wsX1_take) := goodIn_app (goodIn_of _ (by decide +kernel)) ggX1_readTrust_X1_take
set_option maxRecDepth 20000 in
theorem ggX1_readTrust_X1_knownName : GoodIn wsX1_readTrust wsX1_knownName := goodIn_r _ [45, 2, 3, 46, 47, 48, 49, 50, 51, 52, 53, 54, 55, 56, 57, 58, 59, 60, 61, 62, 63, 64, 65, 66, 67, 68, 69, 70, 71, 72, 7, 73, 9, 12, 74, 4, 5, 6, 8, 10, 11, 13, 14, 15, 16, 17, 18, 19, 20, 21, 22, 23, 24, 25, 26, 27, 28, 29, 30, 31, 32, 33, 34, 35, 36, 37, 38, 39, 40, 41, 99, 100, 101, 102, 103, 104, 105, 106, 119, 120, 121, 122, 123, 124, 125, 126, 127, 128, 129, 130, 131, 132, 133, 134, 135, 136, 137, 138, 139, 140, 141, 142, 117, 118] (by decide +kernel) (by decide +kernel)
set_option maxRecDepth 20000 in
theorem gX1_readTrust_X1_knownName : GoodIn wsX1_readTrust (wsV RX1 147 RX1 yX1_knownName wsX1_knownName) := goodIn_app (goodIn_of _ (by decide +kernel)) ggX1_readTrust_X1_knownName
set_option maxRecDepth 20000 in
theorem ggX1_readTrust_X6_rowWith : GoodIn wsX1_readTrust wsX6_rowWith := goodIn_r _ [51, 52, 53, 54, 55, 56, 50, 57, 58, 59, 60, 61, 62, 63, 64, 119, 120, 121, 122, 123, 124, 125, 126, 127, 128, 129, 130, 131, 132, 133, 134, 135, 136, 137, 138, 139, 140, 141, 142] (by decide +kernel) (by decide +kernel)
set_option maxRecDepth 20000 in
theorem gX1_readTrust_X6_rowWith_u154X2 : GoodIn wsX1_readTrust (va_wsU RX1 154 RX2 "TicketGate$Table" ⟨"TicketGate$Realms", "rowWith", "(II)I"⟩ yX6_rowWith wsX6_rowWith) := goodIn_app (goodIn_of _ (by decide +kernel)) ggX1_readTrust_X6_rowWith
set_option maxRecDepth 20000 in
theorem ggX1_readTrust_X1_require : GoodIn wsX1_readTrust wsX1_require := goodIn_r _ [73, 9, 12, 74, 99, 100, 101, 102, 103, 104, 105, 106] (by decide +kernel) (by decide +kernel)
set_option maxRecDepth 20000 in
theorem gX1_readTrust_X1_require : GoodIn wsX1_readTrust (wsV RX1 113 RX1 yX1_require wsX1_require) := goodIn_app (goodIn_of _ (by decide +kernel)) ggX1_readTrust_X1_require
set_option maxRecDepth 20000 in
theorem ggX1_readTrust_X2_hasTrust : GoodIn wsX1_readTrust wsX2_hasTrust := goodIn_r _ [82, 83, 84, 85, 56, 50, 57, 58, 52, 59, 119, 120, 121, 122, 123, 124, 125, 126, 127, 128, 129, 130, 131, 132, 133, 134, 135, 136, 137, 138, 139, 140, 141, 142] (by decide +kernel) (by decide +kernel)
set_option maxRecDepth 20000 in
theorem gX1_readTrust_X2_hasTrust : GoodIn wsX1_readTrust (wsV RX1 157 RX2 yX2_hasTrust wsX2_hasTrust) := goodIn_app (goodIn_of _ (by decide +kernel)) ggX1_readTrust_X2_hasTrust
set_option maxRecDepth 20000 in
theorem ggX1_readTrust_X1_semicolon : GoodIn wsX1_readTrust wsX1_semicolon := goodIn_r _ [89, 3, 2, 9, 70, 71, 72, 7, 73, 12, 74, 4, 5, 6, 8, 10, 11, 13, 14, 15, 16, 17, 18, 19, 20, 21, 22, 23, 24, 25, 26, 27, 28, 29, 30, 31, 32, 33, 34, 35, 36, 37, 38, 39, 40, 41, 99, 100, 101, 102, 103, 104, 105, 106, 117, 118] (by decide +kernel) (by decide +kernel)
set_option maxRecDepth 20000 in
theorem gX1_readTrust_X1_semicolon : GoodIn wsX1_readTrust (wsV RX1 123 RX1 yX1_semicolon wsX1_semicolon) := goodIn_app (goodIn_of _ (by decide +kernel)) ggX1_readTrust_X1_semicolon
set_option maxRecDepth 20000 in
theorem ggX1_readTrust_X2_addTrust : GoodIn wsX1_readTrust wsX2_addTrust := goodIn_r _ [93, 83, 84, 85, 56, 50, 57, 58, 52, 59, 94, 95, 96, 97, 98, 119, 120, 121, 122, 123, 124, 125, 126, 127, 128, 129, 130, 131, 132, 133, 134, 135, 136, 137, 138, 139, 140, 141, 142] (by decide +kernel) (by decide +kernel)
set_option maxRecDepth 20000 in
theorem gX1_readTrust_X2_addTrust : GoodIn wsX1_readTrust (wsV RX1 161 RX2 yX2_addTrust wsX2_addTrust) := goodIn_app (goodIn_of _ (by decide +kernel)) ggX1_readTrust_X2_addTrust
theorem dX1_readTrust_0 : decode cX1_readTrust 0 = .ok (.aload_n 0, 1) := by decide +kernel
theorem dX1_readTrust_1 : decode cX1_readTrust 1 = .ok (.invokevirtual 36, 3) := by decide +kernel
theorem dX1_readTrust_4 : decode cX1_readTrust 4 = .ok (.pop, 1) := by decide +kernel
theorem dX1_readTrust_5 : decode cX1_readTrust 5 = .ok (.aload_n 0, 1) := by decide +kernel
theorem dX1_readTrust_6 : decode cX1_readTrust 6 = .ok (.aload_n 0, 1) := by decide +kernel
theorem dX1_readTrust_7 : decode cX1_readTrust 7 = .ok (.getfield 12, 3) := by decide +kernel
theorem dX1_readTrust_10 : decode cX1_readTrust 10 = .ok (.getfield 127, 3) := by decide +kernel
theorem dX1_readTrust_13 : decode cX1_readTrust 13 = .ok (.iconst 0, 1) := by decide +kernel
theorem dX1_readTrust_14 : decode cX1_readTrust 14 = .ok (.invokevirtual 147, 3) := by decide +kernel
theorem dX1_readTrust_17 : decode cX1_readTrust 17 = .ok (.istore_n 1, 1) := by decide +kernel
theorem dX1_readTrust_18 : decode cX1_readTrust 18 = .ok (.aload_n 0, 1) := by decide +kernel
theorem dX1_readTrust_19 : decode cX1_readTrust 19 = .ok (.getfield 12, 3) := by decide +kernel
theorem dX1_readTrust_22 : decode cX1_readTrust 22 = .ok (.getfield 127, 3) := by decide +kernel
theorem dX1_readTrust_25 : decode cX1_readTrust 25 = .ok (.iconst 0, 1) := by decide +kernel
theorem dX1_readTrust_26 : decode cX1_readTrust 26 = .ok (.aload_n 0, 1) := by decide +kernel
theorem dX1_readTrust_27 : decode cX1_readTrust 27 = .ok (.getfield 151, 3) := by decide +kernel
theorem dX1_readTrust_30 : decode cX1_readTrust 30 = .ok (.invokevirtual 154, 3) := by decide +kernel
theorem dX1_readTrust_33 : decode cX1_readTrust 33 = .ok (.istore_n 2, 1) := by decide +kernel
theorem dX1_readTrust_34 : decode cX1_readTrust 34 = .ok (.aload_n 0, 1) := by decide +kernel
theorem dX1_readTrust_35 : decode cX1_readTrust 35 = .ok (.aload_n 0, 1) := by decide +kernel
theorem dX1_readTrust_36 : decode cX1_readTrust 36 = .ok (.getfield 43, 3) := by decide +kernel
theorem dX1_readTrust_39 : decode cX1_readTrust 39 = .ok (.iconst 1, 1) := by decide +kernel
theorem dX1_readTrust_40 : decode cX1_readTrust 40 = .ok (.if_icmp .ne 7, 3) := by decide +kernel
theorem dX1_readTrust_43 : decode cX1_readTrust 43 = .ok (.iconst 1, 1) := by decide +kernel
theorem dX1_readTrust_44 : decode cX1_readTrust 44 = .ok (.goto 4, 3) := by decide +kernel
theorem dX1_readTrust_47 : decode cX1_readTrust 47 = .ok (.iconst 0, 1) := by decide +kernel
theorem dX1_readTrust_48 : decode cX1_readTrust 48 = .ok (.iconst 1, 1) := by decide +kernel
theorem dX1_readTrust_49 : decode cX1_readTrust 49 = .ok (.invokevirtual 113, 3) := by decide +kernel
theorem dX1_readTrust_52 : decode cX1_readTrust 52 = .ok (.aload_n 0, 1) := by decide +kernel
theorem dX1_readTrust_53 : decode cX1_readTrust 53 = .ok (.iload_n 2, 1) := by decide +kernel
theorem dX1_readTrust_54 : decode cX1_readTrust 54 = .ok (.iload_n 1, 1) := by decide +kernel
theorem dX1_readTrust_55 : decode cX1_readTrust 55 = .ok (.if_icmp .eq 7, 3) := by decide +kernel
theorem dX1_readTrust_58 : decode cX1_readTrust 58 = .ok (.iconst 1, 1) := by decide +kernel
theorem dX1_readTrust_59 : decode cX1_readTrust 59 = .ok (.goto 4, 3) := by decide +kernel
theorem dX1_readTrust_62 : decode cX1_readTrust 62 = .ok (.iconst 0, 1) := by decide +kernel
theorem dX1_readTrust_63 : decode cX1_readTrust 63 = .ok (.iconst 3, 1) := by decide +kernel
theorem dX1_readTrust_64 : decode cX1_readTrust 64 = .ok (.invokevirtual 113, 3) := by decide +kernel
theorem dX1_readTrust_67 : decode cX1_readTrust 67 = .ok (.aload_n 0, 1) := by decide +kernel
theorem dX1_readTrust_68 : decode cX1_readTrust 68 = .ok (.iload_n 2, 1) := by decide +kernel
theorem dX1_readTrust_69 : decode cX1_readTrust 69 = .ok (.iconst (-1), 1) := by decide +kernel
theorem dX1_readTrust_70 : decode cX1_readTrust 70 = .ok (.if_icmp .eq 7, 3) := by decide +kernel
theorem dX1_readTrust_73 : decode cX1_readTrust 73 = .ok (.iconst 1, 1) := by decide +kernel
theorem dX1_readTrust_74 : decode cX1_readTrust 74 = .ok (.goto 4, 3) := by decide +kernel
theorem dX1_readTrust_77 : decode cX1_readTrust 77 = .ok (.iconst 0, 1) := by decide +kernel
theorem dX1_readTrust_78 : decode cX1_readTrust 78 = .ok (.iconst 4, 1) := by decide +kernel
theorem dX1_readTrust_79 : decode cX1_readTrust 79 = .ok (.invokevirtual 113, 3) := by decide +kernel
theorem dX1_readTrust_82 : decode cX1_readTrust 82 = .ok (.aload_n 0, 1) := by decide +kernel
theorem dX1_readTrust_83 : decode cX1_readTrust 83 = .ok (.invokevirtual 36, 3) := by decide +kernel
theorem dX1_readTrust_86 : decode cX1_readTrust 86 = .ok (.pop, 1) := by decide +kernel
theorem dX1_readTrust_87 : decode cX1_readTrust 87 = .ok (.aload_n 0, 1) := by decide +kernel
theorem dX1_readTrust_88 : decode cX1_readTrust 88 = .ok (.aload_n 0, 1) := by decide +kernel
theorem dX1_readTrust_89 : decode cX1_readTrust 89 = .ok (.getfield 12, 3) := by decide +kernel
theorem dX1_readTrust_92 : decode cX1_readTrust 92 = .ok (.getfield 127, 3) := by decide +kernel
theorem dX1_readTrust_95 : decode cX1_readTrust 95 = .ok (.iload_n 1, 1) := by decide +kernel
theorem dX1_readTrust_96 : decode cX1_readTrust 96 = .ok (.iload_n 2, 1) := by decide +kernel
theorem dX1_readTrust_97 : decode cX1_readTrust 97 = .ok (.invokevirtual 157, 3) := by decide +kernel
theorem dX1_readTrust_100 : decode cX1_readTrust 100 = .ok (.ifCond .ne 7, 3) := by decide +kernel
theorem dX1_readTrust_103 : decode cX1_readTrust 103 = .ok (.iconst 1, 1) := by decide +kernel
theorem dX1_readTrust_104 : decode cX1_readTrust 104 = .ok (.goto 4, 3) := by decide +kernel
theorem dX1_readTrust_107 : decode cX1_readTrust 107 = .ok (.iconst 0, 1) := by decide +kernel
theorem dX1_readTrust_108 : decode cX1_readTrust 108 = .ok (.invokevirtual 123, 3) := by decide +kernel
theorem dX1_readTrust_111 : decode cX1_readTrust 111 = .ok (.ifCond .eq 15, 3) := by decide +kernel
theorem dX1_readTrust_114 : decode cX1_readTrust 114 = .ok (.aload_n 0, 1) := by decide +kernel
theorem dX1_readTrust_115 : decode cX1_readTrust 115 = .ok (.getfield 12, 3) := by decide +kernel
theorem dX1_readTrust_118 : decode cX1_readTrust 118 = .ok (.getfield 127, 3) := by decide +kernel
theorem dX1_readTrust_121 : decode cX1_readTrust 121 = .ok (.iload_n 1, 1) := by decide +kernel
theorem dX1_readTrust_122 : decode cX1_readTrust 122 = .ok (.iload_n 2, 1) := by decide +kernel
theorem dX1_readTrust_123 : decode cX1_readTrust 123 = .ok (.invokevirtual 161, 3) := by decide +kernel
theorem dX1_readTrust_126 : decode cX1_readTrust 126 = .ok (.return_, 1) := by decide +kernel
set_option maxRecDepth 20000 in
theorem ggX1_readUser_X6_isFull : GoodIn wsX1_readUser wsX6_isFull := goodIn_r _ [7, 8, 9, 204, 205, 206, 207, 208, 209, 210, 211, 212, 213, 214, 215, 216, 217, 218, 219, 220, 221, 222, 223, 224, 225, 226, 227] (by decide +kernel) (by decide +kernel)
set_option maxRecDepth 20000 in
theorem gX1_readUser_X6_isFull_u168X8 : GoodIn wsX1_readUser (va_wsU RX1 168 RX8 "TicketGate$Table" ⟨"TicketGate$Users", "isFull", "()Z"⟩ yX6_isFull wsX6_isFull) := goodIn_app (goodIn_of _ (by decide +kernel)) ggX1_readUser_X6_isFull
set_option maxRecDepth 20000 in
theorem ggX1_readUser_X1_require : GoodIn wsX1_readUser wsX1_require := goodIn_r _ [14, 15, 16, 17, 186, 187, 188, 189, 190, 191, 192, 193] (by decide +kernel) (by decide +kernel)
set_option maxRecDepth 20000 in
theorem gX1_readUser_X1_require : GoodIn wsX1_readUser (wsV RX1 113 RX1 yX1_require wsX1_require) := goodIn_app (goodIn_of _ (by decide +kernel)) ggX1_readUser_X1_require
set_option maxRecDepth 20000 in
theorem ggX1_readUser_X1_take : GoodIn wsX1_readUser wsX1_take := goodIn_r _ [21, 22, 15, 23, 24, 16, 25, 26, 27, 28, 29, 30, 31, 32, 33, 34, 35, 36, 37, 38, 39, 40, 41, 42, 43, 44, 45, 46, 47, 48, 49, 50, 51, 52, 53, 54, 186, 187, 188, 189, 190, 191, 192, 193, 228, 229] (by decide +kernel) (by decide +kernel)
set_option maxRecDepth 20000 in
theorem gX1_readUser_X1_take : GoodIn wsX1_readUser (wsV RX1 36 RX1 yX1_take wsX1_take) := goodIn_app (goodIn_of _ (by decide +kernel)) ggX1_readUser_X1_take
set_option maxRecDepth 20000 in
theorem ggX1_readUser_X1_newName : GoodIn wsX1_readUser wsX1_newName := goodIn_r _ [58, 25, 22, 1, 10, 11, 12, 13, 14, 15, 16, 17, 59, 60, 61, 62, 63, 64, 65, 66, 67, 68, 69, 70, 6, 71, 8, 72, 73, 74, 75, 76, 77, 78, 79, 80, 81, 82, 83, 84, 85, 86, 87, 88, 89, 18, 19, 20, 21, 23, 24, 26, 27, 28, 29, 30, 31, 32, 33, 34, 35, 36, 37, 38, 39, 40, 41, 42, 43, 44, 45, 46, 47, 48, 49, 50, 51, 52, 53, 54, 186, 187, 188, 189, 190, 191, 192, 193, 194, 195, 196, 197, 198, 199, 200, 201, 202, 203, 204, 205, 206, 207, 208, 209, 210, 211, 212, 213, 214, 215, 216, 217, 218, 219, 220, 221, 222, 223, 224, 225, 226, 227, 228, 229] (by decide +kernel) (by decide +kernel)
set_option maxRecDepth 20000 in
theorem gX1_readUser_X1_newName : GoodIn wsX1_readUser (wsV RX1 137 RX1 yX1_newName wsX1_newName) := goodIn_app (goodIn_of _ (by decide +kernel)) ggX1_readUser_X1_newName
set_option maxRecDepth 20000 in
theorem ggX1_readUser_X1_knownName : GoodIn wsX1_readUser wsX1_knownName := goodIn_r _ [93, 22, 25, 94, 95, 96, 70, 6, 71, 8, 72, 73, 74, 75, 76, 77, 78, 79, 80, 81, 82, 83, 97, 98, 99, 100, 101, 10, 11, 12, 13, 14, 15, 16, 17, 18, 19, 20, 21, 23, 24, 26, 27, 28, 29, 30, 31, 32, 33, 34, 35, 36, 37, 38, 39, 40, 41, 42, 43, 44, 45, 46, 47, 48, 49, 50, 51, 52, 53, 54, 186, 187, 188, 189, 190, 191, 192, 193, 204, 205, 206, 207, 208, 209, 210, 211, 212, 213, 214, 215, 216, 217, 218, 219, 220, 221, 222, 223, 224, 225, 226, 227, 228, 229] (by decide +kernel) (by decide +kernel)
set_option maxRecDepth 20000 in
theorem gX1_readUser_X1_knownName : GoodIn wsX1_readUser (wsV RX1 147 RX1 yX1_knownName wsX1_knownName) := goodIn_app (goodIn_of _ (by decide +kernel)) ggX1_readUser_X1_knownName
set_option maxRecDepth 20000 in
theorem ggX1_readUser_X1_number : GoodIn wsX1_readUser wsX1_number := goodIn_r _ [105, 25, 22, 10, 11, 12, 13, 14, 15, 16, 17, 18, 19, 20, 21, 23, 24, 26, 27, 28, 29, 30, 31, 32, 33, 34, 35, 36, 37, 38, 39, 40, 41, 42, 43, 44, 45, 46, 47, 48, 49, 50, 51, 52, 53, 54, 186, 187, 188, 189, 190, 191, 192, 193, 228, 229] (by decide +kernel) (by decide +kernel)
set_option maxRecDepth 20000 in
theorem gX1_readUser_X1_number : GoodIn wsX1_readUser (wsV RX1 119 RX1 yX1_number wsX1_number) := goodIn_app (goodIn_of _ (by decide +kernel)) ggX1_readUser_X1_number
set_option maxRecDepth 20000 in
theorem ggX1_readUser_X1_clockWord : GoodIn wsX1_readUser wsX1_clockWord := goodIn_r _ [109, 110, 111, 112, 13, 113, 25, 23, 16, 24, 114, 115, 116, 29, 117, 118, 119, 120, 121, 122, 123, 124, 125, 126, 127, 128, 129, 32, 33, 34, 35, 31, 36, 130, 131, 132, 133, 134, 135, 136, 137, 138, 139, 140, 141, 142, 143, 144, 145, 146, 147, 148, 149, 150, 151, 152, 153, 154, 155, 156, 157, 158, 159, 160, 161, 162, 163, 164, 165, 166, 10, 11, 12, 14, 15, 17, 18, 19, 20, 21, 22, 26, 27, 28, 30, 37, 38, 39, 40, 41, 42, 43, 44, 45, 46, 47, 48, 49, 50, 51, 52, 53, 54, 186, 187, 188, 189, 190, 191, 192, 193, 228, 229] (by decide +kernel) (by decide +kernel)
set_option maxRecDepth 20000 in
theorem gX1_readUser_X1_clockWord : GoodIn wsX1_readUser (wsV RX1 140 RX1 yX1_clockWord wsX1_clockWord) := goodIn_app (goodIn_of _ (by decide +kernel)) ggX1_readUser_X1_clockWord
set_option maxRecDepth 20000 in
theorem ggX1_readUser_X1_semicolon : GoodIn wsX1_readUser wsX1_semicolon := goodIn_r _ [170, 25, 22, 15, 10, 11, 12, 13, 14, 16, 17, 18, 19, 20, 21, 23, 24, 26, 27, 28, 29, 30, 31, 32, 33, 34, 35, 36, 37, 38, 39, 40, 41, 42, 43, 44, 45, 46, 47, 48, 49, 50, 51, 52, 53, 54, 186, 187, 188, 189, 190, 191, 192, 193, 228, 229] (by decide +kernel) (by decide +kernel)
set_option maxRecDepth 20000 in
theorem gX1_readUser_X1_semicolon : GoodIn wsX1_readUser (wsV RX1 123 RX1 yX1_semicolon wsX1_semicolon) := goodIn_app (goodIn_of _ (by decide +kernel)) ggX1_readUser_X1_semicolon
set_option maxRecDepth 20000 in
theorem ggX1_readUser_X8_addUser : GoodIn wsX1_readUser wsX8_addUser := goodIn_r _ [175, 176, 177, 178, 179, 6, 180, 8, 9, 181, 182, 183, 184, 185, 77, 78, 204, 205, 206, 207, 208, 209, 210, 211, 212, 213, 214, 215, 216, 217, 218, 219, 220, 221, 222, 223, 224, 225, 226, 227] (by decide +kernel) (by decide +kernel)
set_option maxRecDepth 20000 in
theorem gX1_readUser_X8_addUser : GoodIn wsX1_readUser (wsV RX1 171 RX8 yX8_addUser wsX8_addUser) := goodIn_app (goodIn_of _ (by decide +kernel)) ggX1_readUser_X8_addUser
theorem dX1_readUser_0 : decode cX1_readUser 0 = .ok (.aload_n 0, 1) := by decide +kernel
theorem dX1_readUser_1 : decode cX1_readUser 1 = .ok (.aload_n 0, 1) := by decide +kernel
theorem dX1_readUser_2 : decode cX1_readUser 2 = .ok (.getfield 12, 3) := by decide +kernel
theorem dX1_readUser_5 : decode cX1_readUser 5 = .ok (.getfield 164, 3) := by decide +kernel
theorem dX1_readUser_8 : decode cX1_readUser 8 = .ok (.invokevirtual 168, 3) := by decide +kernel
theorem dX1_readUser_11 : decode cX1_readUser 11 = .ok (.ifCond .ne 7, 3) := by decide +kernel
theorem dX1_readUser_14 : decode cX1_readUser 14 = .ok (.iconst 1, 1) := by decide +kernel
theorem dX1_readUser_15 : decode cX1_readUser 15 = .ok (.goto 4, 3) := by decide +kernel
theorem dX1_readUser_18 : decode cX1_readUser 18 = .ok (.iconst 0, 1) := by decide +kernel
theorem dX1_readUser_19 : decode cX1_readUser 19 = .ok (.iconst 5, 1) := by decide +kernel
theorem dX1_readUser_20 : decode cX1_readUser 20 = .ok (.invokevirtual 113, 3) := by decide +kernel
theorem dX1_readUser_23 : decode cX1_readUser 23 = .ok (.aload_n 0, 1) := by decide +kernel
theorem dX1_readUser_24 : decode cX1_readUser 24 = .ok (.invokevirtual 36, 3) := by decide +kernel
theorem dX1_readUser_27 : decode cX1_readUser 27 = .ok (.pop, 1) := by decide +kernel
theorem dX1_readUser_28 : decode cX1_readUser 28 = .ok (.aload_n 0, 1) := by decide +kernel
theorem dX1_readUser_29 : decode cX1_readUser 29 = .ok (.invokevirtual 137, 3) := by decide +kernel
theorem dX1_readUser_32 : decode cX1_readUser 32 = .ok (.istore_n 1, 1) := by decide +kernel
theorem dX1_readUser_33 : decode cX1_readUser 33 = .ok (.aload_n 0, 1) := by decide +kernel
theorem dX1_readUser_34 : decode cX1_readUser 34 = .ok (.aload_n 0, 1) := by decide +kernel
theorem dX1_readUser_35 : decode cX1_readUser 35 = .ok (.getfield 12, 3) := by decide +kernel
theorem dX1_readUser_38 : decode cX1_readUser 38 = .ok (.getfield 127, 3) := by decide +kernel
theorem dX1_readUser_41 : decode cX1_readUser 41 = .ok (.iconst 0, 1) := by decide +kernel
theorem dX1_readUser_42 : decode cX1_readUser 42 = .ok (.invokevirtual 147, 3) := by decide +kernel
theorem dX1_readUser_45 : decode cX1_readUser 45 = .ok (.istore_n 2, 1) := by decide +kernel
theorem dX1_readUser_46 : decode cX1_readUser 46 = .ok (.aload_n 0, 1) := by decide +kernel
theorem dX1_readUser_47 : decode cX1_readUser 47 = .ok (.iconst 0, 1) := by decide +kernel
theorem dX1_readUser_48 : decode cX1_readUser 48 = .ok (.sipush 9999, 3) := by decide +kernel
theorem dX1_readUser_51 : decode cX1_readUser 51 = .ok (.invokevirtual 119, 3) := by decide +kernel
theorem dX1_readUser_54 : decode cX1_readUser 54 = .ok (.istore_n 3, 1) := by decide +kernel
theorem dX1_readUser_55 : decode cX1_readUser 55 = .ok (.aload_n 0, 1) := by decide +kernel
theorem dX1_readUser_56 : decode cX1_readUser 56 = .ok (.invokevirtual 140, 3) := by decide +kernel
theorem dX1_readUser_59 : decode cX1_readUser 59 = .ok (.istore 4, 2) := by decide +kernel
theorem dX1_readUser_61 : decode cX1_readUser 61 = .ok (.iload 4, 2) := by decide +kernel
theorem dX1_readUser_63 : decode cX1_readUser 63 = .ok (.ifCond .ne 7, 3) := by decide +kernel
theorem dX1_readUser_66 : decode cX1_readUser 66 = .ok (.iconst 0, 1) := by decide +kernel
theorem dX1_readUser_67 : decode cX1_readUser 67 = .ok (.goto 13, 3) := by decide +kernel
theorem dX1_readUser_70 : decode cX1_readUser 70 = .ok (.iload 4, 2) := by decide +kernel
theorem dX1_readUser_72 : decode cX1_readUser 72 = .ok (.aload_n 0, 1) := by decide +kernel
theorem dX1_readUser_73 : decode cX1_readUser 73 = .ok (.iconst 1, 1) := by decide +kernel
theorem dX1_readUser_74 : decode cX1_readUser 74 = .ok (.bipush 9, 2) := by decide +kernel
theorem dX1_readUser_76 : decode cX1_readUser 76 = .ok (.invokevirtual 119, 3) := by decide +kernel
theorem dX1_readUser_79 : decode cX1_readUser 79 = .ok (.imul, 1) := by decide +kernel
theorem dX1_readUser_80 : decode cX1_readUser 80 = .ok (.istore 5, 2) := by decide +kernel
theorem dX1_readUser_82 : decode cX1_readUser 82 = .ok (.aload_n 0, 1) := by decide +kernel
theorem dX1_readUser_83 : decode cX1_readUser 83 = .ok (.iconst 1, 1) := by decide +kernel
theorem dX1_readUser_84 : decode cX1_readUser 84 = .ok (.invokevirtual 123, 3) := by decide +kernel
theorem dX1_readUser_87 : decode cX1_readUser 87 = .ok (.ifCond .eq 18, 3) := by decide +kernel
theorem dX1_readUser_90 : decode cX1_readUser 90 = .ok (.aload_n 0, 1) := by decide +kernel
theorem dX1_readUser_91 : decode cX1_readUser 91 = .ok (.getfield 12, 3) := by decide +kernel
theorem dX1_readUser_94 : decode cX1_readUser 94 = .ok (.getfield 164, 3) := by decide +kernel
theorem dX1_readUser_97 : decode cX1_readUser 97 = .ok (.iload_n 1, 1) := by decide +kernel
theorem dX1_readUser_98 : decode cX1_readUser 98 = .ok (.iload_n 2, 1) := by decide +kernel
theorem dX1_readUser_99 : decode cX1_readUser 99 = .ok (.iload_n 3, 1) := by decide +kernel
theorem dX1_readUser_100 : decode cX1_readUser 100 = .ok (.iload 5, 2) := by decide +kernel
theorem dX1_readUser_102 : decode cX1_readUser 102 = .ok (.invokevirtual 171, 3) := by decide +kernel
theorem dX1_readUser_105 : decode cX1_readUser 105 = .ok (.return_, 1) := by decide +kernel
set_option maxRecDepth 20000 in
theorem ggX1_readService_X6_isFull : GoodIn wsX1_readService wsX6_isFull := goodIn_r _ [7, 8, 9, 143, 144, 145, 146, 147, 148, 149, 150, 151, 152, 153, 154, 155, 156, 157, 158, 159, 160, 161, 162, 163, 164, 165, 166] (by decide +kernel) (by decide +kernel)
set_option maxRecDepth 20000 in
theorem gX1_readService_X6_isFull_u178X3 : GoodIn wsX1_readService (va_wsU RX1 178 RX3 "TicketGate$Table" ⟨"TicketGate$Services", "isFull", "()Z"⟩ yX6_isFull wsX6_isFull) := goodIn_app (goodIn_of _ (by decide +kernel)) ggX1_readService_X6_isFull
set_option maxRecDepth 20000 in
theorem ggX1_readService_X1_require : GoodIn wsX1_readService wsX1_require := goodIn_r _ [14, 15, 16, 17, 125, 126, 127, 128, 129, 130, 131, 132] (by decide +kernel) (by decide +kernel)
set_option maxRecDepth 20000 in
theorem gX1_readService_X1_require : GoodIn wsX1_readService (wsV RX1 113 RX1 yX1_require wsX1_require) := goodIn_app (goodIn_of _ (by decide +kernel)) ggX1_readService_X1_require
set_option maxRecDepth 20000 in
theorem ggX1_readService_X1_take : GoodIn wsX1_readService wsX1_take := goodIn_r _ [21, 22, 15, 23, 24, 16, 25, 26, 27, 28, 29, 30, 31, 32, 33, 34, 35, 36, 37, 38, 39, 40, 41, 42, 43, 44, 45, 46, 47, 48, 49, 50, 51, 52, 53, 54, 125, 126, 127, 128, 129, 130, 131, 132, 167, 168] (by decide +kernel) (by decide +kernel)
set_option maxRecDepth 20000 in
theorem gX1_readService_X1_take : GoodIn wsX1_readService (wsV RX1 36 RX1 yX1_take wsX1_take) := goodIn_app (goodIn_of _ (by decide +kernel)) ggX1_readService_X1_take
set_option maxRecDepth 20000 in
theorem ggX1_readService_X1_newName : GoodIn wsX1_readService wsX1_newName := goodIn_r _ [58, 25, 22, 1, 10, 11, 12, 13, 14, 15, 16, 17, 59, 60, 61, 62, 63, 64, 65, 66, 67, 68, 69, 70, 6, 71, 8, 72, 73, 74, 75, 76, 77, 78, 79, 80, 81, 82, 83, 84, 85, 86, 87, 88, 89, 18, 19, 20, 21, 23, 24, 26, 27, 28, 29, 30, 31, 32, 33, 34, 35, 36, 37, 38, 39, 40, 41, 42, 43, 44, 45, 46, 47, 48, 49, 50, 51, 52, 53, 54, 125, 126, 127, 128, 129, 130, 131, 132, 133, 134, 135, 136, 137, 138, 139, 140, 141, 142, 143, 144, 145, 146, 147, 148, 149, 150, 151, 152, 153, 154, 155, 156, 157, 158, 159, 160, 161, 162, 163, 164, 165, 166, 167, 168] (by decide +kernel) (by decide +kernel)
set_option maxRecDepth 20000 in
theorem gX1_readService_X1_newName : GoodIn wsX1_readService (wsV RX1 137 RX1 yX1_newName wsX1_newName) := goodIn_app (goodIn_of _ (by decide +kernel)) ggX1_readService_X1_newName
set_option maxRecDepth 20000 in
theorem ggX1_readService_X1_knownName : GoodIn wsX1_readService wsX1_knownName := goodIn_r _ [93, 22, 25, 94, 95, 96, 70, 6, 71, 8, 72, 73, 74, 75, 76, 77, 78, 79, 80, 81, 82, 83, 97, 98, 99, 100, 101, 10, 11, 12, 13, 14, 15, 16, 17, 18, 19, 20, 21, 23, 24, 26, 27, 28, 29, 30, 31, 32, 33, 34, 35, 36, 37, 38, 39, 40, 41, 42, 43, 44, 45, 46, 47, 48, 49, 50, 51, 52, 53, 54, 125, 126, 127, 128, 129, 130, 131, 132, 143, 144, 145, 146, 147, 148, 149, 150, 151, 152, 153, 154, 155, 156, 157, 158, 159, 160, 161, 162, 163, 164, 165, 166, 167, 168] (by decide +kernel) (by decide +kernel)
set_option maxRecDepth 20000 in
theorem gX1_readService_X1_knownName : GoodIn wsX1_readService (wsV RX1 147 RX1 yX1_knownName wsX1_knownName) := goodIn_app (goodIn_of _ (by decide +kernel)) ggX1_readService_X1_knownName
set_option maxRecDepth 20000 in
theorem ggX1_readService_X1_number : GoodIn wsX1_readService wsX1_number := goodIn_r _ [105, 25, 22, 10, 11, 12, 13, 14, 15, 16, 17, 18, 19, 20, 21, 23, 24, 26, 27, 28, 29, 30, 31, 32, 33, 34, 35, 36, 37, 38, 39, 40, 41, 42, 43, 44, 45, 46, 47, 48, 49, 50, 51, 52, 53, 54, 125, 126, 127, 128, 129, 130, 131, 132, 167, 168] (by decide +kernel) (by decide +kernel)
set_option maxRecDepth 20000 in
theorem gX1_readService_X1_number : GoodIn wsX1_readService (wsV RX1 119 RX1 yX1_number wsX1_number) := goodIn_app (goodIn_of _ (by decide +kernel)) ggX1_readService_X1_number
set_option maxRecDepth 20000 in
theorem ggX1_readService_X1_semicolon : GoodIn wsX1_readService wsX1_semicolon := goodIn_r _ [109, 25, 22, 15, 10, 11, 12, 13, 14, 16, 17, 18, 19, 20, 21, 23, 24, 26, 27, 28, 29, 30, 31, 32, 33, 34, 35, 36, 37, 38, 39, 40, 41, 42, 43, 44, 45, 46, 47, 48, 49, 50, 51, 52, 53, 54, 125, 126, 127, 128, 129, 130, 131, 132, 167, 168] (by decide +kernel) (by decide +kernel)
set_option maxRecDepth 20000 in
theorem gX1_readService_X1_semicolon : GoodIn wsX1_readService (wsV RX1 123 RX1 yX1_semicolon wsX1_semicolon) := goodIn_app (goodIn_of _ (by decide +kernel)) ggX1_readService_X1_semicolon
set_option maxRecDepth 20000 in
theorem ggX1_readService_X3_addService : GoodIn wsX1_readService wsX3_addService := goodIn_r _ [114, 115, 116, 117, 118, 6, 119, 8, 9, 120, 121, 122, 123, 124, 77, 78, 143, 144, 145, 146, 147, 148, 149, 150, 151, 152, 153, 154, 155, 156, 157, 158, 159, 160, 161, 162, 163, 164, 165, 166] (by decide +kernel) (by decide +kernel)
set_option maxRecDepth 20000 in
theorem gX1_readService_X3_addService : GoodIn wsX1_readService (wsV RX1 181 RX3 yX3_addService wsX3_addService) := goodIn_app (goodIn_of _ (by decide +kernel)) ggX1_readService_X3_addService
theorem dX1_readService_0 : decode cX1_readService 0 = .ok (.aload_n 0, 1) := by decide +kernel
theorem dX1_readService_1 : decode cX1_readService 1 = .ok (.aload_n 0, 1) := by decide +kernel
theorem dX1_readService_2 : decode cX1_readService 2 = .ok (.getfield 12, 3) := by decide +kernel
theorem dX1_readService_5 : decode cX1_readService 5 = .ok (.getfield 174, 3) := by decide +kernel
theorem dX1_readService_8 : decode cX1_readService 8 = .ok (.invokevirtual 178, 3) := by decide +kernel
theorem dX1_readService_11 : decode cX1_readService 11 = .ok (.ifCond .ne 7, 3) := by decide +kernel
theorem dX1_readService_14 : decode cX1_readService 14 = .ok (.iconst 1, 1) := by decide +kernel
theorem dX1_readService_15 : decode cX1_readService 15 = .ok (.goto 4, 3) := by decide +kernel
theorem dX1_readService_18 : decode cX1_readService 18 = .ok (.iconst 0, 1) := by decide +kernel
theorem dX1_readService_19 : decode cX1_readService 19 = .ok (.iconst 5, 1) := by decide +kernel
theorem dX1_readService_20 : decode cX1_readService 20 = .ok (.invokevirtual 113, 3) := by decide +kernel
theorem dX1_readService_23 : decode cX1_readService 23 = .ok (.aload_n 0, 1) := by decide +kernel
theorem dX1_readService_24 : decode cX1_readService 24 = .ok (.invokevirtual 36, 3) := by decide +kernel
theorem dX1_readService_27 : decode cX1_readService 27 = .ok (.pop, 1) := by decide +kernel
theorem dX1_readService_28 : decode cX1_readService 28 = .ok (.aload_n 0, 1) := by decide +kernel
theorem dX1_readService_29 : decode cX1_readService 29 = .ok (.invokevirtual 137, 3) := by decide +kernel
theorem dX1_readService_32 : decode cX1_readService 32 = .ok (.istore_n 1, 1) := by decide +kernel
theorem dX1_readService_33 : decode cX1_readService 33 = .ok (.aload_n 0, 1) := by decide +kernel
theorem dX1_readService_34 : decode cX1_readService 34 = .ok (.aload_n 0, 1) := by decide +kernel
theorem dX1_readService_35 : decode cX1_readService 35 = .ok (.getfield 12, 3) := by decide +kernel
theorem dX1_readService_38 : decode cX1_readService 38 = .ok (.getfield 127, 3) := by decide +kernel
theorem dX1_readService_41 : decode cX1_readService 41 = .ok (.iconst 0, 1) := by decide +kernel
theorem dX1_readService_42 : decode cX1_readService 42 = .ok (.invokevirtual 147, 3) := by decide +kernel
theorem dX1_readService_45 : decode cX1_readService 45 = .ok (.istore_n 2, 1) := by decide +kernel
theorem dX1_readService_46 : decode cX1_readService 46 = .ok (.aload_n 0, 1) := by decide +kernel
theorem dX1_readService_47 : decode cX1_readService 47 = .ok (.iconst 0, 1) := by decide +kernel
theorem dX1_readService_48 : decode cX1_readService 48 = .ok (.bipush 99, 2) := by decide +kernel
theorem dX1_readService_50 : decode cX1_readService 50 = .ok (.invokevirtual 119, 3) := by decide +kernel
theorem dX1_readService_53 : decode cX1_readService 53 = .ok (.istore_n 3, 1) := by decide +kernel
theorem dX1_readService_54 : decode cX1_readService 54 = .ok (.aload_n 0, 1) := by decide +kernel
theorem dX1_readService_55 : decode cX1_readService 55 = .ok (.iconst 1, 1) := by decide +kernel
theorem dX1_readService_56 : decode cX1_readService 56 = .ok (.invokevirtual 123, 3) := by decide +kernel
theorem dX1_readService_59 : decode cX1_readService 59 = .ok (.ifCond .eq 29, 3) := by decide +kernel
theorem dX1_readService_62 : decode cX1_readService 62 = .ok (.aload_n 0, 1) := by decide +kernel
theorem dX1_readService_63 : decode cX1_readService 63 = .ok (.getfield 12, 3) := by decide +kernel
theorem dX1_readService_66 : decode cX1_readService 66 = .ok (.getfield 174, 3) := by decide +kernel
theorem dX1_readService_69 : decode cX1_readService 69 = .ok (.iload_n 1, 1) := by decide +kernel
theorem dX1_readService_70 : decode cX1_readService 70 = .ok (.iload_n 2, 1) := by decide +kernel
theorem dX1_readService_71 : decode cX1_readService 71 = .ok (.iload_n 3, 1) := by decide +kernel
theorem dX1_readService_72 : decode cX1_readService 72 = .ok (.invokevirtual 181, 3) := by decide +kernel
theorem dX1_readService_75 : decode cX1_readService 75 = .ok (.aload_n 0, 1) := by decide +kernel
theorem dX1_readService_76 : decode cX1_readService 76 = .ok (.getfield 12, 3) := by decide +kernel
theorem dX1_readService_79 : decode cX1_readService 79 = .ok (.dup, 1) := by decide +kernel
theorem dX1_readService_80 : decode cX1_readService 80 = .ok (.getfield 185, 3) := by decide +kernel
theorem dX1_readService_83 : decode cX1_readService 83 = .ok (.iload_n 3, 1) := by decide +kernel
theorem dX1_readService_84 : decode cX1_readService 84 = .ok (.iadd, 1) := by decide +kernel
theorem dX1_readService_85 : decode cX1_readService 85 = .ok (.putfield 185, 3) := by decide +kernel
theorem dX1_readService_88 : decode cX1_readService 88 = .ok (.return_, 1) := by decide +kernel
set_option maxRecDepth 20000 in
theorem ggX1_readLogin_X1_take : GoodIn wsX1_readLogin wsX1_take := goodIn_r _ [6, 7, 8, 9, 10, 11, 12, 13, 14, 15, 16, 17, 18, 19, 20, 21, 22, 23, 24, 25, 26, 27, 28, 29, 30, 31, 32, 33, 34, 35, 36, 37, 38, 39, 40, 41, 205, 206, 207, 208, 209, 210, 211, 212, 223, 224] (by decide +kernel) (by decide +kernel)
set_option maxRecDepth 20000 in
theorem gX1_readLogin_X1_take : GoodIn wsX1_readLogin (wsV RX1 36 RX1 yX1_take wsX1_take) := goodIn_app (goodIn_of _ (by decide +kernel)) ggX1_readLogin_X1_take
set_option maxRecDepth 20000 in
theorem ggX1_readLogin_X1_knownName : GoodIn wsX1_readLogin wsX1_knownName := goodIn_r _ [45, 7, 12, 46, 47, 48, 49, 50, 51, 52, 53, 54, 55, 56, 57, 58, 59, 60, 61, 62, 63, 64, 65, 66, 67, 68, 69, 70, 71, 72, 5, 73, 8, 11, 74, 2, 3, 4, 6, 9, 10, 13, 14, 15, 16, 17, 18, 19, 20, 21, 22, 23, 24, 25, 26, 27, 28, 29, 30, 31, 32, 33, 34, 35, 36, 37, 38, 39, 40, 41, 205, 206, 207, 208, 209, 210, 211, 212, 225, 226, 227, 228, 229, 230, 231, 232, 233, 234, 235, 236, 237, 238, 239, 240, 241, 242, 243, 244, 245, 246, 247, 248, 223, 224] (by decide +kernel) (by decide +kernel)
set_option maxRecDepth 20000 in
theorem gX1_readLogin_X1_knownName : GoodIn wsX1_readLogin (wsV RX1 147 RX1 yX1_knownName wsX1_knownName) := goodIn_app (goodIn_of _ (by decide +kernel)) ggX1_readLogin_X1_knownName
set_option maxRecDepth 20000 in
theorem ggX1_readLogin_X1_number : GoodIn wsX1_readLogin wsX1_number := goodIn_r _ [78, 12, 7, 70, 71, 72, 5, 73, 8, 11, 74, 2, 3, 4, 6, 9, 10, 13, 14, 15, 16, 17, 18, 19, 20, 21, 22, 23, 24, 25, 26, 27, 28, 29, 30, 31, 32, 33, 34, 35, 36, 37, 38, 39, 40, 41, 205, 206, 207, 208, 209, 210, 211, 212, 223, 224] (by decide +kernel) (by decide +kernel)
set_option maxRecDepth 20000 in
theorem gX1_readLogin_X1_number : GoodIn wsX1_readLogin (wsV RX1 119 RX1 yX1_number wsX1_number) := goodIn_app (goodIn_of _ (by decide +kernel)) ggX1_readLogin_X1_number
set_option maxRecDepth 20000 in
theorem ggX1_readLogin_X1_isWord : GoodIn wsX1_readLogin wsX1_isWord := goodIn_r _ [82, 12, 9, 11, 10, 83, 84, 85, 16, 86, 87, 88, 89, 90, 91, 92, 93, 94, 95, 96, 97, 98, 19, 20, 21, 22, 18, 23, 99, 100, 101, 102, 103, 104, 105, 106, 107, 108, 109, 110, 111, 112, 113, 114, 115, 116, 117, 118, 119, 120, 121, 122, 123, 124, 125, 126, 127, 128, 129, 130, 131, 132, 133, 134, 135, 205, 206, 207, 208, 209, 210, 211, 212, 223, 224] (by decide +kernel) (by decide +kernel)
set_option maxRecDepth 20000 in
theorem gX1_readLogin_X1_isWord : GoodIn wsX1_readLogin (wsV RX1 51 RX1 yX1_isWord wsX1_isWord) := goodIn_app (goodIn_of _ (by decide +kernel)) ggX1_readLogin_X1_isWord
set_option maxRecDepth 20000 in
theorem ggX1_readLogin_X5_whyNoLogin : GoodIn wsX1_readLogin wsX5_whyNoLogin := goodIn_r _ [140, 141, 142, 143, 144, 145, 146, 56, 50, 57, 58, 52, 59, 147, 148, 149, 139, 150, 151, 152, 153, 40, 154, 155, 156, 157, 158, 159, 160, 161, 162, 163, 213, 214, 215, 216, 217, 218, 219, 220, 221, 222, 225, 226, 227, 228, 229, 230, 231, 232, 233, 234, 235, 236, 237, 238, 239, 240, 241, 242, 243, 244, 245, 246, 247, 248] (by decide +kernel) (by decide +kernel)
set_option maxRecDepth 20000 in
theorem gX1_readLogin_X5_whyNoLogin : GoodIn wsX1_readLogin (wsV RX1 190 RX5 yX5_whyNoLogin wsX5_whyNoLogin) := goodIn_app (goodIn_of _ (by decide +kernel)) ggX1_readLogin_X5_whyNoLogin
set_option maxRecDepth 20000 in
theorem ggX1_readLogin_X1_semicolon : GoodIn wsX1_readLogin wsX1_semicolon := goodIn_r _ [167, 12, 7, 8, 70, 71, 72, 5, 73, 11, 74, 2, 3, 4, 6, 9, 10, 13, 14, 15, 16, 17, 18, 19, 20, 21, 22, 23, 24, 25, 26, 27, 28, 29, 30, 31, 32, 33, 34, 35, 36, 37, 38, 39, 40, 41, 205, 206, 207, 208, 209, 210, 211, 212, 223, 224] (by decide +kernel) (by decide +kernel)
set_option maxRecDepth 20000 in
theorem gX1_readLogin_X1_semicolon : GoodIn wsX1_readLogin (wsV RX1 123 RX1 yX1_semicolon wsX1_semicolon) := goodIn_app (goodIn_of _ (by decide +kernel)) ggX1_readLogin_X1_semicolon
set_option maxRecDepth 20000 in
theorem ggX1_readLogin_X5_makeLogin : GoodIn wsX1_readLogin wsX5_makeLogin := goodIn_r _ [171, 141, 172, 143, 144, 145, 146, 56, 50, 57, 58, 52, 59, 173, 174, 175, 139, 176, 177, 178, 179, 180, 181, 182, 183, 163, 184, 185, 186, 187, 188, 189, 190, 191, 192, 193, 194, 195, 196, 197, 151, 198, 39, 40, 41, 199, 200, 201, 202, 203, 204, 155, 156, 157, 213, 214, 215, 216, 217, 218, 219, 220, 221, 222, 225, 226, 227, 228, 229, 230, 231, 232, 233, 234, 235, 236, 237, 238, 239, 240, 241, 242, 243, 244, 245, 246, 247, 248] (by decide +kernel) (by decide +kernel)
set_option maxRecDepth 20000 in
theorem gX1_readLogin_X5_makeLogin : GoodIn wsX1_readLogin (wsV RX1 193 RX5 yX5_makeLogin wsX5_makeLogin) := goodIn_app (goodIn_of _ (by decide +kernel)) ggX1_readLogin_X5_makeLogin
theorem dX1_readLogin_0 : decode cX1_readLogin 0 = .ok (.aload_n 0, 1) := by decide +kernel
theorem dX1_readLogin_1 : decode cX1_readLogin 1 = .ok (.invokevirtual 36, 3) := by decide +kernel
theorem dX1_readLogin_4 : decode cX1_readLogin 4 = .ok (.pop, 1) := by decide +kernel
theorem dX1_readLogin_5 : decode cX1_readLogin 5 = .ok (.aload_n 0, 1) := by decide +kernel
theorem dX1_readLogin_6 : decode cX1_readLogin 6 = .ok (.aload_n 0, 1) := by decide +kernel
theorem dX1_readLogin_7 : decode cX1_readLogin 7 = .ok (.getfield 12, 3) := by decide +kernel
theorem dX1_readLogin_10 : decode cX1_readLogin 10 = .ok (.getfield 164, 3) := by decide +kernel
theorem dX1_readLogin_13 : decode cX1_readLogin 13 = .ok (.iconst 0, 1) := by decide +kernel
theorem dX1_readLogin_14 : decode cX1_readLogin 14 = .ok (.invokevirtual 147, 3) := by decide +kernel
theorem dX1_readLogin_17 : decode cX1_readLogin 17 = .ok (.istore_n 1, 1) := by decide +kernel
theorem dX1_readLogin_18 : decode cX1_readLogin 18 = .ok (.aload_n 0, 1) := by decide +kernel
theorem dX1_readLogin_19 : decode cX1_readLogin 19 = .ok (.iconst 0, 1) := by decide +kernel
theorem dX1_readLogin_20 : decode cX1_readLogin 20 = .ok (.sipush 9999, 3) := by decide +kernel
theorem dX1_readLogin_23 : decode cX1_readLogin 23 = .ok (.invokevirtual 119, 3) := by decide +kernel
theorem dX1_readLogin_26 : decode cX1_readLogin 26 = .ok (.istore_n 2, 1) := by decide +kernel
theorem dX1_readLogin_27 : decode cX1_readLogin 27 = .ok (.aload_n 0, 1) := by decide +kernel
theorem dX1_readLogin_28 : decode cX1_readLogin 28 = .ok (.ldc 188, 2) := by decide +kernel
theorem dX1_readLogin_30 : decode cX1_readLogin 30 = .ok (.invokevirtual 51, 3) := by decide +kernel
theorem dX1_readLogin_33 : decode cX1_readLogin 33 = .ok (.istore_n 3, 1) := by decide +kernel
theorem dX1_readLogin_34 : decode cX1_readLogin 34 = .ok (.iload_n 3, 1) := by decide +kernel
theorem dX1_readLogin_35 : decode cX1_readLogin 35 = .ok (.ifCond .eq 8, 3) := by decide +kernel
theorem dX1_readLogin_38 : decode cX1_readLogin 38 = .ok (.aload_n 0, 1) := by decide +kernel
theorem dX1_readLogin_39 : decode cX1_readLogin 39 = .ok (.invokevirtual 36, 3) := by decide +kernel
theorem dX1_readLogin_42 : decode cX1_readLogin 42 = .ok (.pop, 1) := by decide +kernel
theorem dX1_readLogin_43 : decode cX1_readLogin 43 = .ok (.aload_n 0, 1) := by decide +kernel
theorem dX1_readLogin_44 : decode cX1_readLogin 44 = .ok (.aload_n 0, 1) := by decide +kernel
theorem dX1_readLogin_45 : decode cX1_readLogin 45 = .ok (.getfield 12, 3) := by decide +kernel
theorem dX1_readLogin_48 : decode cX1_readLogin 48 = .ok (.iload_n 1, 1) := by decide +kernel
theorem dX1_readLogin_49 : decode cX1_readLogin 49 = .ok (.iload_n 2, 1) := by decide +kernel
theorem dX1_readLogin_50 : decode cX1_readLogin 50 = .ok (.invokevirtual 190, 3) := by decide +kernel
theorem dX1_readLogin_53 : decode cX1_readLogin 53 = .ok (.ifCond .ne 7, 3) := by decide +kernel
theorem dX1_readLogin_56 : decode cX1_readLogin 56 = .ok (.iconst 1, 1) := by decide +kernel
theorem dX1_readLogin_57 : decode cX1_readLogin 57 = .ok (.goto 4, 3) := by decide +kernel
theorem dX1_readLogin_60 : decode cX1_readLogin 60 = .ok (.iconst 0, 1) := by decide +kernel
theorem dX1_readLogin_61 : decode cX1_readLogin 61 = .ok (.invokevirtual 123, 3) := by decide +kernel
theorem dX1_readLogin_64 : decode cX1_readLogin 64 = .ok (.ifCond .eq 13, 3) := by decide +kernel
theorem dX1_readLogin_67 : decode cX1_readLogin 67 = .ok (.aload_n 0, 1) := by decide +kernel
theorem dX1_readLogin_68 : decode cX1_readLogin 68 = .ok (.getfield 12, 3) := by decide +kernel
theorem dX1_readLogin_71 : decode cX1_readLogin 71 = .ok (.iload_n 1, 1) := by decide +kernel
theorem dX1_readLogin_72 : decode cX1_readLogin 72 = .ok (.iload_n 3, 1) := by decide +kernel
theorem dX1_readLogin_73 : decode cX1_readLogin 73 = .ok (.invokevirtual 193, 3) := by decide +kernel
theorem dX1_readLogin_76 : decode cX1_readLogin 76 = .ok (.pop, 1) := by decide +kernel
theorem dX1_readLogin_77 : decode cX1_readLogin 77 = .ok (.return_, 1) := by decide +kernel
set_option maxRecDepth 20000 in
theorem ggX1_readRefer_X1_take : GoodIn wsX1_readRefer wsX1_take := goodIn_r _ [6, 7, 8, 9, 10, 11, 12, 13, 14, 15, 16, 17, 18, 19, 20, 21, 22, 23, 24, 25, 26, 27, 28, 29, 30, 31, 32, 33, 34, 35, 36, 37, 38, 39, 40, 41, 174, 175, 176, 177, 178, 179, 180, 181, 192, 193] (by decide +kernel) (by decide +kernel)
set_option maxRecDepth 20000 in
theorem gX1_readRefer_X1_take : GoodIn wsX1_readRefer (wsV RX1 36 RX1 yX1_take wsX1_take) := goodIn_app (goodIn_of _ (by decide +kernel)) ggX1_readRefer_X1_take
set_option maxRecDepth 20000 in
theorem ggX1_readRefer_X1_knownTicket : GoodIn wsX1_readRefer wsX1_knownTicket := goodIn_r _ [45, 1, 7, 12, 46, 47, 48, 49, 50, 51, 52, 53, 54, 55, 56, 57, 58, 59, 60, 61, 62, 63, 64, 65, 66, 67, 5, 68, 8, 11, 69, 2, 3, 4, 6, 9, 10, 13, 14, 15, 16, 17, 18, 19, 20, 21, 22, 23, 24, 25, 26, 27, 28, 29, 30, 31, 32, 33, 34, 35, 36, 37, 38, 39, 40, 41, 174, 175, 176, 177, 178, 179, 180, 181, 182, 183, 184, 185, 186, 187, 188, 189, 190, 191, 194, 195, 196, 197, 198, 199, 200, 201, 202, 203, 204, 205, 206, 207, 208, 209, 210, 211, 212, 213, 214, 215, 216, 217, 192, 193] (by decide +kernel) (by decide +kernel)
set_option maxRecDepth 20000 in
theorem gX1_readRefer_X1_knownTicket : GoodIn wsX1_readRefer (wsV RX1 197 RX1 yX1_knownTicket wsX1_knownTicket) := goodIn_app (goodIn_of _ (by decide +kernel)) ggX1_readRefer_X1_knownTicket
set_option maxRecDepth 20000 in
theorem ggX1_readRefer_X1_knownName : GoodIn wsX1_readRefer wsX1_knownName := goodIn_r _ [73, 7, 12, 74, 75, 76, 49, 50, 51, 52, 53, 54, 55, 56, 57, 58, 59, 60, 61, 62, 63, 64, 77, 78, 79, 80, 81, 65, 66, 67, 5, 68, 8, 11, 69, 2, 3, 4, 6, 9, 10, 13, 14, 15, 16, 17, 18, 19, 20, 21, 22, 23, 24, 25, 26, 27, 28, 29, 30, 31, 32, 33, 34, 35, 36, 37, 38, 39, 40, 41, 174, 175, 176, 177, 178, 179, 180, 181, 194, 195, 196, 197, 198, 199, 200, 201, 202, 203, 204, 205, 206, 207, 208, 209, 210, 211, 212, 213, 214, 215, 216, 217, 192, 193] (by decide +kernel) (by decide +kernel)
set_option maxRecDepth 20000 in
theorem gX1_readRefer_X1_knownName : GoodIn wsX1_readRefer (wsV RX1 147 RX1 yX1_knownName wsX1_knownName) := goodIn_app (goodIn_of _ (by decide +kernel)) ggX1_readRefer_X1_knownName
set_option maxRecDepth 20000 in
theorem ggX1_readRefer_X5_whyNoReferral : GoodIn wsX1_readRefer wsX5_whyNoReferral := goodIn_r _ [86, 87, 88, 89, 90, 91, 92, 56, 50, 57, 58, 52, 59, 93, 94, 95, 96, 97, 98, 99, 100, 101, 102, 103, 104, 105, 106, 107, 108, 109, 85, 110, 111, 112, 113, 114, 115, 116, 117, 118, 40, 119, 120, 121, 122, 123, 124, 125, 126, 127, 128, 129, 182, 183, 184, 185, 186, 187, 188, 189, 190, 191, 194, 195, 196, 197, 198, 199, 200, 201, 202, 203, 204, 205, 206, 207, 208, 209, 210, 211, 212, 213, 214, 215, 216, 217] (by decide +kernel) (by decide +kernel)
set_option maxRecDepth 20000 in
theorem gX1_readRefer_X5_whyNoReferral : GoodIn wsX1_readRefer (wsV RX1 200 RX5 yX5_whyNoReferral wsX5_whyNoReferral) := goodIn_app (goodIn_of _ (by decide +kernel)) ggX1_readRefer_X5_whyNoReferral
set_option maxRecDepth 20000 in
theorem ggX1_readRefer_X1_semicolon : GoodIn wsX1_readRefer wsX1_semicolon := goodIn_r _ [133, 12, 7, 8, 65, 66, 67, 5, 68, 11, 69, 2, 3, 4, 6, 9, 10, 13, 14, 15, 16, 17, 18, 19, 20, 21, 22, 23, 24, 25, 26, 27, 28, 29, 30, 31, 32, 33, 34, 35, 36, 37, 38, 39, 40, 41, 174, 175, 176, 177, 178, 179, 180, 181, 192, 193] (by decide +kernel) (by decide +kernel)
set_option maxRecDepth 20000 in
theorem gX1_readRefer_X1_semicolon : GoodIn wsX1_readRefer (wsV RX1 123 RX1 yX1_semicolon wsX1_semicolon) := goodIn_app (goodIn_of _ (by decide +kernel)) ggX1_readRefer_X1_semicolon
set_option maxRecDepth 20000 in
theorem ggX1_readRefer_X5_makeReferral : GoodIn wsX1_readRefer wsX5_makeReferral := goodIn_r _ [137, 87, 90, 91, 92, 56, 50, 57, 58, 52, 59, 138, 139, 140, 85, 141, 142, 88, 143, 144, 145, 146, 147, 129, 148, 149, 150, 151, 152, 153, 154, 155, 156, 157, 158, 159, 160, 161, 162, 163, 164, 96, 165, 98, 166, 167, 168, 169, 89, 170, 39, 40, 41, 171, 172, 173, 123, 105, 106, 182, 183, 184, 185, 186, 187, 188, 189, 190, 191, 194, 195, 196, 197, 198, 199, 200, 201, 202, 203, 204, 205, 206, 207, 208, 209, 210, 211, 212, 213, 214, 215, 216, 217] (by decide +kernel) (by decide +kernel)
set_option maxRecDepth 20000 in
theorem gX1_readRefer_X5_makeReferral : GoodIn wsX1_readRefer (wsV RX1 203 RX5 yX5_makeReferral wsX5_makeReferral) := goodIn_app (goodIn_of _ (by decide +kernel)) ggX1_readRefer_X5_makeReferral
theorem dX1_readRefer_0 : decode cX1_readRefer 0 = .ok (.aload_n 0, 1) := by decide +kernel
theorem dX1_readRefer_1 : decode cX1_readRefer 1 = .ok (.invokevirtual 36, 3) := by decide +kernel
theorem dX1_readRefer_4 : decode cX1_readRefer 4 = .ok (.pop, 1) := by decide +kernel
theorem dX1_readRefer_5 : decode cX1_readRefer 5 = .ok (.aload_n 0, 1) := by decide +kernel
theorem dX1_readRefer_6 : decode cX1_readRefer 6 = .ok (.invokevirtual 197, 3) := by decide +kernel
theorem dX1_readRefer_9 : decode cX1_readRefer 9 = .ok (.istore_n 1, 1) := by decide +kernel
theorem dX1_readRefer_10 : decode cX1_readRefer 10 = .ok (.aload_n 0, 1) := by decide +kernel
theorem dX1_readRefer_11 : decode cX1_readRefer 11 = .ok (.aload_n 0, 1) := by decide +kernel
theorem dX1_readRefer_12 : decode cX1_readRefer 12 = .ok (.getfield 12, 3) := by decide +kernel
theorem dX1_readRefer_15 : decode cX1_readRefer 15 = .ok (.getfield 127, 3) := by decide +kernel
theorem dX1_readRefer_18 : decode cX1_readRefer 18 = .ok (.iconst 0, 1) := by decide +kernel
theorem dX1_readRefer_19 : decode cX1_readRefer 19 = .ok (.invokevirtual 147, 3) := by decide +kernel
theorem dX1_readRefer_22 : decode cX1_readRefer 22 = .ok (.istore_n 2, 1) := by decide +kernel
theorem dX1_readRefer_23 : decode cX1_readRefer 23 = .ok (.aload_n 0, 1) := by decide +kernel
theorem dX1_readRefer_24 : decode cX1_readRefer 24 = .ok (.aload_n 0, 1) := by decide +kernel
theorem dX1_readRefer_25 : decode cX1_readRefer 25 = .ok (.getfield 12, 3) := by decide +kernel
theorem dX1_readRefer_28 : decode cX1_readRefer 28 = .ok (.iload_n 1, 1) := by decide +kernel
theorem dX1_readRefer_29 : decode cX1_readRefer 29 = .ok (.iload_n 2, 1) := by decide +kernel
theorem dX1_readRefer_30 : decode cX1_readRefer 30 = .ok (.invokevirtual 200, 3) := by decide +kernel
theorem dX1_readRefer_33 : decode cX1_readRefer 33 = .ok (.ifCond .ne 7, 3) := by decide +kernel
theorem dX1_readRefer_36 : decode cX1_readRefer 36 = .ok (.iconst 1, 1) := by decide +kernel
theorem dX1_readRefer_37 : decode cX1_readRefer 37 = .ok (.goto 4, 3) := by decide +kernel
theorem dX1_readRefer_40 : decode cX1_readRefer 40 = .ok (.iconst 0, 1) := by decide +kernel
theorem dX1_readRefer_41 : decode cX1_readRefer 41 = .ok (.invokevirtual 123, 3) := by decide +kernel
theorem dX1_readRefer_44 : decode cX1_readRefer 44 = .ok (.ifCond .eq 13, 3) := by decide +kernel
theorem dX1_readRefer_47 : decode cX1_readRefer 47 = .ok (.aload_n 0, 1) := by decide +kernel
theorem dX1_readRefer_48 : decode cX1_readRefer 48 = .ok (.getfield 12, 3) := by decide +kernel
theorem dX1_readRefer_51 : decode cX1_readRefer 51 = .ok (.iload_n 1, 1) := by decide +kernel
theorem dX1_readRefer_52 : decode cX1_readRefer 52 = .ok (.iload_n 2, 1) := by decide +kernel
theorem dX1_readRefer_53 : decode cX1_readRefer 53 = .ok (.invokevirtual 203, 3) := by decide +kernel
theorem dX1_readRefer_56 : decode cX1_readRefer 56 = .ok (.pop, 1) := by decide +kernel
theorem dX1_readRefer_57 : decode cX1_readRefer 57 = .ok (.return_, 1) := by decide +kernel
set_option maxRecDepth 20000 in
theorem ggX1_readRequest_X1_take : GoodIn wsX1_readRequest wsX1_take := goodIn_r _ [6, 7, 8, 9, 10, 11, 12, 13, 14, 15, 16, 17, 18, 19, 20, 21, 22, 23, 24, 25, 26, 27, 28, 29, 30, 31, 32, 33, 34, 35, 36, 37, 38, 39, 40, 41, 172, 173, 174, 175, 176, 177, 178, 179, 190, 191] (by decide +kernel) (by decide +kernel)
set_option maxRecDepth 20000 in
theorem gX1_readRequest_X1_take : GoodIn wsX1_readRequest (wsV RX1 36 RX1 yX1_take wsX1_take) := goodIn_app (goodIn_of _ (by decide +kernel)) ggX1_readRequest_X1_take
set_option maxRecDepth 20000 in
theorem ggX1_readRequest_X1_knownTicket : GoodIn wsX1_readRequest wsX1_knownTicket := goodIn_r _ [45, 1, 7, 12, 46, 47, 48, 49, 50, 51, 52, 53, 54, 55, 56, 57, 58, 59, 60, 61, 62, 63, 64, 65, 66, 67, 5, 68, 8, 11, 69, 2, 3, 4, 6, 9, 10, 13, 14, 15, 16, 17, 18, 19, 20, 21, 22, 23, 24, 25, 26, 27, 28, 29, 30, 31, 32, 33, 34, 35, 36, 37, 38, 39, 40, 41, 172, 173, 174, 175, 176, 177, 178, 179, 180, 181, 182, 183, 184, 185, 186, 187, 188, 189, 192, 193, 194, 195, 196, 197, 198, 199, 200, 201, 202, 203, 204, 205, 206, 207, 208, 209, 210, 211, 212, 213, 214, 215, 190, 191] (by decide +kernel) (by decide +kernel)
set_option maxRecDepth 20000 in
theorem gX1_readRequest_X1_knownTicket : GoodIn wsX1_readRequest (wsV RX1 197 RX1 yX1_knownTicket wsX1_knownTicket) := goodIn_app (goodIn_of _ (by decide +kernel)) ggX1_readRequest_X1_knownTicket
set_option maxRecDepth 20000 in
theorem ggX1_readRequest_X1_knownName : GoodIn wsX1_readRequest wsX1_knownName := goodIn_r _ [73, 7, 12, 74, 75, 76, 49, 50, 51, 52, 53, 54, 55, 56, 57, 58, 59, 60, 61, 62, 63, 64, 77, 78, 79, 80, 81, 65, 66, 67, 5, 68, 8, 11, 69, 2, 3, 4, 6, 9, 10, 13, 14, 15, 16, 17, 18, 19, 20, 21, 22, 23, 24, 25, 26, 27, 28, 29, 30, 31, 32, 33, 34, 35, 36, 37, 38, 39, 40, 41, 172, 173, 174, 175, 176, 177, 178, 179, 192, 193, 194, 195, 196, 197, 198, 199, 200, 201, 202, 203, 204, 205, 206, 207, 208, 209, 210, 211, 212, 213, 214, 215, 190, 191] (by decide +kernel) (by decide +kernel)
set_option maxRecDepth 20000 in
theorem gX1_readRequest_X1_knownName : GoodIn wsX1_readRequest (wsV RX1 147 RX1 yX1_knownName wsX1_knownName) := goodIn_app (goodIn_of _ (by decide +kernel)) ggX1_readRequest_X1_knownName
set_option maxRecDepth 20000 in
theorem ggX1_readRequest_X5_whyNoRequest : GoodIn wsX1_readRequest wsX5_whyNoRequest := goodIn_r _ [86, 87, 88, 89, 90, 91, 92, 56, 50, 57, 58, 52, 59, 93, 94, 95, 96, 97, 98, 99, 100, 101, 102, 103, 104, 85, 105, 106, 107, 108, 109, 110, 111, 112, 113, 114, 40, 115, 116, 117, 118, 119, 120, 121, 122, 123, 124, 125, 126, 127, 180, 181, 182, 183, 184, 185, 186, 187, 188, 189, 192, 193, 194, 195, 196, 197, 198, 199, 200, 201, 202, 203, 204, 205, 206, 207, 208, 209, 210, 211, 212, 213, 214, 215] (by decide +kernel) (by decide +kernel)
set_option maxRecDepth 20000 in
theorem gX1_readRequest_X5_whyNoRequest : GoodIn wsX1_readRequest (wsV RX1 206 RX5 yX5_whyNoRequest wsX5_whyNoRequest) := goodIn_app (goodIn_of _ (by decide +kernel)) ggX1_readRequest_X5_whyNoRequest
set_option maxRecDepth 20000 in
theorem ggX1_readRequest_X1_semicolon : GoodIn wsX1_readRequest wsX1_semicolon := goodIn_r _ [131, 12, 7, 8, 65, 66, 67, 5, 68, 11, 69, 2, 3, 4, 6, 9, 10, 13, 14, 15, 16, 17, 18, 19, 20, 21, 22, 23, 24, 25, 26, 27, 28, 29, 30, 31, 32, 33, 34, 35, 36, 37, 38, 39, 40, 41, 172, 173, 174, 175, 176, 177, 178, 179, 190, 191] (by decide +kernel) (by decide +kernel)
set_option maxRecDepth 20000 in
theorem gX1_readRequest_X1_semicolon : GoodIn wsX1_readRequest (wsV RX1 123 RX1 yX1_semicolon wsX1_semicolon) := goodIn_app (goodIn_of _ (by decide +kernel)) ggX1_readRequest_X1_semicolon
set_option maxRecDepth 20000 in
theorem ggX1_readRequest_X5_makeRequest : GoodIn wsX1_readRequest wsX5_makeRequest := goodIn_r _ [135, 87, 90, 91, 92, 56, 50, 57, 58, 52, 59, 136, 137, 138, 85, 139, 140, 88, 141, 142, 143, 144, 145, 127, 146, 147, 148, 149, 150, 151, 152, 153, 154, 155, 156, 157, 158, 159, 160, 161, 162, 96, 163, 98, 164, 165, 166, 167, 112, 168, 39, 40, 41, 169, 170, 171, 119, 120, 121, 180, 181, 182, 183, 184, 185, 186, 187, 188, 189, 192, 193, 194, 195, 196, 197, 198, 199, 200, 201, 202, 203, 204, 205, 206, 207, 208, 209, 210, 211, 212, 213, 214, 215] (by decide +kernel) (by decide +kernel)
set_option maxRecDepth 20000 in
theorem gX1_readRequest_X5_makeRequest : GoodIn wsX1_readRequest (wsV RX1 209 RX5 yX5_makeRequest wsX5_makeRequest) := goodIn_app (goodIn_of _ (by decide +kernel)) ggX1_readRequest_X5_makeRequest
theorem dX1_readRequest_0 : decode cX1_readRequest 0 = .ok (.aload_n 0, 1) := by decide +kernel
theorem dX1_readRequest_1 : decode cX1_readRequest 1 = .ok (.invokevirtual 36, 3) := by decide +kernel
theorem dX1_readRequest_4 : decode cX1_readRequest 4 = .ok (.pop, 1) := by decide +kernel
theorem dX1_readRequest_5 : decode cX1_readRequest 5 = .ok (.aload_n 0, 1) := by decide +kernel
theorem dX1_readRequest_6 : decode cX1_readRequest 6 = .ok (.invokevirtual 197, 3) := by decide +kernel
theorem dX1_readRequest_9 : decode cX1_readRequest 9 = .ok (.istore_n 1, 1) := by decide +kernel
theorem dX1_readRequest_10 : decode cX1_readRequest 10 = .ok (.aload_n 0, 1) := by decide +kernel
theorem dX1_readRequest_11 : decode cX1_readRequest 11 = .ok (.aload_n 0, 1) := by decide +kernel
theorem dX1_readRequest_12 : decode cX1_readRequest 12 = .ok (.getfield 12, 3) := by decide +kernel
theorem dX1_readRequest_15 : decode cX1_readRequest 15 = .ok (.getfield 174, 3) := by decide +kernel
theorem dX1_readRequest_18 : decode cX1_readRequest 18 = .ok (.iconst 0, 1) := by decide +kernel
theorem dX1_readRequest_19 : decode cX1_readRequest 19 = .ok (.invokevirtual 147, 3) := by decide +kernel
theorem dX1_readRequest_22 : decode cX1_readRequest 22 = .ok (.istore_n 2, 1) := by decide +kernel
theorem dX1_readRequest_23 : decode cX1_readRequest 23 = .ok (.aload_n 0, 1) := by decide +kernel
theorem dX1_readRequest_24 : decode cX1_readRequest 24 = .ok (.aload_n 0, 1) := by decide +kernel
theorem dX1_readRequest_25 : decode cX1_readRequest 25 = .ok (.getfield 12, 3) := by decide +kernel
theorem dX1_readRequest_28 : decode cX1_readRequest 28 = .ok (.iload_n 1, 1) := by decide +kernel
theorem dX1_readRequest_29 : decode cX1_readRequest 29 = .ok (.iload_n 2, 1) := by decide +kernel
theorem dX1_readRequest_30 : decode cX1_readRequest 30 = .ok (.invokevirtual 206, 3) := by decide +kernel
theorem dX1_readRequest_33 : decode cX1_readRequest 33 = .ok (.ifCond .ne 7, 3) := by decide +kernel
theorem dX1_readRequest_36 : decode cX1_readRequest 36 = .ok (.iconst 1, 1) := by decide +kernel
theorem dX1_readRequest_37 : decode cX1_readRequest 37 = .ok (.goto 4, 3) := by decide +kernel
theorem dX1_readRequest_40 : decode cX1_readRequest 40 = .ok (.iconst 0, 1) := by decide +kernel
theorem dX1_readRequest_41 : decode cX1_readRequest 41 = .ok (.invokevirtual 123, 3) := by decide +kernel
theorem dX1_readRequest_44 : decode cX1_readRequest 44 = .ok (.ifCond .eq 13, 3) := by decide +kernel
theorem dX1_readRequest_47 : decode cX1_readRequest 47 = .ok (.aload_n 0, 1) := by decide +kernel
theorem dX1_readRequest_48 : decode cX1_readRequest 48 = .ok (.getfield 12, 3) := by decide +kernel
theorem dX1_readRequest_51 : decode cX1_readRequest 51 = .ok (.iload_n 1, 1) := by decide +kernel
theorem dX1_readRequest_52 : decode cX1_readRequest 52 = .ok (.iload_n 2, 1) := by decide +kernel
theorem dX1_readRequest_53 : decode cX1_readRequest 53 = .ok (.invokevirtual 209, 3) := by decide +kernel
theorem dX1_readRequest_56 : decode cX1_readRequest 56 = .ok (.pop, 1) := by decide +kernel
theorem dX1_readRequest_57 : decode cX1_readRequest 57 = .ok (.return_, 1) := by decide +kernel
set_option maxRecDepth 20000 in
theorem ggX1_readRenew_X1_take : GoodIn wsX1_readRenew wsX1_take := goodIn_r _ [6, 7, 8, 9, 10, 11, 12, 13, 14, 15, 16, 17, 18, 19, 20, 21, 22, 23, 24, 25, 26, 27, 28, 29, 30, 31, 32, 33, 34, 35, 36, 37, 38, 39, 40, 41, 117, 118, 119, 120, 121, 122, 123, 124, 125, 126] (by decide +kernel) (by decide +kernel)
set_option maxRecDepth 20000 in
theorem gX1_readRenew_X1_take : GoodIn wsX1_readRenew (wsV RX1 36 RX1 yX1_take wsX1_take) := goodIn_app (goodIn_of _ (by decide +kernel)) ggX1_readRenew_X1_take
set_option maxRecDepth 20000 in
theorem ggX1_readRenew_X1_knownTicket : GoodIn wsX1_readRenew wsX1_knownTicket := goodIn_r _ [45, 1, 7, 12, 46, 47, 48, 49, 50, 51, 52, 53, 54, 55, 56, 57, 58, 59, 60, 61, 62, 63, 64, 65, 66, 67, 5, 68, 8, 11, 69, 2, 3, 4, 6, 9, 10, 13, 14, 15, 16, 17, 18, 19, 20, 21, 22, 23, 24, 25, 26, 27, 28, 29, 30, 31, 32, 33, 34, 35, 36, 37, 38, 39, 40, 41, 117, 118, 119, 120, 121, 122, 123, 124, 127, 128, 129, 130, 131, 132, 133, 134, 135, 136, 137, 138, 139, 140, 141, 142, 143, 144, 145, 146, 147, 148, 149, 150, 151, 152, 153, 154, 155, 156, 157, 158, 159, 160, 125, 126] (by decide +kernel) (by decide +kernel)
set_option maxRecDepth 20000 in
theorem gX1_readRenew_X1_knownTicket : GoodIn wsX1_readRenew (wsV RX1 197 RX1 yX1_knownTicket wsX1_knownTicket) := goodIn_app (goodIn_of _ (by decide +kernel)) ggX1_readRenew_X1_knownTicket
set_option maxRecDepth 20000 in
theorem ggX1_readRenew_X5_whyNoRenewal : GoodIn wsX1_readRenew wsX5_whyNoRenewal := goodIn_r _ [74, 75, 76, 77, 78, 79, 80, 81, 82, 83, 84, 56, 50, 57, 58, 52, 59, 85, 86, 87, 88, 89, 90, 91, 73, 92, 93, 94, 39, 40, 41, 95, 96, 97, 98, 127, 128, 129, 130, 131, 132, 133, 134, 135, 136, 137, 138, 139, 140, 141, 142, 143, 144, 145, 146, 147, 148, 149, 150, 151, 152, 153, 154, 155, 156, 157, 158, 159, 160] (by decide +kernel) (by decide +kernel)
set_option maxRecDepth 20000 in
theorem gX1_readRenew_X5_whyNoRenewal : GoodIn wsX1_readRenew (wsV RX1 212 RX5 yX5_whyNoRenewal wsX5_whyNoRenewal) := goodIn_app (goodIn_of _ (by decide +kernel)) ggX1_readRenew_X5_whyNoRenewal
set_option maxRecDepth 20000 in
theorem ggX1_readRenew_X1_semicolon : GoodIn wsX1_readRenew wsX1_semicolon := goodIn_r _ [102, 12, 7, 8, 65, 66, 67, 5, 68, 11, 69, 2, 3, 4, 6, 9, 10, 13, 14, 15, 16, 17, 18, 19, 20, 21, 22, 23, 24, 25, 26, 27, 28, 29, 30, 31, 32, 33, 34, 35, 36, 37, 38, 39, 40, 41, 117, 118, 119, 120, 121, 122, 123, 124, 125, 126] (by decide +kernel) (by decide +kernel)
set_option maxRecDepth 20000 in
theorem gX1_readRenew_X1_semicolon : GoodIn wsX1_readRenew (wsV RX1 123 RX1 yX1_semicolon wsX1_semicolon) := goodIn_app (goodIn_of _ (by decide +kernel)) ggX1_readRenew_X1_semicolon
set_option maxRecDepth 20000 in
theorem ggX1_readRenew_X5_makeRenewal : GoodIn wsX1_readRenew wsX5_makeRenewal := goodIn_r _ [106, 75, 89, 90, 91, 73, 92, 76, 93, 94, 39, 40, 41, 95, 83, 84, 56, 50, 57, 58, 52, 59, 96, 97, 98, 107, 108, 109, 110, 111, 112, 113, 114, 115, 116, 127, 128, 129, 130, 131, 132, 133, 134, 135, 136, 137, 138, 139, 140, 141, 142, 143, 144, 145, 146, 147, 148, 149, 150, 151, 152, 153, 154, 155, 156, 157, 158, 159, 160] (by decide +kernel) (by decide +kernel)
set_option maxRecDepth 20000 in
theorem gX1_readRenew_X5_makeRenewal : GoodIn wsX1_readRenew (wsV RX1 216 RX5 yX5_makeRenewal wsX5_makeRenewal) := goodIn_app (goodIn_of _ (by decide +kernel)) ggX1_readRenew_X5_makeRenewal
theorem dX1_readRenew_0 : decode cX1_readRenew 0 = .ok (.aload_n 0, 1) := by decide +kernel
theorem dX1_readRenew_1 : decode cX1_readRenew 1 = .ok (.invokevirtual 36, 3) := by decide +kernel
theorem dX1_readRenew_4 : decode cX1_readRenew 4 = .ok (.pop, 1) := by decide +kernel
theorem dX1_readRenew_5 : decode cX1_readRenew 5 = .ok (.aload_n 0, 1) := by decide +kernel
theorem dX1_readRenew_6 : decode cX1_readRenew 6 = .ok (.invokevirtual 197, 3) := by decide +kernel
theorem dX1_readRenew_9 : decode cX1_readRenew 9 = .ok (.istore_n 1, 1) := by decide +kernel
theorem dX1_readRenew_10 : decode cX1_readRenew 10 = .ok (.aload_n 0, 1) := by decide +kernel
theorem dX1_readRenew_11 : decode cX1_readRenew 11 = .ok (.aload_n 0, 1) := by decide +kernel
theorem dX1_readRenew_12 : decode cX1_readRenew 12 = .ok (.getfield 12, 3) := by decide +kernel
theorem dX1_readRenew_15 : decode cX1_readRenew 15 = .ok (.iload_n 1, 1) := by decide +kernel
theorem dX1_readRenew_16 : decode cX1_readRenew 16 = .ok (.invokevirtual 212, 3) := by decide +kernel
theorem dX1_readRenew_19 : decode cX1_readRenew 19 = .ok (.ifCond .ne 7, 3) := by decide +kernel
theorem dX1_readRenew_22 : decode cX1_readRenew 22 = .ok (.iconst 1, 1) := by decide +kernel
theorem dX1_readRenew_23 : decode cX1_readRenew 23 = .ok (.goto 4, 3) := by decide +kernel
theorem dX1_readRenew_26 : decode cX1_readRenew 26 = .ok (.iconst 0, 1) := by decide +kernel
theorem dX1_readRenew_27 : decode cX1_readRenew 27 = .ok (.invokevirtual 123, 3) := by decide +kernel
theorem dX1_readRenew_30 : decode cX1_readRenew 30 = .ok (.ifCond .eq 12, 3) := by decide +kernel
theorem dX1_readRenew_33 : decode cX1_readRenew 33 = .ok (.aload_n 0, 1) := by decide +kernel
theorem dX1_readRenew_34 : decode cX1_readRenew 34 = .ok (.getfield 12, 3) := by decide +kernel
theorem dX1_readRenew_37 : decode cX1_readRenew 37 = .ok (.iload_n 1, 1) := by decide +kernel
theorem dX1_readRenew_38 : decode cX1_readRenew 38 = .ok (.invokevirtual 216, 3) := by decide +kernel
theorem dX1_readRenew_41 : decode cX1_readRenew 41 = .ok (.pop, 1) := by decide +kernel
theorem dX1_readRenew_42 : decode cX1_readRenew 42 = .ok (.return_, 1) := by decide +kernel
set_option maxRecDepth 20000 in
theorem ggX1_readCheese_X1_take : GoodIn wsX1_readCheese wsX1_take := goodIn_r _ [6, 7, 8, 9, 10, 11, 12, 13, 14, 15, 16, 17, 18, 19, 20, 21, 22, 23, 24, 25, 26, 27, 28, 29, 30, 31, 32, 33, 34, 35, 36, 37, 38, 39, 40, 41, 163, 164, 165, 166, 167, 168, 169, 170, 171, 172] (by decide +kernel) (by decide +kernel)
set_option maxRecDepth 20000 in
theorem gX1_readCheese_X1_take : GoodIn wsX1_readCheese (wsV RX1 36 RX1 yX1_take wsX1_take) := goodIn_app (goodIn_of _ (by decide +kernel)) ggX1_readCheese_X1_take
set_option maxRecDepth 20000 in
theorem ggX1_readCheese_X1_knownTicket : GoodIn wsX1_readCheese wsX1_knownTicket := goodIn_r _ [45, 1, 7, 12, 46, 47, 48, 49, 50, 51, 52, 53, 54, 55, 56, 57, 58, 59, 60, 61, 62, 63, 64, 65, 66, 67, 5, 68, 8, 11, 69, 2, 3, 4, 6, 9, 10, 13, 14, 15, 16, 17, 18, 19, 20, 21, 22, 23, 24, 25, 26, 27, 28, 29, 30, 31, 32, 33, 34, 35, 36, 37, 38, 39, 40, 41, 163, 164, 165, 166, 167, 168, 169, 170, 173, 174, 175, 176, 177, 178, 179, 180, 181, 182, 183, 184, 185, 186, 187, 188, 189, 190, 191, 192, 193, 194, 195, 196, 197, 198, 199, 200, 201, 202, 203, 204, 205, 206, 171, 172] (by decide +kernel) (by decide +kernel)
set_option maxRecDepth 20000 in
theorem gX1_readCheese_X1_knownTicket : GoodIn wsX1_readCheese (wsV RX1 197 RX1 yX1_knownTicket wsX1_knownTicket) := goodIn_app (goodIn_of _ (by decide +kernel)) ggX1_readCheese_X1_knownTicket
set_option maxRecDepth 20000 in
theorem ggX1_readCheese_X5_whyNoCheese : GoodIn wsX1_readCheese wsX5_whyNoCheese := goodIn_r _ [74, 75, 76, 77, 78, 79, 80, 81, 82, 83, 56, 50, 57, 58, 52, 59, 84, 85, 86, 87, 88, 89, 90, 91, 92, 73, 93, 94, 95, 96, 97, 98, 99, 100, 40, 101, 102, 103, 104, 105, 106, 107, 108, 109, 110, 111, 112, 113, 114, 115, 116, 117, 118, 119, 120, 121, 122, 123, 173, 174, 175, 176, 177, 178, 179, 180, 181, 182, 183, 184, 185, 186, 187, 188, 189, 190, 191, 192, 193, 194, 195, 196, 197, 198, 199, 200, 201, 202, 203, 204, 205, 206] (by decide +kernel) (by decide +kernel)
set_option maxRecDepth 20000 in
theorem gX1_readCheese_X5_whyNoCheese : GoodIn wsX1_readCheese (wsV RX1 219 RX5 yX5_whyNoCheese wsX5_whyNoCheese) := goodIn_app (goodIn_of _ (by decide +kernel)) ggX1_readCheese_X5_whyNoCheese
set_option maxRecDepth 20000 in
theorem ggX1_readCheese_X1_semicolon : GoodIn wsX1_readCheese wsX1_semicolon := goodIn_r _ [127, 12, 7, 8, 65, 66, 67, 5, 68, 11, 69, 2, 3, 4, 6, 9, 10, 13, 14, 15, 16, 17, 18, 19, 20, 21, 22, 23, 24, 25, 26, 27, 28, 29, 30, 31, 32, 33, 34, 35, 36, 37, 38, 39, 40, 41, 163, 164, 165, 166, 167, 168, 169, 170, 171, 172] (by decide +kernel) (by decide +kernel)
set_option maxRecDepth 20000 in
theorem gX1_readCheese_X1_semicolon : GoodIn wsX1_readCheese (wsV RX1 123 RX1 yX1_semicolon wsX1_semicolon) := goodIn_app (goodIn_of _ (by decide +kernel)) ggX1_readCheese_X1_semicolon
set_option maxRecDepth 20000 in
theorem ggX1_readCheese_X5_giveCheese : GoodIn wsX1_readCheese wsX5_giveCheese := goodIn_r _ [131, 76, 78, 77, 75, 80, 81, 82, 83, 56, 50, 57, 58, 52, 59, 102, 103, 104, 132, 133, 134, 111, 135, 136, 137, 138, 139, 140, 141, 142, 143, 144, 145, 146, 147, 148, 149, 150, 151, 152, 153, 154, 155, 156, 121, 122, 123, 157, 158, 159, 160, 161, 162, 173, 174, 175, 176, 177, 178, 179, 180, 181, 182, 183, 184, 185, 186, 187, 188, 189, 190, 191, 192, 193, 194, 195, 196, 197, 198, 199, 200, 201, 202, 203, 204, 205, 206] (by decide +kernel) (by decide +kernel)
set_option maxRecDepth 20000 in
theorem gX1_readCheese_X5_giveCheese : GoodIn wsX1_readCheese (wsV RX1 222 RX5 yX5_giveCheese wsX5_giveCheese) := goodIn_app (goodIn_of _ (by decide +kernel)) ggX1_readCheese_X5_giveCheese
theorem dX1_readCheese_0 : decode cX1_readCheese 0 = .ok (.aload_n 0, 1) := by decide +kernel
theorem dX1_readCheese_1 : decode cX1_readCheese 1 = .ok (.invokevirtual 36, 3) := by decide +kernel
theorem dX1_readCheese_4 : decode cX1_readCheese 4 = .ok (.pop, 1) := by decide +kernel
theorem dX1_readCheese_5 : decode cX1_readCheese 5 = .ok (.aload_n 0, 1) := by decide +kernel
theorem dX1_readCheese_6 : decode cX1_readCheese 6 = .ok (.invokevirtual 197, 3) := by decide +kernel
theorem dX1_readCheese_9 : decode cX1_readCheese 9 = .ok (.istore_n 1, 1) := by decide +kernel
theorem dX1_readCheese_10 : decode cX1_readCheese 10 = .ok (.aload_n 0, 1) := by decide +kernel
theorem dX1_readCheese_11 : decode cX1_readCheese 11 = .ok (.aload_n 0, 1) := by decide +kernel
theorem dX1_readCheese_12 : decode cX1_readCheese 12 = .ok (.getfield 12, 3) := by decide +kernel
theorem dX1_readCheese_15 : decode cX1_readCheese 15 = .ok (.iload_n 1, 1) := by decide +kernel
theorem dX1_readCheese_16 : decode cX1_readCheese 16 = .ok (.iconst 0, 1) := by decide +kernel
theorem dX1_readCheese_17 : decode cX1_readCheese 17 = .ok (.invokevirtual 219, 3) := by decide +kernel
theorem dX1_readCheese_20 : decode cX1_readCheese 20 = .ok (.ifCond .ne 7, 3) := by decide +kernel
theorem dX1_readCheese_23 : decode cX1_readCheese 23 = .ok (.iconst 1, 1) := by decide +kernel
theorem dX1_readCheese_24 : decode cX1_readCheese 24 = .ok (.goto 4, 3) := by decide +kernel
theorem dX1_readCheese_27 : decode cX1_readCheese 27 = .ok (.iconst 0, 1) := by decide +kernel
theorem dX1_readCheese_28 : decode cX1_readCheese 28 = .ok (.invokevirtual 123, 3) := by decide +kernel
theorem dX1_readCheese_31 : decode cX1_readCheese 31 = .ok (.ifCond .eq 12, 3) := by decide +kernel
theorem dX1_readCheese_34 : decode cX1_readCheese 34 = .ok (.aload_n 0, 1) := by decide +kernel
theorem dX1_readCheese_35 : decode cX1_readCheese 35 = .ok (.getfield 12, 3) := by decide +kernel
theorem dX1_readCheese_38 : decode cX1_readCheese 38 = .ok (.iload_n 1, 1) := by decide +kernel
theorem dX1_readCheese_39 : decode cX1_readCheese 39 = .ok (.invokevirtual 222, 3) := by decide +kernel
theorem dX1_readCheese_42 : decode cX1_readCheese 42 = .ok (.pop, 1) := by decide +kernel
theorem dX1_readCheese_43 : decode cX1_readCheese 43 = .ok (.return_, 1) := by decide +kernel
set_option maxRecDepth 20000 in
theorem ggX1_readDrop_X1_take : GoodIn wsX1_readDrop wsX1_take := goodIn_r _ [6, 7, 8, 9, 10, 11, 12, 13, 14, 15, 16, 17, 18, 19, 20, 21, 22, 23, 24, 25, 26, 27, 28, 29, 30, 31, 32, 33, 34, 35, 36, 37, 38, 39, 40, 41, 79, 80, 81, 82, 83, 84, 85, 86, 97, 98] (by decide +kernel) (by decide +kernel)
set_option maxRecDepth 20000 in
theorem gX1_readDrop_X1_take : GoodIn wsX1_readDrop (wsV RX1 36 RX1 yX1_take wsX1_take) := goodIn_app (goodIn_of _ (by decide +kernel)) ggX1_readDrop_X1_take
set_option maxRecDepth 20000 in
theorem ggX1_readDrop_X1_knownTicket : GoodIn wsX1_readDrop wsX1_knownTicket := goodIn_r _ [45, 1, 7, 12, 46, 47, 48, 49, 50, 51, 52, 53, 54, 55, 56, 57, 58, 59, 60, 61, 62, 63, 64, 65, 66, 67, 5, 68, 8, 11, 69, 2, 3, 4, 6, 9, 10, 13, 14, 15, 16, 17, 18, 19, 20, 21, 22, 23, 24, 25, 26, 27, 28, 29, 30, 31, 32, 33, 34, 35, 36, 37, 38, 39, 40, 41, 79, 80, 81, 82, 83, 84, 85, 86, 87, 88, 89, 90, 91, 92, 93, 94, 95, 96, 99, 100, 101, 102, 103, 104, 105, 106, 107, 108, 109, 110, 111, 112, 113, 114, 115, 116, 117, 118, 119, 120, 121, 122, 97, 98] (by decide +kernel) (by decide +kernel)
set_option maxRecDepth 20000 in
theorem gX1_readDrop_X1_knownTicket : GoodIn wsX1_readDrop (wsV RX1 197 RX1 yX1_knownTicket wsX1_knownTicket) := goodIn_app (goodIn_of _ (by decide +kernel)) ggX1_readDrop_X1_knownTicket
set_option maxRecDepth 20000 in
theorem ggX1_readDrop_X1_semicolon : GoodIn wsX1_readDrop wsX1_semicolon := goodIn_r _ [73, 12, 7, 8, 65, 66, 67, 5, 68, 11, 69, 2, 3, 4, 6, 9, 10, 13, 14, 15, 16, 17, 18, 19, 20, 21, 22, 23, 24, 25, 26, 27, 28, 29, 30, 31, 32, 33, 34, 35, 36, 37, 38, 39, 40, 41, 79, 80, 81, 82, 83, 84, 85, 86, 97, 98] (by decide +kernel) (by decide +kernel)
set_option maxRecDepth 20000 in
theorem gX1_readDrop_X1_semicolon : GoodIn wsX1_readDrop (wsV RX1 123 RX1 yX1_semicolon wsX1_semicolon) := goodIn_app (goodIn_of _ (by decide +kernel)) ggX1_readDrop_X1_semicolon
set_option maxRecDepth 20000 in
theorem ggX1_readDrop_X6_removeRow : GoodIn wsX1_readDrop wsX6_removeRow := goodIn_r _ [78, 52, 58, 59, 99, 100, 101, 102, 103, 104, 105, 106, 107, 108, 109, 110, 111, 112, 113, 114, 115, 116, 117, 118, 119, 120, 121, 122] (by decide +kernel) (by decide +kernel)
set_option maxRecDepth 20000 in
theorem gX1_readDrop_X6_removeRow_u229X7 : GoodIn wsX1_readDrop (va_wsU RX1 229 RX7 "TicketGate$Table" ⟨"TicketGate$Tickets", "removeRow", "(I)V"⟩ yX6_removeRow wsX6_removeRow) := goodIn_app (goodIn_of _ (by decide +kernel)) ggX1_readDrop_X6_removeRow
theorem dX1_readDrop_0 : decode cX1_readDrop 0 = .ok (.aload_n 0, 1) := by decide +kernel
theorem dX1_readDrop_1 : decode cX1_readDrop 1 = .ok (.invokevirtual 36, 3) := by decide +kernel
theorem dX1_readDrop_4 : decode cX1_readDrop 4 = .ok (.pop, 1) := by decide +kernel
theorem dX1_readDrop_5 : decode cX1_readDrop 5 = .ok (.aload_n 0, 1) := by decide +kernel
theorem dX1_readDrop_6 : decode cX1_readDrop 6 = .ok (.invokevirtual 197, 3) := by decide +kernel
theorem dX1_readDrop_9 : decode cX1_readDrop 9 = .ok (.istore_n 1, 1) := by decide +kernel
theorem dX1_readDrop_10 : decode cX1_readDrop 10 = .ok (.aload_n 0, 1) := by decide +kernel
theorem dX1_readDrop_11 : decode cX1_readDrop 11 = .ok (.iconst 1, 1) := by decide +kernel
theorem dX1_readDrop_12 : decode cX1_readDrop 12 = .ok (.invokevirtual 123, 3) := by decide +kernel
theorem dX1_readDrop_15 : decode cX1_readDrop 15 = .ok (.ifCond .eq 14, 3) := by decide +kernel
theorem dX1_readDrop_18 : decode cX1_readDrop 18 = .ok (.aload_n 0, 1) := by decide +kernel
theorem dX1_readDrop_19 : decode cX1_readDrop 19 = .ok (.getfield 12, 3) := by decide +kernel
theorem dX1_readDrop_22 : decode cX1_readDrop 22 = .ok (.getfield 225, 3) := by decide +kernel
theorem dX1_readDrop_25 : decode cX1_readDrop 25 = .ok (.iload_n 1, 1) := by decide +kernel
theorem dX1_readDrop_26 : decode cX1_readDrop 26 = .ok (.invokevirtual 229, 3) := by decide +kernel
theorem dX1_readDrop_29 : decode cX1_readDrop 29 = .ok (.return_, 1) := by decide +kernel
set_option maxRecDepth 20000 in
theorem ggX1_readSweep_X1_take : GoodIn wsX1_readSweep wsX1_take := goodIn_r _ [6, 7, 8, 9, 10, 11, 12, 13, 14, 15, 16, 17, 18, 19, 20, 21, 22, 23, 24, 25, 26, 27, 28, 29, 30, 31, 32, 33, 34, 35, 36, 37, 38, 39, 40, 41, 79, 80, 81, 82, 83, 84, 85, 86, 97, 98] (by decide +kernel) (by decide +kernel)
set_option maxRecDepth 20000 in
theorem gX1_readSweep_X1_take : GoodIn wsX1_readSweep (wsV RX1 36 RX1 yX1_take wsX1_take) := goodIn_app (goodIn_of _ (by decide +kernel)) ggX1_readSweep_X1_take
set_option maxRecDepth 20000 in
theorem ggX1_readSweep_X1_semicolon : GoodIn wsX1_readSweep wsX1_semicolon := goodIn_r _ [45, 12, 7, 8, 46, 47, 48, 5, 49, 11, 50, 2, 3, 4, 6, 9, 10, 13, 14, 15, 16, 17, 18, 19, 20, 21, 22, 23, 24, 25, 26, 27, 28, 29, 30, 31, 32, 33, 34, 35, 36, 37, 38, 39, 40, 41, 79, 80, 81, 82, 83, 84, 85, 86, 97, 98] (by decide +kernel) (by decide +kernel)
set_option maxRecDepth 20000 in
theorem gX1_readSweep_X1_semicolon : GoodIn wsX1_readSweep (wsV RX1 123 RX1 yX1_semicolon wsX1_semicolon) := goodIn_app (goodIn_of _ (by decide +kernel)) ggX1_readSweep_X1_semicolon
set_option maxRecDepth 20000 in
theorem ggX1_readSweep_X7_removeDead : GoodIn wsX1_readSweep wsX7_removeDead := goodIn_r _ [55, 56, 57, 58, 59, 60, 61, 62, 63, 64, 65, 54, 66, 67, 68, 69, 70, 71, 72, 73, 74, 75, 76, 77, 78, 99, 100, 101, 102, 103, 104, 105, 106, 107, 108, 109, 110, 111, 112, 113, 114, 115, 116, 117, 118, 119, 120, 121, 122] (by decide +kernel) (by decide +kernel)
set_option maxRecDepth 20000 in
theorem gX1_readSweep_X7_removeDead : GoodIn wsX1_readSweep (wsV RX1 238 RX7 yX7_removeDead wsX7_removeDead) := goodIn_app (goodIn_of _ (by decide +kernel)) ggX1_readSweep_X7_removeDead
theorem dX1_readSweep_0 : decode cX1_readSweep 0 = .ok (.aload_n 0, 1) := by decide +kernel
theorem dX1_readSweep_1 : decode cX1_readSweep 1 = .ok (.invokevirtual 36, 3) := by decide +kernel
theorem dX1_readSweep_4 : decode cX1_readSweep 4 = .ok (.pop, 1) := by decide +kernel
theorem dX1_readSweep_5 : decode cX1_readSweep 5 = .ok (.aload_n 0, 1) := by decide +kernel
theorem dX1_readSweep_6 : decode cX1_readSweep 6 = .ok (.iconst 1, 1) := by decide +kernel
theorem dX1_readSweep_7 : decode cX1_readSweep 7 = .ok (.invokevirtual 123, 3) := by decide +kernel
theorem dX1_readSweep_10 : decode cX1_readSweep 10 = .ok (.ifCond .eq 21, 3) := by decide +kernel
theorem dX1_readSweep_13 : decode cX1_readSweep 13 = .ok (.aload_n 0, 1) := by decide +kernel
theorem dX1_readSweep_14 : decode cX1_readSweep 14 = .ok (.getfield 12, 3) := by decide +kernel
theorem dX1_readSweep_17 : decode cX1_readSweep 17 = .ok (.getfield 225, 3) := by decide +kernel
theorem dX1_readSweep_20 : decode cX1_readSweep 20 = .ok (.aload_n 0, 1) := by decide +kernel
theorem dX1_readSweep_21 : decode cX1_readSweep 21 = .ok (.getfield 12, 3) := by decide +kernel
theorem dX1_readSweep_24 : decode cX1_readSweep 24 = .ok (.getfield 235, 3) := by decide +kernel
theorem dX1_readSweep_27 : decode cX1_readSweep 27 = .ok (.invokevirtual 238, 3) := by decide +kernel
theorem dX1_readSweep_30 : decode cX1_readSweep 30 = .ok (.pop, 1) := by decide +kernel
theorem dX1_readSweep_31 : decode cX1_readSweep 31 = .ok (.return_, 1) := by decide +kernel
set_option maxRecDepth 20000 in
theorem ggX1_readPass_X1_take : GoodIn wsX1_readPass wsX1_take := goodIn_r _ [6, 7, 8, 9, 10, 11, 12, 13, 14, 15, 16, 17, 18, 19, 20, 21, 22, 23, 24, 25, 26, 27, 28, 29, 30, 31, 32, 33, 34, 35, 36, 37, 38, 39, 40, 41, 87, 88, 89, 90, 91, 92, 93, 94, 95, 96] (by decide +kernel) (by decide +kernel)
set_option maxRecDepth 20000 in
theorem gX1_readPass_X1_take : GoodIn wsX1_readPass (wsV RX1 36 RX1 yX1_take wsX1_take) := goodIn_app (goodIn_of _ (by decide +kernel)) ggX1_readPass_X1_take
set_option maxRecDepth 20000 in
theorem ggX1_readPass_X1_number : GoodIn wsX1_readPass wsX1_number := goodIn_r _ [45, 12, 7, 46, 47, 48, 5, 49, 8, 11, 50, 2, 3, 4, 6, 9, 10, 13, 14, 15, 16, 17, 18, 19, 20, 21, 22, 23, 24, 25, 26, 27, 28, 29, 30, 31, 32, 33, 34, 35, 36, 37, 38, 39, 40, 41, 87, 88, 89, 90, 91, 92, 93, 94, 95, 96] (by decide +kernel) (by decide +kernel)
set_option maxRecDepth 20000 in
theorem gX1_readPass_X1_number : GoodIn wsX1_readPass (wsV RX1 119 RX1 yX1_number wsX1_number) := goodIn_app (goodIn_of _ (by decide +kernel)) ggX1_readPass_X1_number
set_option maxRecDepth 20000 in
theorem ggX1_readPass_X1_semicolon : GoodIn wsX1_readPass wsX1_semicolon := goodIn_r _ [54, 12, 7, 8, 46, 47, 48, 5, 49, 11, 50, 2, 3, 4, 6, 9, 10, 13, 14, 15, 16, 17, 18, 19, 20, 21, 22, 23, 24, 25, 26, 27, 28, 29, 30, 31, 32, 33, 34, 35, 36, 37, 38, 39, 40, 41, 87, 88, 89, 90, 91, 92, 93, 94, 95, 96] (by decide +kernel) (by decide +kernel)
set_option maxRecDepth 20000 in
theorem gX1_readPass_X1_semicolon : GoodIn wsX1_readPass (wsV RX1 123 RX1 yX1_semicolon wsX1_semicolon) := goodIn_app (goodIn_of _ (by decide +kernel)) ggX1_readPass_X1_semicolon
set_option maxRecDepth 20000 in
theorem ggX1_readPass_X5_letPass : GoodIn wsX1_readPass wsX5_letPass := goodIn_r _ [59, 60, 61, 62, 63, 64, 65, 66, 67, 68, 69, 70, 71, 72, 73, 74, 75, 76, 77, 78, 79, 80, 81, 82, 83, 84, 85, 86, 97, 98, 99, 100, 101, 102, 103, 104, 105, 106, 107, 108, 109, 110, 111, 112, 113, 114, 115, 116, 117, 118, 119, 120, 121, 122, 123, 124, 125, 126, 127, 128, 129, 130] (by decide +kernel) (by decide +kernel)
set_option maxRecDepth 20000 in
theorem gX1_readPass_X5_letPass : GoodIn wsX1_readPass (wsV RX1 241 RX5 yX5_letPass wsX5_letPass) := goodIn_app (goodIn_of _ (by decide +kernel)) ggX1_readPass_X5_letPass
theorem dX1_readPass_0 : decode cX1_readPass 0 = .ok (.aload_n 0, 1) := by decide +kernel
theorem dX1_readPass_1 : decode cX1_readPass 1 = .ok (.invokevirtual 36, 3) := by decide +kernel
theorem dX1_readPass_4 : decode cX1_readPass 4 = .ok (.pop, 1) := by decide +kernel
theorem dX1_readPass_5 : decode cX1_readPass 5 = .ok (.aload_n 0, 1) := by decide +kernel
theorem dX1_readPass_6 : decode cX1_readPass 6 = .ok (.iconst 0, 1) := by decide +kernel
theorem dX1_readPass_7 : decode cX1_readPass 7 = .ok (.sipush 999, 3) := by decide +kernel
theorem dX1_readPass_10 : decode cX1_readPass 10 = .ok (.invokevirtual 119, 3) := by decide +kernel
theorem dX1_readPass_13 : decode cX1_readPass 13 = .ok (.istore_n 1, 1) := by decide +kernel
theorem dX1_readPass_14 : decode cX1_readPass 14 = .ok (.aload_n 0, 1) := by decide +kernel
theorem dX1_readPass_15 : decode cX1_readPass 15 = .ok (.iconst 1, 1) := by decide +kernel
theorem dX1_readPass_16 : decode cX1_readPass 16 = .ok (.invokevirtual 123, 3) := by decide +kernel
theorem dX1_readPass_19 : decode cX1_readPass 19 = .ok (.ifCond .eq 11, 3) := by decide +kernel
theorem dX1_readPass_22 : decode cX1_readPass 22 = .ok (.aload_n 0, 1) := by decide +kernel
theorem dX1_readPass_23 : decode cX1_readPass 23 = .ok (.getfield 12, 3) := by decide +kernel
theorem dX1_readPass_26 : decode cX1_readPass 26 = .ok (.iload_n 1, 1) := by decide +kernel
theorem dX1_readPass_27 : decode cX1_readPass 27 = .ok (.invokevirtual 241, 3) := by decide +kernel
theorem dX1_readPass_30 : decode cX1_readPass 30 = .ok (.return_, 1) := by decide +kernel
set_option maxRecDepth 20000 in
theorem ggX1_number_X1_require : GoodIn wsX1_number wsX1_require := goodIn_r _ [7, 8, 9, 10, 46, 47, 48, 49, 50, 51, 52, 53] (by decide +kernel) (by decide +kernel)
set_option maxRecDepth 20000 in
theorem gX1_number_X1_require : GoodIn wsX1_number (wsV RX1 113 RX1 yX1_require wsX1_require) := goodIn_app (goodIn_of _ (by decide +kernel)) ggX1_number_X1_require
set_option maxRecDepth 20000 in
theorem ggX1_number_X1_take : GoodIn wsX1_number wsX1_take := goodIn_r _ [14, 2, 8, 15, 16, 9, 1, 17, 18, 19, 20, 21, 22, 23, 24, 25, 26, 27, 28, 29, 30, 31, 32, 33, 34, 35, 36, 37, 38, 39, 40, 41, 42, 43, 44, 45, 46, 47, 48, 49, 50, 51, 52, 53, 54, 55] (by decide +kernel) (by decide +kernel)
set_option maxRecDepth 20000 in
theorem gX1_number_X1_take : GoodIn wsX1_number (wsV RX1 36 RX1 yX1_take wsX1_take) := goodIn_app (goodIn_of _ (by decide +kernel)) ggX1_number_X1_take
theorem dX1_number_0 : decode cX1_number 0 = .ok (.aload_n 0, 1) := by decide +kernel
theorem dX1_number_1 : decode cX1_number 1 = .ok (.aload_n 0, 1) := by decide +kernel
theorem dX1_number_2 : decode cX1_number 2 = .ok (.getfield 43, 3) := by decide +kernel
theorem dX1_number_5 : decode cX1_number 5 = .ok (.iconst 2, 1) := by decide +kernel
theorem dX1_number_6 : decode cX1_number 6 = .ok (.if_icmp .ne 7, 3) := by decide +kernel
theorem dX1_number_9 : decode cX1_number 9 = .ok (.iconst 1, 1) := by decide +kernel
theorem dX1_number_10 : decode cX1_number 10 = .ok (.goto 4, 3) := by decide +kernel
theorem dX1_number_13 : decode cX1_number 13 = .ok (.iconst 0, 1) := by decide +kernel
theorem dX1_number_14 : decode cX1_number 14 = .ok (.iconst 1, 1) := by decide +kernel
theorem dX1_number_15 : decode cX1_number 15 = .ok (.invokevirtual 113, 3) := by decide +kernel
theorem dX1_number_18 : decode cX1_number 18 = .ok (.aload_n 0, 1) := by decide +kernel
theorem dX1_number_19 : decode cX1_number 19 = .ok (.aload_n 0, 1) := by decide +kernel
theorem dX1_number_20 : decode cX1_number 20 = .ok (.getfield 151, 3) := by decide +kernel
theorem dX1_number_23 : decode cX1_number 23 = .ok (.iload_n 1, 1) := by decide +kernel
theorem dX1_number_24 : decode cX1_number 24 = .ok (.if_icmp .lt 15, 3) := by decide +kernel
theorem dX1_number_27 : decode cX1_number 27 = .ok (.aload_n 0, 1) := by decide +kernel
theorem dX1_number_28 : decode cX1_number 28 = .ok (.getfield 151, 3) := by decide +kernel
theorem dX1_number_31 : decode cX1_number 31 = .ok (.iload_n 2, 1) := by decide +kernel
theorem dX1_number_32 : decode cX1_number 32 = .ok (.if_icmp .gt 7, 3) := by decide +kernel
theorem dX1_number_35 : decode cX1_number 35 = .ok (.iconst 1, 1) := by decide +kernel
theorem dX1_number_36 : decode cX1_number 36 = .ok (.goto 4, 3) := by decide +kernel
theorem dX1_number_39 : decode cX1_number 39 = .ok (.iconst 0, 1) := by decide +kernel
theorem dX1_number_40 : decode cX1_number 40 = .ok (.iconst 2, 1) := by decide +kernel
theorem dX1_number_41 : decode cX1_number 41 = .ok (.invokevirtual 113, 3) := by decide +kernel
theorem dX1_number_44 : decode cX1_number 44 = .ok (.aload_n 0, 1) := by decide +kernel
theorem dX1_number_45 : decode cX1_number 45 = .ok (.invokevirtual 36, 3) := by decide +kernel
theorem dX1_number_48 : decode cX1_number 48 = .ok (.ireturn, 1) := by decide +kernel
set_option maxRecDepth 20000 in
theorem ggX1_newName_X1_require : GoodIn wsX1_newName wsX1_require := goodIn_r _ [8, 9, 10, 11, 80, 81, 82, 83, 84, 85, 86, 87] (by decide +kernel) (by decide +kernel)
set_option maxRecDepth 20000 in
theorem gX1_newName_X1_require : GoodIn wsX1_newName (wsV RX1 113 RX1 yX1_require wsX1_require) := goodIn_app (goodIn_of _ (by decide +kernel)) ggX1_newName_X1_require
set_option maxRecDepth 20000 in
theorem ggX1_newName_X5_codeOfName : GoodIn wsX1_newName wsX5_codeOfName := goodIn_r _ [16, 17, 18, 19, 20, 21, 22, 23, 24, 25, 26, 27, 28, 29, 30, 31, 32, 33, 34, 35, 36, 37, 38, 39, 40, 41, 42, 43, 44, 88, 89, 90, 91, 92, 93, 94, 95, 96, 97, 98, 99, 100, 101, 102, 103, 104, 105, 106, 107, 108, 109, 110, 111, 112, 113, 114, 115, 116, 117, 118, 119, 120, 121] (by decide +kernel) (by decide +kernel)
set_option maxRecDepth 20000 in
theorem gX1_newName_X5_codeOfName : GoodIn wsX1_newName (wsV RX1 244 RX5 yX5_codeOfName wsX5_codeOfName) := goodIn_app (goodIn_of _ (by decide +kernel)) ggX1_newName_X5_codeOfName
set_option maxRecDepth 20000 in
theorem ggX1_newName_X1_take : GoodIn wsX1_newName wsX1_take := goodIn_r _ [48, 2, 9, 49, 50, 10, 1, 51, 52, 53, 54, 55, 56, 57, 58, 59, 60, 61, 62, 63, 64, 65, 66, 67, 68, 69, 70, 71, 72, 73, 74, 75, 76, 77, 78, 79, 80, 81, 82, 83, 84, 85, 86, 87, 122, 123] (by decide +kernel) (by decide +kernel)
set_option maxRecDepth 20000 in
theorem gX1_newName_X1_take : GoodIn wsX1_newName (wsV RX1 36 RX1 yX1_take wsX1_take) := goodIn_app (goodIn_of _ (by decide +kernel)) ggX1_newName_X1_take
theorem dX1_newName_0 : decode cX1_newName 0 = .ok (.aload_n 0, 1) := by decide +kernel
theorem dX1_newName_1 : decode cX1_newName 1 = .ok (.aload_n 0, 1) := by decide +kernel
theorem dX1_newName_2 : decode cX1_newName 2 = .ok (.getfield 43, 3) := by decide +kernel
theorem dX1_newName_5 : decode cX1_newName 5 = .ok (.iconst 1, 1) := by decide +kernel
theorem dX1_newName_6 : decode cX1_newName 6 = .ok (.if_icmp .ne 7, 3) := by decide +kernel
theorem dX1_newName_9 : decode cX1_newName 9 = .ok (.iconst 1, 1) := by decide +kernel
theorem dX1_newName_10 : decode cX1_newName 10 = .ok (.goto 4, 3) := by decide +kernel
theorem dX1_newName_13 : decode cX1_newName 13 = .ok (.iconst 0, 1) := by decide +kernel
theorem dX1_newName_14 : decode cX1_newName 14 = .ok (.iconst 1, 1) := by decide +kernel
theorem dX1_newName_15 : decode cX1_newName 15 = .ok (.invokevirtual 113, 3) := by decide +kernel
theorem dX1_newName_18 : decode cX1_newName 18 = .ok (.aload_n 0, 1) := by decide +kernel
theorem dX1_newName_19 : decode cX1_newName 19 = .ok (.aload_n 0, 1) := by decide +kernel
theorem dX1_newName_20 : decode cX1_newName 20 = .ok (.getfield 151, 3) := by decide +kernel
theorem dX1_newName_23 : decode cX1_newName 23 = .ok (.ifCond .eq 7, 3) := by decide +kernel
theorem dX1_newName_26 : decode cX1_newName 26 = .ok (.iconst 1, 1) := by decide +kernel
theorem dX1_newName_27 : decode cX1_newName 27 = .ok (.goto 4, 3) := by decide +kernel
theorem dX1_newName_30 : decode cX1_newName 30 = .ok (.iconst 0, 1) := by decide +kernel
theorem dX1_newName_31 : decode cX1_newName 31 = .ok (.iconst 2, 1) := by decide +kernel
theorem dX1_newName_32 : decode cX1_newName 32 = .ok (.invokevirtual 113, 3) := by decide +kernel
theorem dX1_newName_35 : decode cX1_newName 35 = .ok (.aload_n 0, 1) := by decide +kernel
theorem dX1_newName_36 : decode cX1_newName 36 = .ok (.aload_n 0, 1) := by decide +kernel
theorem dX1_newName_37 : decode cX1_newName 37 = .ok (.getfield 12, 3) := by decide +kernel
theorem dX1_newName_40 : decode cX1_newName 40 = .ok (.aload_n 0, 1) := by decide +kernel
theorem dX1_newName_41 : decode cX1_newName 41 = .ok (.getfield 151, 3) := by decide +kernel
theorem dX1_newName_44 : decode cX1_newName 44 = .ok (.invokevirtual 244, 3) := by decide +kernel
theorem dX1_newName_47 : decode cX1_newName 47 = .ok (.iconst (-1), 1) := by decide +kernel
theorem dX1_newName_48 : decode cX1_newName 48 = .ok (.if_icmp .ne 7, 3) := by decide +kernel
theorem dX1_newName_51 : decode cX1_newName 51 = .ok (.iconst 1, 1) := by decide +kernel
theorem dX1_newName_52 : decode cX1_newName 52 = .ok (.goto 4, 3) := by decide +kernel
theorem dX1_newName_55 : decode cX1_newName 55 = .ok (.iconst 0, 1) := by decide +kernel
theorem dX1_newName_56 : decode cX1_newName 56 = .ok (.iconst 3, 1) := by decide +kernel
theorem dX1_newName_57 : decode cX1_newName 57 = .ok (.invokevirtual 113, 3) := by decide +kernel
theorem dX1_newName_60 : decode cX1_newName 60 = .ok (.aload_n 0, 1) := by decide +kernel
theorem dX1_newName_61 : decode cX1_newName 61 = .ok (.invokevirtual 36, 3) := by decide +kernel
theorem dX1_newName_64 : decode cX1_newName 64 = .ok (.ireturn, 1) := by decide +kernel
set_option maxRecDepth 20000 in
theorem ggX1_knownName_X6_rowWith : GoodIn wsX1_knownName wsX6_rowWith := goodIn_r _ [8, 9, 10, 11, 12, 13, 7, 14, 15, 16, 17, 18, 19, 20, 21, 78, 79, 80, 81, 82, 83, 84, 85, 86, 87, 88, 89, 90, 91, 92, 93, 94, 95, 96, 97, 98, 99, 100, 101] (by decide +kernel) (by decide +kernel)
set_option maxRecDepth 20000 in
theorem gX1_knownName_X6_rowWith_u247X2 : GoodIn wsX1_knownName (va_wsU RX1 247 RX2 "TicketGate$Table" ⟨"TicketGate$Table", "rowWith", "(II)I"⟩ yX6_rowWith wsX6_rowWith) := goodIn_app (goodIn_of _ (by decide +kernel)) ggX1_knownName_X6_rowWith
set_option maxRecDepth 20000 in
theorem gX1_knownName_X6_rowWith_u247X3 : GoodIn wsX1_knownName (va_wsU RX1 247 RX3 "TicketGate$Table" ⟨"TicketGate$Table", "rowWith", "(II)I"⟩ yX6_rowWith wsX6_rowWith) := goodIn_app (goodIn_of _ (by decide +kernel)) ggX1_knownName_X6_rowWith
set_option maxRecDepth 20000 in
theorem gX1_knownName_X6_rowWith_u247X7 : GoodIn wsX1_knownName (va_wsU RX1 247 RX7 "TicketGate$Table" ⟨"TicketGate$Table", "rowWith", "(II)I"⟩ yX6_rowWith wsX6_rowWith) := goodIn_app (goodIn_of _ (by decide +kernel)) ggX1_knownName_X6_rowWith
set_option maxRecDepth 20000 in
theorem gX1_knownName_X6_rowWith_u247X8 : GoodIn wsX1_knownName (va_wsU RX1 247 RX8 "TicketGate$Table" ⟨"TicketGate$Table", "rowWith", "(II)I"⟩ yX6_rowWith wsX6_rowWith) := goodIn_app (goodIn_of _ (by decide +kernel)) ggX1_knownName_X6_rowWith
set_option maxRecDepth 20000 in
theorem gX1_knownName_X6_rowWith_u247X9 : GoodIn wsX1_knownName (va_wsU RX1 247 RX9 "TicketGate$Table" ⟨"TicketGate$Table", "rowWith", "(II)I"⟩ yX6_rowWith wsX6_rowWith) := goodIn_app (goodIn_of _ (by decide +kernel)) ggX1_knownName_X6_rowWith
set_option maxRecDepth 20000 in
theorem gX1_knownName_X6_rowWith_u247X10 : GoodIn wsX1_knownName (va_wsU RX1 247 RX10 "TicketGate$Table" ⟨"TicketGate$Table", "rowWith", "(II)I"⟩ yX6_rowWith wsX6_rowWith) := goodIn_app (goodIn_of _ (by decide +kernel)) ggX1_knownName_X6_rowWith
set_option maxRecDepth 20000 in
theorem ggX1_knownName_X1_require : GoodIn wsX1_knownName wsX1_require := goodIn_r _ [31, 32, 33, 34, 70, 71, 72, 73, 74, 75, 76, 77] (by decide +kernel) (by decide +kernel)
set_option maxRecDepth 20000 in
theorem gX1_knownName_X1_require : GoodIn wsX1_knownName (wsV RX1 113 RX1 yX1_require wsX1_require) := goodIn_app (goodIn_of _ (by decide +kernel)) ggX1_knownName_X1_require
set_option maxRecDepth 20000 in
theorem ggX1_knownName_X1_take : GoodIn wsX1_knownName wsX1_take := goodIn_r _ [38, 1, 32, 39, 40, 33, 2, 41, 42, 43, 44, 45, 46, 47, 48, 49, 50, 51, 52, 53, 54, 55, 56, 57, 58, 59, 60, 61, 62, 63, 64, 65, 66, 67, 68, 69, 70, 71, 72, 73, 74, 75, 76, 77, 102, 103] (by decide +kernel) (by decide +kernel)
set_option maxRecDepth 20000 in
theorem gX1_knownName_X1_take : GoodIn wsX1_knownName (wsV RX1 36 RX1 yX1_take wsX1_take) := goodIn_app (goodIn_of _ (by decide +kernel)) ggX1_knownName_X1_take
theorem dX1_knownName_0 : decode cX1_knownName 0 = .ok (.aload_n 1, 1) := by decide +kernel
theorem dX1_knownName_1 : decode cX1_knownName 1 = .ok (.iload_n 2, 1) := by decide +kernel
theorem dX1_knownName_2 : decode cX1_knownName 2 = .ok (.aload_n 0, 1) := by decide +kernel
theorem dX1_knownName_3 : decode cX1_knownName 3 = .ok (.getfield 151, 3) := by decide +kernel
theorem dX1_knownName_6 : decode cX1_knownName 6 = .ok (.invokevirtual 247, 3) := by decide +kernel
theorem dX1_knownName_9 : decode cX1_knownName 9 = .ok (.istore_n 3, 1) := by decide +kernel
theorem dX1_knownName_10 : decode cX1_knownName 10 = .ok (.aload_n 0, 1) := by decide +kernel
theorem dX1_knownName_11 : decode cX1_knownName 11 = .ok (.aload_n 0, 1) := by decide +kernel
theorem dX1_knownName_12 : decode cX1_knownName 12 = .ok (.getfield 43, 3) := by decide +kernel
theorem dX1_knownName_15 : decode cX1_knownName 15 = .ok (.iconst 1, 1) := by decide +kernel
theorem dX1_knownName_16 : decode cX1_knownName 16 = .ok (.if_icmp .ne 7, 3) := by decide +kernel
theorem dX1_knownName_19 : decode cX1_knownName 19 = .ok (.iconst 1, 1) := by decide +kernel
theorem dX1_knownName_20 : decode cX1_knownName 20 = .ok (.goto 4, 3) := by decide +kernel
theorem dX1_knownName_23 : decode cX1_knownName 23 = .ok (.iconst 0, 1) := by decide +kernel
theorem dX1_knownName_24 : decode cX1_knownName 24 = .ok (.iconst 1, 1) := by decide +kernel
theorem dX1_knownName_25 : decode cX1_knownName 25 = .ok (.invokevirtual 113, 3) := by decide +kernel
theorem dX1_knownName_28 : decode cX1_knownName 28 = .ok (.aload_n 0, 1) := by decide +kernel
theorem dX1_knownName_29 : decode cX1_knownName 29 = .ok (.iload_n 3, 1) := by decide +kernel
theorem dX1_knownName_30 : decode cX1_knownName 30 = .ok (.iconst (-1), 1) := by decide +kernel
theorem dX1_knownName_31 : decode cX1_knownName 31 = .ok (.if_icmp .eq 7, 3) := by decide +kernel
theorem dX1_knownName_34 : decode cX1_knownName 34 = .ok (.iconst 1, 1) := by decide +kernel
theorem dX1_knownName_35 : decode cX1_knownName 35 = .ok (.goto 4, 3) := by decide +kernel
theorem dX1_knownName_38 : decode cX1_knownName 38 = .ok (.iconst 0, 1) := by decide +kernel
theorem dX1_knownName_39 : decode cX1_knownName 39 = .ok (.iconst 4, 1) := by decide +kernel
theorem dX1_knownName_40 : decode cX1_knownName 40 = .ok (.invokevirtual 113, 3) := by decide +kernel
theorem dX1_knownName_43 : decode cX1_knownName 43 = .ok (.aload_n 0, 1) := by decide +kernel
theorem dX1_knownName_44 : decode cX1_knownName 44 = .ok (.invokevirtual 36, 3) := by decide +kernel
theorem dX1_knownName_47 : decode cX1_knownName 47 = .ok (.pop, 1) := by decide +kernel
theorem dX1_knownName_48 : decode cX1_knownName 48 = .ok (.iload_n 3, 1) := by decide +kernel
theorem dX1_knownName_49 : decode cX1_knownName 49 = .ok (.ireturn, 1) := by decide +kernel
set_option maxRecDepth 20000 in
theorem ggX1_knownTicket_X6_rowWith : GoodIn wsX1_knownTicket wsX6_rowWith := goodIn_r _ [9, 10, 11, 12, 13, 14, 8, 15, 16, 17, 18, 19, 20, 21, 22, 84, 85, 86, 87, 88, 89, 90, 91, 92, 93, 94, 95, 96, 97, 98, 99, 100, 101, 102, 103, 104, 105, 106, 107] (by decide +kernel) (by decide +kernel)
set_option maxRecDepth 20000 in
theorem gX1_knownTicket_X6_rowWith_u250X7 : GoodIn wsX1_knownTicket (va_wsU RX1 250 RX7 "TicketGate$Table" ⟨"TicketGate$Tickets", "rowWith", "(II)I"⟩ yX6_rowWith wsX6_rowWith) := goodIn_app (goodIn_of _ (by decide +kernel)) ggX1_knownTicket_X6_rowWith
set_option maxRecDepth 20000 in
theorem ggX1_knownTicket_X1_require : GoodIn wsX1_knownTicket wsX1_require := goodIn_r _ [27, 28, 29, 30, 66, 67, 68, 69, 70, 71, 72, 73] (by decide +kernel) (by decide +kernel)
set_option maxRecDepth 20000 in
theorem gX1_knownTicket_X1_require : GoodIn wsX1_knownTicket (wsV RX1 113 RX1 yX1_require wsX1_require) := goodIn_app (goodIn_of _ (by decide +kernel)) ggX1_knownTicket_X1_require
set_option maxRecDepth 20000 in
theorem ggX1_knownTicket_X1_take : GoodIn wsX1_knownTicket wsX1_take := goodIn_r _ [34, 2, 28, 35, 36, 29, 3, 37, 38, 39, 40, 41, 42, 43, 44, 45, 46, 47, 48, 49, 50, 51, 52, 53, 54, 55, 56, 57, 58, 59, 60, 61, 62, 63, 64, 65, 66, 67, 68, 69, 70, 71, 72, 73, 108, 109] (by decide +kernel) (by decide +kernel)
set_option maxRecDepth 20000 in
theorem gX1_knownTicket_X1_take : GoodIn wsX1_knownTicket (wsV RX1 36 RX1 yX1_take wsX1_take) := goodIn_app (goodIn_of _ (by decide +kernel)) ggX1_knownTicket_X1_take
theorem dX1_knownTicket_0 : decode cX1_knownTicket 0 = .ok (.aload_n 0, 1) := by decide +kernel
theorem dX1_knownTicket_1 : decode cX1_knownTicket 1 = .ok (.getfield 12, 3) := by decide +kernel
theorem dX1_knownTicket_4 : decode cX1_knownTicket 4 = .ok (.getfield 225, 3) := by decide +kernel
theorem dX1_knownTicket_7 : decode cX1_knownTicket 7 = .ok (.iconst 0, 1) := by decide +kernel
theorem dX1_knownTicket_8 : decode cX1_knownTicket 8 = .ok (.aload_n 0, 1) := by decide +kernel
theorem dX1_knownTicket_9 : decode cX1_knownTicket 9 = .ok (.getfield 151, 3) := by decide +kernel
theorem dX1_knownTicket_12 : decode cX1_knownTicket 12 = .ok (.invokevirtual 250, 3) := by decide +kernel
theorem dX1_knownTicket_15 : decode cX1_knownTicket 15 = .ok (.istore_n 1, 1) := by decide +kernel
theorem dX1_knownTicket_16 : decode cX1_knownTicket 16 = .ok (.aload_n 0, 1) := by decide +kernel
theorem dX1_knownTicket_17 : decode cX1_knownTicket 17 = .ok (.aload_n 0, 1) := by decide +kernel
theorem dX1_knownTicket_18 : decode cX1_knownTicket 18 = .ok (.getfield 43, 3) := by decide +kernel
theorem dX1_knownTicket_21 : decode cX1_knownTicket 21 = .ok (.iconst 2, 1) := by decide +kernel
theorem dX1_knownTicket_22 : decode cX1_knownTicket 22 = .ok (.if_icmp .ne 7, 3) := by decide +kernel
theorem dX1_knownTicket_25 : decode cX1_knownTicket 25 = .ok (.iconst 1, 1) := by decide +kernel
theorem dX1_knownTicket_26 : decode cX1_knownTicket 26 = .ok (.goto 4, 3) := by decide +kernel
theorem dX1_knownTicket_29 : decode cX1_knownTicket 29 = .ok (.iconst 0, 1) := by decide +kernel
theorem dX1_knownTicket_30 : decode cX1_knownTicket 30 = .ok (.iconst 1, 1) := by decide +kernel
theorem dX1_knownTicket_31 : decode cX1_knownTicket 31 = .ok (.invokevirtual 113, 3) := by decide +kernel
theorem dX1_knownTicket_34 : decode cX1_knownTicket 34 = .ok (.aload_n 0, 1) := by decide +kernel
theorem dX1_knownTicket_35 : decode cX1_knownTicket 35 = .ok (.iload_n 1, 1) := by decide +kernel
theorem dX1_knownTicket_36 : decode cX1_knownTicket 36 = .ok (.iconst (-1), 1) := by decide +kernel
theorem dX1_knownTicket_37 : decode cX1_knownTicket 37 = .ok (.if_icmp .eq 7, 3) := by decide +kernel
theorem dX1_knownTicket_40 : decode cX1_knownTicket 40 = .ok (.iconst 1, 1) := by decide +kernel
theorem dX1_knownTicket_41 : decode cX1_knownTicket 41 = .ok (.goto 4, 3) := by decide +kernel
theorem dX1_knownTicket_44 : decode cX1_knownTicket 44 = .ok (.iconst 0, 1) := by decide +kernel
theorem dX1_knownTicket_45 : decode cX1_knownTicket 45 = .ok (.iconst 4, 1) := by decide +kernel
theorem dX1_knownTicket_46 : decode cX1_knownTicket 46 = .ok (.invokevirtual 113, 3) := by decide +kernel
theorem dX1_knownTicket_49 : decode cX1_knownTicket 49 = .ok (.aload_n 0, 1) := by decide +kernel
theorem dX1_knownTicket_50 : decode cX1_knownTicket 50 = .ok (.invokevirtual 36, 3) := by decide +kernel
theorem dX1_knownTicket_53 : decode cX1_knownTicket 53 = .ok (.pop, 1) := by decide +kernel
theorem dX1_knownTicket_54 : decode cX1_knownTicket 54 = .ok (.iload_n 1, 1) := by decide +kernel
theorem dX1_knownTicket_55 : decode cX1_knownTicket 55 = .ok (.ireturn, 1) := by decide +kernel
set_option maxRecDepth 20000 in
theorem ggX1_clockWord_X1_isWord : GoodIn wsX1_clockWord wsX1_isWord := goodIn_r _ [5, 6, 7, 8, 9, 10, 11, 12, 13, 14, 15, 16, 17, 18, 19, 20, 21, 22, 23, 24, 25, 26, 27, 28, 29, 30, 31, 32, 33, 34, 35, 36, 37, 38, 39, 40, 41, 42, 43, 44, 45, 46, 47, 48, 49, 50, 51, 52, 53, 54, 55, 56, 57, 58, 59, 60, 61, 62, 63, 64, 65, 66, 67, 68, 69, 103, 104, 105, 106, 107, 108, 109, 110, 111, 112] (by decide +kernel) (by decide +kernel)
set_option maxRecDepth 20000 in
theorem gX1_clockWord_X1_isWord : GoodIn wsX1_clockWord (wsV RX1 51 RX1 yX1_isWord wsX1_isWord) := goodIn_app (goodIn_of _ (by decide +kernel)) ggX1_clockWord_X1_isWord
set_option maxRecDepth 20000 in
theorem ggX1_clockWord_X1_require : GoodIn wsX1_clockWord wsX1_require := goodIn_r _ [73, 74, 8, 75, 103, 104, 105, 106, 107, 108, 109, 110] (by decide +kernel) (by decide +kernel)
set_option maxRecDepth 20000 in
theorem gX1_clockWord_X1_require : GoodIn wsX1_clockWord (wsV RX1 113 RX1 yX1_require wsX1_require) := goodIn_app (goodIn_of _ (by decide +kernel)) ggX1_clockWord_X1_require
set_option maxRecDepth 20000 in
theorem ggX1_clockWord_X1_take : GoodIn wsX1_clockWord wsX1_take := goodIn_r _ [79, 80, 74, 7, 9, 8, 6, 81, 82, 83, 13, 84, 31, 27, 28, 29, 30, 32, 85, 86, 87, 88, 89, 90, 91, 92, 93, 94, 95, 96, 97, 98, 99, 100, 101, 102, 103, 104, 105, 106, 107, 108, 109, 110, 111, 112] (by decide +kernel) (by decide +kernel)
set_option maxRecDepth 20000 in
theorem gX1_clockWord_X1_take : GoodIn wsX1_clockWord (wsV RX1 36 RX1 yX1_take wsX1_take) := goodIn_app (goodIn_of _ (by decide +kernel)) ggX1_clockWord_X1_take
theorem dX1_clockWord_0 : decode cX1_clockWord 0 = .ok (.aload_n 0, 1) := by decide +kernel
theorem dX1_clockWord_1 : decode cX1_clockWord 1 = .ok (.ldc 251, 2) := by decide +kernel
theorem dX1_clockWord_3 : decode cX1_clockWord 3 = .ok (.invokevirtual 51, 3) := by decide +kernel
theorem dX1_clockWord_6 : decode cX1_clockWord 6 = .ok (.istore_n 1, 1) := by decide +kernel
theorem dX1_clockWord_7 : decode cX1_clockWord 7 = .ok (.aload_n 0, 1) := by decide +kernel
theorem dX1_clockWord_8 : decode cX1_clockWord 8 = .ok (.ldc 253, 2) := by decide +kernel
theorem dX1_clockWord_10 : decode cX1_clockWord 10 = .ok (.invokevirtual 51, 3) := by decide +kernel
theorem dX1_clockWord_13 : decode cX1_clockWord 13 = .ok (.istore_n 2, 1) := by decide +kernel
theorem dX1_clockWord_14 : decode cX1_clockWord 14 = .ok (.aload_n 0, 1) := by decide +kernel
theorem dX1_clockWord_15 : decode cX1_clockWord 15 = .ok (.iload_n 1, 1) := by decide +kernel
theorem dX1_clockWord_16 : decode cX1_clockWord 16 = .ok (.ifCond .ne 16, 3) := by decide +kernel
theorem dX1_clockWord_19 : decode cX1_clockWord 19 = .ok (.iload_n 2, 1) := by decide +kernel
theorem dX1_clockWord_20 : decode cX1_clockWord 20 = .ok (.ifCond .ne 12, 3) := by decide +kernel
theorem dX1_clockWord_23 : decode cX1_clockWord 23 = .ok (.aload_n 0, 1) := by decide +kernel
theorem dX1_clockWord_24 : decode cX1_clockWord 24 = .ok (.ldc 255, 2) := by decide +kernel
theorem dX1_clockWord_26 : decode cX1_clockWord 26 = .ok (.invokevirtual 51, 3) := by decide +kernel
theorem dX1_clockWord_29 : decode cX1_clockWord 29 = .ok (.ifCond .eq 7, 3) := by decide +kernel
theorem dX1_clockWord_32 : decode cX1_clockWord 32 = .ok (.iconst 1, 1) := by decide +kernel
theorem dX1_clockWord_33 : decode cX1_clockWord 33 = .ok (.goto 4, 3) := by decide +kernel
theorem dX1_clockWord_36 : decode cX1_clockWord 36 = .ok (.iconst 0, 1) := by decide +kernel
theorem dX1_clockWord_37 : decode cX1_clockWord 37 = .ok (.iconst 1, 1) := by decide +kernel
theorem dX1_clockWord_38 : decode cX1_clockWord 38 = .ok (.invokevirtual 113, 3) := by decide +kernel
theorem dX1_clockWord_41 : decode cX1_clockWord 41 = .ok (.aload_n 0, 1) := by decide +kernel
theorem dX1_clockWord_42 : decode cX1_clockWord 42 = .ok (.invokevirtual 36, 3) := by decide +kernel
theorem dX1_clockWord_45 : decode cX1_clockWord 45 = .ok (.pop, 1) := by decide +kernel
theorem dX1_clockWord_46 : decode cX1_clockWord 46 = .ok (.iload_n 2, 1) := by decide +kernel
theorem dX1_clockWord_47 : decode cX1_clockWord 47 = .ok (.ifCond .eq 5, 3) := by decide +kernel
theorem dX1_clockWord_50 : decode cX1_clockWord 50 = .ok (.iconst 0, 1) := by decide +kernel
theorem dX1_clockWord_51 : decode cX1_clockWord 51 = .ok (.ireturn, 1) := by decide +kernel
theorem dX1_clockWord_52 : decode cX1_clockWord 52 = .ok (.iload_n 1, 1) := by decide +kernel
theorem dX1_clockWord_53 : decode cX1_clockWord 53 = .ok (.ifCond .eq 7, 3) := by decide +kernel
theorem dX1_clockWord_56 : decode cX1_clockWord 56 = .ok (.iconst 1, 1) := by decide +kernel
theorem dX1_clockWord_57 : decode cX1_clockWord 57 = .ok (.goto 4, 3) := by decide +kernel
theorem dX1_clockWord_60 : decode cX1_clockWord 60 = .ok (.iconst (-1), 1) := by decide +kernel
theorem dX1_clockWord_61 : decode cX1_clockWord 61 = .ok (.ireturn, 1) := by decide +kernel
set_option maxRecDepth 20000 in
theorem ggX1_semicolon_X1_require : GoodIn wsX1_semicolon wsX1_require := goodIn_r _ [8, 3, 9, 10, 46, 47, 48, 49, 50, 51, 52, 53] (by decide +kernel) (by decide +kernel)
set_option maxRecDepth 20000 in
theorem gX1_semicolon_X1_require : GoodIn wsX1_semicolon (wsV RX1 113 RX1 yX1_require wsX1_require) := goodIn_app (goodIn_of _ (by decide +kernel)) ggX1_semicolon_X1_require
set_option maxRecDepth 20000 in
theorem ggX1_semicolon_X1_take : GoodIn wsX1_semicolon wsX1_take := goodIn_r _ [14, 2, 3, 15, 16, 9, 1, 17, 18, 19, 20, 21, 22, 23, 24, 25, 26, 27, 28, 29, 30, 31, 32, 33, 34, 35, 36, 37, 38, 39, 40, 41, 42, 43, 44, 45, 46, 47, 48, 49, 50, 51, 52, 53, 54, 55] (by decide +kernel) (by decide +kernel)
set_option maxRecDepth 20000 in
theorem gX1_semicolon_X1_take : GoodIn wsX1_semicolon (wsV RX1 36 RX1 yX1_take wsX1_take) := goodIn_app (goodIn_of _ (by decide +kernel)) ggX1_semicolon_X1_take
theorem dX1_semicolon_0 : decode cX1_semicolon 0 = .ok (.aload_n 0, 1) := by decide +kernel
theorem dX1_semicolon_1 : decode cX1_semicolon 1 = .ok (.aload_n 0, 1) := by decide +kernel
theorem dX1_semicolon_2 : decode cX1_semicolon 2 = .ok (.getfield 43, 3) := by decide +kernel
theorem dX1_semicolon_5 : decode cX1_semicolon 5 = .ok (.iconst 3, 1) := by decide +kernel
theorem dX1_semicolon_6 : decode cX1_semicolon 6 = .ok (.if_icmp .ne 16, 3) := by decide +kernel
theorem dX1_semicolon_9 : decode cX1_semicolon 9 = .ok (.aload_n 0, 1) := by decide +kernel
theorem dX1_semicolon_10 : decode cX1_semicolon 10 = .ok (.getfield 151, 3) := by decide +kernel
theorem dX1_semicolon_13 : decode cX1_semicolon 13 = .ok (.bipush 59, 2) := by decide +kernel
theorem dX1_semicolon_15 : decode cX1_semicolon 15 = .ok (.if_icmp .ne 7, 3) := by decide +kernel
theorem dX1_semicolon_18 : decode cX1_semicolon 18 = .ok (.iconst 1, 1) := by decide +kernel
theorem dX1_semicolon_19 : decode cX1_semicolon 19 = .ok (.goto 4, 3) := by decide +kernel
theorem dX1_semicolon_22 : decode cX1_semicolon 22 = .ok (.iconst 0, 1) := by decide +kernel
theorem dX1_semicolon_23 : decode cX1_semicolon 23 = .ok (.iconst 1, 1) := by decide +kernel
theorem dX1_semicolon_24 : decode cX1_semicolon 24 = .ok (.invokevirtual 113, 3) := by decide +kernel
theorem dX1_semicolon_27 : decode cX1_semicolon 27 = .ok (.aload_n 0, 1) := by decide +kernel
theorem dX1_semicolon_28 : decode cX1_semicolon 28 = .ok (.iload_n 1, 1) := by decide +kernel
theorem dX1_semicolon_29 : decode cX1_semicolon 29 = .ok (.bipush 6, 2) := by decide +kernel
theorem dX1_semicolon_31 : decode cX1_semicolon 31 = .ok (.invokevirtual 113, 3) := by decide +kernel
theorem dX1_semicolon_34 : decode cX1_semicolon 34 = .ok (.aload_n 0, 1) := by decide +kernel
theorem dX1_semicolon_35 : decode cX1_semicolon 35 = .ok (.invokevirtual 36, 3) := by decide +kernel
theorem dX1_semicolon_38 : decode cX1_semicolon 38 = .ok (.pop, 1) := by decide +kernel
theorem dX1_semicolon_39 : decode cX1_semicolon 39 = .ok (.aload_n 0, 1) := by decide +kernel
theorem dX1_semicolon_40 : decode cX1_semicolon 40 = .ok (.getfield 29, 3) := by decide +kernel
theorem dX1_semicolon_43 : decode cX1_semicolon 43 = .ok (.ifCond .ne 7, 3) := by decide +kernel
theorem dX1_semicolon_46 : decode cX1_semicolon 46 = .ok (.iconst 1, 1) := by decide +kernel
theorem dX1_semicolon_47 : decode cX1_semicolon 47 = .ok (.goto 4, 3) := by decide +kernel
theorem dX1_semicolon_50 : decode cX1_semicolon 50 = .ok (.iconst 0, 1) := by decide +kernel
theorem dX1_semicolon_51 : decode cX1_semicolon 51 = .ok (.ireturn, 1) := by decide +kernel
set_option maxRecDepth 20000 in
theorem ggX1_isWord_X0_isText : GoodIn wsX1_isWord wsX0_isText := goodIn_r _ [9, 10, 11, 12, 13, 14, 15, 16, 17, 18, 19, 20, 21, 22, 23, 24, 8, 25, 26, 27, 28, 29, 30, 31, 32, 33, 34, 35, 36, 37, 38, 39, 40, 41, 42, 43, 44, 45, 46, 47, 48, 49, 50, 51, 52, 53, 54, 55, 56, 57, 58, 59, 60, 61, 62, 63, 64, 73, 74] (by decide +kernel) (by decide +kernel)
set_option maxRecDepth 20000 in
theorem gX1_isWord_X0_isText : GoodIn wsX1_isWord (wsV RX1 260 RX0 yX0_isText wsX0_isText) := goodIn_app (goodIn_of _ (by decide +kernel)) ggX1_isWord_X0_isText
theorem dX1_isWord_0 : decode cX1_isWord 0 = .ok (.aload_n 0, 1) := by decide +kernel
theorem dX1_isWord_1 : decode cX1_isWord 1 = .ok (.getfield 43, 3) := by decide +kernel
theorem dX1_isWord_4 : decode cX1_isWord 4 = .ok (.iconst 1, 1) := by decide +kernel
theorem dX1_isWord_5 : decode cX1_isWord 5 = .ok (.if_icmp .ne 26, 3) := by decide +kernel
theorem dX1_isWord_8 : decode cX1_isWord 8 = .ok (.aload_n 0, 1) := by decide +kernel
theorem dX1_isWord_9 : decode cX1_isWord 9 = .ok (.getfield 22, 3) := by decide +kernel
theorem dX1_isWord_12 : decode cX1_isWord 12 = .ok (.aload_n 0, 1) := by decide +kernel
theorem dX1_isWord_13 : decode cX1_isWord 13 = .ok (.getfield 257, 3) := by decide +kernel
theorem dX1_isWord_16 : decode cX1_isWord 16 = .ok (.aload_n 0, 1) := by decide +kernel
theorem dX1_isWord_17 : decode cX1_isWord 17 = .ok (.getfield 26, 3) := by decide +kernel
theorem dX1_isWord_20 : decode cX1_isWord 20 = .ok (.aload_n 1, 1) := by decide +kernel
theorem dX1_isWord_21 : decode cX1_isWord 21 = .ok (.invokevirtual 260, 3) := by decide +kernel
theorem dX1_isWord_24 : decode cX1_isWord 24 = .ok (.ifCond .eq 7, 3) := by decide +kernel
theorem dX1_isWord_27 : decode cX1_isWord 27 = .ok (.iconst 1, 1) := by decide +kernel
theorem dX1_isWord_28 : decode cX1_isWord 28 = .ok (.goto 4, 3) := by decide +kernel
theorem dX1_isWord_31 : decode cX1_isWord 31 = .ok (.iconst 0, 1) := by decide +kernel
theorem dX1_isWord_32 : decode cX1_isWord 32 = .ok (.ireturn, 1) := by decide +kernel
theorem dX1_require_0 : decode cX1_require 0 = .ok (.aload_n 0, 1) := by decide +kernel
theorem dX1_require_1 : decode cX1_require 1 = .ok (.getfield 29, 3) := by decide +kernel
theorem dX1_require_4 : decode cX1_require 4 = .ok (.ifCond .ne 20, 3) := by decide +kernel
theorem dX1_require_7 : decode cX1_require 7 = .ok (.iload_n 1, 1) := by decide +kernel
theorem dX1_require_8 : decode cX1_require 8 = .ok (.ifCond .ne 16, 3) := by decide +kernel
theorem dX1_require_11 : decode cX1_require 11 = .ok (.aload_n 0, 1) := by decide +kernel
theorem dX1_require_12 : decode cX1_require 12 = .ok (.iload_n 2, 1) := by decide +kernel
theorem dX1_require_13 : decode cX1_require 13 = .ok (.putfield 29, 3) := by decide +kernel
theorem dX1_require_16 : decode cX1_require 16 = .ok (.aload_n 0, 1) := by decide +kernel
theorem dX1_require_17 : decode cX1_require 17 = .ok (.aload_n 0, 1) := by decide +kernel
theorem dX1_require_18 : decode cX1_require 18 = .ok (.getfield 257, 3) := by decide +kernel
theorem dX1_require_21 : decode cX1_require 21 = .ok (.putfield 18, 3) := by decide +kernel
theorem dX1_require_24 : decode cX1_require 24 = .ok (.return_, 1) := by decide +kernel
set_option maxRecDepth 20000 in
theorem ggX1_take_X0_endOfBlanks : GoodIn wsX1_take wsX0_endOfBlanks := goodIn_r _ [11, 12, 13, 14, 15, 10, 16, 17, 44, 45] (by decide +kernel) (by decide +kernel)
set_option maxRecDepth 20000 in
theorem gX1_take_X0_endOfBlanks : GoodIn wsX1_take (wsV RX1 266 RX0 yX0_endOfBlanks wsX0_endOfBlanks) := goodIn_app (goodIn_of _ (by decide +kernel)) ggX1_take_X0_endOfBlanks
set_option maxRecDepth 20000 in
theorem ggX1_take_X0_at : GoodIn wsX1_take wsX0_at := goodIn_r _ [16, 12, 17, 44, 45] (by decide +kernel) (by decide +kernel)
set_option maxRecDepth 20000 in
theorem gX1_take_X0_at : GoodIn wsX1_take (wsV RX1 269 RX0 yX0_at wsX0_at) := goodIn_app (goodIn_of _ (by decide +kernel)) ggX1_take_X0_at
set_option maxRecDepth 20000 in
theorem ggX1_take_X0_endOfRun : GoodIn wsX1_take wsX0_endOfRun := goodIn_r _ [22, 12, 13, 14, 15, 10, 16, 17, 44, 45] (by decide +kernel) (by decide +kernel)
set_option maxRecDepth 20000 in
theorem gX1_take_X0_endOfRun : GoodIn wsX1_take (wsV RX1 272 RX0 yX0_endOfRun wsX0_endOfRun) := goodIn_app (goodIn_of _ (by decide +kernel)) ggX1_take_X0_endOfRun
set_option maxRecDepth 20000 in
theorem ggX1_take_X0_nameBetween : GoodIn wsX1_take wsX0_nameBetween := goodIn_r _ [26, 13, 14, 15, 10, 16, 12, 17, 44, 45] (by decide +kernel) (by decide +kernel)
set_option maxRecDepth 20000 in
theorem gX1_take_X0_nameBetween : GoodIn wsX1_take (wsV RX1 276 RX0 yX0_nameBetween wsX0_nameBetween) := goodIn_app (goodIn_of _ (by decide +kernel)) ggX1_take_X0_nameBetween
set_option maxRecDepth 20000 in
theorem ggX1_take_X0_numberBetween : GoodIn wsX1_take wsX0_numberBetween := goodIn_r _ [30, 31, 32, 33, 34, 35, 13, 14, 15, 10, 16, 12, 17, 44, 45] (by decide +kernel) (by decide +kernel)
set_option maxRecDepth 20000 in
theorem gX1_take_X0_numberBetween : GoodIn wsX1_take (wsV RX1 279 RX0 yX0_numberBetween wsX0_numberBetween) := goodIn_app (goodIn_of _ (by decide +kernel)) ggX1_take_X0_numberBetween
theorem dX1_take_0 : decode cX1_take 0 = .ok (.aload_n 0, 1) := by decide +kernel
theorem dX1_take_1 : decode cX1_take 1 = .ok (.getfield 151, 3) := by decide +kernel
theorem dX1_take_4 : decode cX1_take 4 = .ok (.istore_n 1, 1) := by decide +kernel
theorem dX1_take_5 : decode cX1_take 5 = .ok (.aload_n 0, 1) := by decide +kernel
theorem dX1_take_6 : decode cX1_take 6 = .ok (.getfield 29, 3) := by decide +kernel
theorem dX1_take_9 : decode cX1_take 9 = .ok (.ifCond .eq 5, 3) := by decide +kernel
theorem dX1_take_12 : decode cX1_take 12 = .ok (.iload_n 1, 1) := by decide +kernel
theorem dX1_take_13 : decode cX1_take 13 = .ok (.ireturn, 1) := by decide +kernel
theorem dX1_take_14 : decode cX1_take 14 = .ok (.aload_n 0, 1) := by decide +kernel
theorem dX1_take_15 : decode cX1_take 15 = .ok (.aload_n 0, 1) := by decide +kernel
theorem dX1_take_16 : decode cX1_take 16 = .ok (.getfield 22, 3) := by decide +kernel
theorem dX1_take_19 : decode cX1_take 19 = .ok (.aload_n 0, 1) := by decide +kernel
theorem dX1_take_20 : decode cX1_take 20 = .ok (.getfield 26, 3) := by decide +kernel
theorem dX1_take_23 : decode cX1_take 23 = .ok (.invokevirtual 266, 3) := by decide +kernel
theorem dX1_take_26 : decode cX1_take 26 = .ok (.putfield 257, 3) := by decide +kernel
theorem dX1_take_29 : decode cX1_take 29 = .ok (.aload_n 0, 1) := by decide +kernel
theorem dX1_take_30 : decode cX1_take 30 = .ok (.getfield 22, 3) := by decide +kernel
theorem dX1_take_33 : decode cX1_take 33 = .ok (.aload_n 0, 1) := by decide +kernel
theorem dX1_take_34 : decode cX1_take 34 = .ok (.getfield 257, 3) := by decide +kernel
theorem dX1_take_37 : decode cX1_take 37 = .ok (.invokevirtual 269, 3) := by decide +kernel
theorem dX1_take_40 : decode cX1_take 40 = .ok (.istore_n 2, 1) := by decide +kernel
theorem dX1_take_41 : decode cX1_take 41 = .ok (.iload_n 2, 1) := by decide +kernel
theorem dX1_take_42 : decode cX1_take 42 = .ok (.iconst (-1), 1) := by decide +kernel
theorem dX1_take_43 : decode cX1_take 43 = .ok (.if_icmp .ne 24, 3) := by decide +kernel
theorem dX1_take_46 : decode cX1_take 46 = .ok (.aload_n 0, 1) := by decide +kernel
theorem dX1_take_47 : decode cX1_take 47 = .ok (.iconst 0, 1) := by decide +kernel
theorem dX1_take_48 : decode cX1_take 48 = .ok (.putfield 43, 3) := by decide +kernel
theorem dX1_take_51 : decode cX1_take 51 = .ok (.aload_n 0, 1) := by decide +kernel
theorem dX1_take_52 : decode cX1_take 52 = .ok (.aload_n 0, 1) := by decide +kernel
theorem dX1_take_53 : decode cX1_take 53 = .ok (.getfield 257, 3) := by decide +kernel
theorem dX1_take_56 : decode cX1_take 56 = .ok (.putfield 26, 3) := by decide +kernel
theorem dX1_take_59 : decode cX1_take 59 = .ok (.aload_n 0, 1) := by decide +kernel
theorem dX1_take_60 : decode cX1_take 60 = .ok (.iconst 0, 1) := by decide +kernel
theorem dX1_take_61 : decode cX1_take 61 = .ok (.putfield 151, 3) := by decide +kernel
theorem dX1_take_64 : decode cX1_take 64 = .ok (.goto 139, 3) := by decide +kernel
theorem dX1_take_67 : decode cX1_take 67 = .ok (.iload_n 2, 1) := by decide +kernel
theorem dX1_take_68 : decode cX1_take 68 = .ok (.bipush 97, 2) := by decide +kernel
theorem dX1_take_70 : decode cX1_take 70 = .ok (.if_icmp .lt 55, 3) := by decide +kernel
theorem dX1_take_73 : decode cX1_take 73 = .ok (.iload_n 2, 1) := by decide +kernel
theorem dX1_take_74 : decode cX1_take 74 = .ok (.bipush 122, 2) := by decide +kernel
theorem dX1_take_76 : decode cX1_take 76 = .ok (.if_icmp .gt 49, 3) := by decide +kernel
theorem dX1_take_79 : decode cX1_take 79 = .ok (.aload_n 0, 1) := by decide +kernel
theorem dX1_take_80 : decode cX1_take 80 = .ok (.iconst 1, 1) := by decide +kernel
theorem dX1_take_81 : decode cX1_take 81 = .ok (.putfield 43, 3) := by decide +kernel
theorem dX1_take_84 : decode cX1_take 84 = .ok (.aload_n 0, 1) := by decide +kernel
theorem dX1_take_85 : decode cX1_take 85 = .ok (.aload_n 0, 1) := by decide +kernel
theorem dX1_take_86 : decode cX1_take 86 = .ok (.getfield 22, 3) := by decide +kernel
theorem dX1_take_89 : decode cX1_take 89 = .ok (.aload_n 0, 1) := by decide +kernel
theorem dX1_take_90 : decode cX1_take 90 = .ok (.getfield 257, 3) := by decide +kernel
theorem dX1_take_93 : decode cX1_take 93 = .ok (.bipush 97, 2) := by decide +kernel
theorem dX1_take_95 : decode cX1_take 95 = .ok (.bipush 122, 2) := by decide +kernel
theorem dX1_take_97 : decode cX1_take 97 = .ok (.invokevirtual 272, 3) := by decide +kernel
theorem dX1_take_100 : decode cX1_take 100 = .ok (.putfield 26, 3) := by decide +kernel
theorem dX1_take_103 : decode cX1_take 103 = .ok (.aload_n 0, 1) := by decide +kernel
theorem dX1_take_104 : decode cX1_take 104 = .ok (.aload_n 0, 1) := by decide +kernel
theorem dX1_take_105 : decode cX1_take 105 = .ok (.getfield 22, 3) := by decide +kernel
theorem dX1_take_108 : decode cX1_take 108 = .ok (.aload_n 0, 1) := by decide +kernel
theorem dX1_take_109 : decode cX1_take 109 = .ok (.getfield 257, 3) := by decide +kernel
theorem dX1_take_112 : decode cX1_take 112 = .ok (.aload_n 0, 1) := by decide +kernel
theorem dX1_take_113 : decode cX1_take 113 = .ok (.getfield 26, 3) := by decide +kernel
theorem dX1_take_116 : decode cX1_take 116 = .ok (.invokevirtual 276, 3) := by decide +kernel
theorem dX1_take_119 : decode cX1_take 119 = .ok (.putfield 151, 3) := by decide +kernel
theorem dX1_take_122 : decode cX1_take 122 = .ok (.goto 81, 3) := by decide +kernel
theorem dX1_take_125 : decode cX1_take 125 = .ok (.iload_n 2, 1) := by decide +kernel
theorem dX1_take_126 : decode cX1_take 126 = .ok (.bipush 48, 2) := by decide +kernel
theorem dX1_take_128 : decode cX1_take 128 = .ok (.if_icmp .lt 55, 3) := by decide +kernel
theorem dX1_take_131 : decode cX1_take 131 = .ok (.iload_n 2, 1) := by decide +kernel
theorem dX1_take_132 : decode cX1_take 132 = .ok (.bipush 57, 2) := by decide +kernel
theorem dX1_take_134 : decode cX1_take 134 = .ok (.if_icmp .gt 49, 3) := by decide +kernel
theorem dX1_take_137 : decode cX1_take 137 = .ok (.aload_n 0, 1) := by decide +kernel
theorem dX1_take_138 : decode cX1_take 138 = .ok (.iconst 2, 1) := by decide +kernel
theorem dX1_take_139 : decode cX1_take 139 = .ok (.putfield 43, 3) := by decide +kernel
theorem dX1_take_142 : decode cX1_take 142 = .ok (.aload_n 0, 1) := by decide +kernel
theorem dX1_take_143 : decode cX1_take 143 = .ok (.aload_n 0, 1) := by decide +kernel
theorem dX1_take_144 : decode cX1_take 144 = .ok (.getfield 22, 3) := by decide +kernel
theorem dX1_take_147 : decode cX1_take 147 = .ok (.aload_n 0, 1) := by decide +kernel
theorem dX1_take_148 : decode cX1_take 148 = .ok (.getfield 257, 3) := by decide +kernel
theorem dX1_take_151 : decode cX1_take 151 = .ok (.bipush 48, 2) := by decide +kernel
theorem dX1_take_153 : decode cX1_take 153 = .ok (.bipush 57, 2) := by decide +kernel
theorem dX1_take_155 : decode cX1_take 155 = .ok (.invokevirtual 272, 3) := by decide +kernel
theorem dX1_take_158 : decode cX1_take 158 = .ok (.putfield 26, 3) := by decide +kernel
theorem dX1_take_161 : decode cX1_take 161 = .ok (.aload_n 0, 1) := by decide +kernel
theorem dX1_take_162 : decode cX1_take 162 = .ok (.aload_n 0, 1) := by decide +kernel
theorem dX1_take_163 : decode cX1_take 163 = .ok (.getfield 22, 3) := by decide +kernel
theorem dX1_take_166 : decode cX1_take 166 = .ok (.aload_n 0, 1) := by decide +kernel
theorem dX1_take_167 : decode cX1_take 167 = .ok (.getfield 257, 3) := by decide +kernel
theorem dX1_take_170 : decode cX1_take 170 = .ok (.aload_n 0, 1) := by decide +kernel
theorem dX1_take_171 : decode cX1_take 171 = .ok (.getfield 26, 3) := by decide +kernel
theorem dX1_take_174 : decode cX1_take 174 = .ok (.invokevirtual 279, 3) := by decide +kernel
theorem dX1_take_177 : decode cX1_take 177 = .ok (.putfield 151, 3) := by decide +kernel
theorem dX1_take_180 : decode cX1_take 180 = .ok (.goto 23, 3) := by decide +kernel
theorem dX1_take_183 : decode cX1_take 183 = .ok (.aload_n 0, 1) := by decide +kernel
theorem dX1_take_184 : decode cX1_take 184 = .ok (.iconst 3, 1) := by decide +kernel
theorem dX1_take_185 : decode cX1_take 185 = .ok (.putfield 43, 3) := by decide +kernel
theorem dX1_take_188 : decode cX1_take 188 = .ok (.aload_n 0, 1) := by decide +kernel
theorem dX1_take_189 : decode cX1_take 189 = .ok (.aload_n 0, 1) := by decide +kernel
theorem dX1_take_190 : decode cX1_take 190 = .ok (.getfield 257, 3) := by decide +kernel
theorem dX1_take_193 : decode cX1_take 193 = .ok (.iconst 1, 1) := by decide +kernel
theorem dX1_take_194 : decode cX1_take 194 = .ok (.iadd, 1) := by decide +kernel
theorem dX1_take_195 : decode cX1_take 195 = .ok (.putfield 26, 3) := by decide +kernel
theorem dX1_take_198 : decode cX1_take 198 = .ok (.aload_n 0, 1) := by decide +kernel
theorem dX1_take_199 : decode cX1_take 199 = .ok (.iload_n 2, 1) := by decide +kernel
theorem dX1_take_200 : decode cX1_take 200 = .ok (.putfield 151, 3) := by decide +kernel
theorem dX1_take_203 : decode cX1_take 203 = .ok (.iload_n 1, 1) := by decide +kernel
theorem dX1_take_204 : decode cX1_take 204 = .ok (.ireturn, 1) := by decide +kernel
set_option maxRecDepth 20000 in
theorem ggX2_init_X6_init : GoodIn wsX2_init wsX6_init := goodIn_r _ [4, 5, 6, 7, 8, 9, 10, 11, 12, 13, 14, 15, 16, 17, 18, 19, 20, 21, 22, 23, 24, 25, 26, 27, 28, 29, 30, 31, 32, 33, 34, 35, 36, 37, 38, 39] (by decide +kernel) (by decide +kernel)
set_option maxRecDepth 20000 in
theorem gX2_init_X6_init : GoodIn wsX2_init (wsX6_init) := ggX2_init_X6_init
theorem dX2_init_0 : decode cX2_init 0 = .ok (.aload_n 0, 1) := by decide +kernel
theorem dX2_init_1 : decode cX2_init 1 = .ok (.iconst 5, 1) := by decide +kernel
theorem dX2_init_2 : decode cX2_init 2 = .ok (.iconst 5, 1) := by decide +kernel
theorem dX2_init_3 : decode cX2_init 3 = .ok (.invokespecial 5, 3) := by decide +kernel
theorem dX2_init_6 : decode cX2_init 6 = .ok (.return_, 1) := by decide +kernel
set_option maxRecDepth 20000 in
theorem ggX2_addRealm_X6_addRow : GoodIn wsX2_addRealm wsX6_addRow := goodIn_r _ [6, 7, 8, 16, 17, 18, 19, 20, 21, 22, 23, 24, 25, 26, 27, 28, 29, 30, 31, 32, 33, 34, 35, 36, 37, 38, 39] (by decide +kernel) (by decide +kernel)
set_option maxRecDepth 20000 in
theorem gX2_addRealm_X6_addRow_u11X2 : GoodIn wsX2_addRealm (va_wsU RX2 11 RX2 "TicketGate$Table" ⟨"TicketGate$Realms", "addRow", "()I"⟩ yX6_addRow wsX6_addRow) := goodIn_app (goodIn_of _ (by decide +kernel)) ggX2_addRealm_X6_addRow
set_option maxRecDepth 20000 in
theorem ggX2_addRealm_X6_set : GoodIn wsX2_addRealm wsX6_set := goodIn_r _ [13, 14, 7, 15, 16, 17, 18, 19, 20, 21, 22, 23, 24, 25, 26, 27, 28, 29, 30, 31, 32, 33, 34, 35, 36, 37, 38, 39] (by decide +kernel) (by decide +kernel)
set_option maxRecDepth 20000 in
theorem gX2_addRealm_X6_set_u15X2 : GoodIn wsX2_addRealm (va_wsU RX2 15 RX2 "TicketGate$Table" ⟨"TicketGate$Realms", "set", "(III)V"⟩ yX6_set wsX6_set) := goodIn_app (goodIn_of _ (by decide +kernel)) ggX2_addRealm_X6_set
theorem dX2_addRealm_0 : decode cX2_addRealm 0 = .ok (.aload_n 0, 1) := by decide +kernel
theorem dX2_addRealm_1 : decode cX2_addRealm 1 = .ok (.invokevirtual 11, 3) := by decide +kernel
theorem dX2_addRealm_4 : decode cX2_addRealm 4 = .ok (.istore 5, 2) := by decide +kernel
theorem dX2_addRealm_6 : decode cX2_addRealm 6 = .ok (.aload_n 0, 1) := by decide +kernel
theorem dX2_addRealm_7 : decode cX2_addRealm 7 = .ok (.iload 5, 2) := by decide +kernel
theorem dX2_addRealm_9 : decode cX2_addRealm 9 = .ok (.iconst 0, 1) := by decide +kernel
theorem dX2_addRealm_10 : decode cX2_addRealm 10 = .ok (.iload_n 1, 1) := by decide +kernel
theorem dX2_addRealm_11 : decode cX2_addRealm 11 = .ok (.invokevirtual 15, 3) := by decide +kernel
theorem dX2_addRealm_14 : decode cX2_addRealm 14 = .ok (.aload_n 0, 1) := by decide +kernel
theorem dX2_addRealm_15 : decode cX2_addRealm 15 = .ok (.iload 5, 2) := by decide +kernel
theorem dX2_addRealm_17 : decode cX2_addRealm 17 = .ok (.iconst 1, 1) := by decide +kernel
theorem dX2_addRealm_18 : decode cX2_addRealm 18 = .ok (.iload_n 2, 1) := by decide +kernel
theorem dX2_addRealm_19 : decode cX2_addRealm 19 = .ok (.invokevirtual 15, 3) := by decide +kernel
theorem dX2_addRealm_22 : decode cX2_addRealm 22 = .ok (.aload_n 0, 1) := by decide +kernel
theorem dX2_addRealm_23 : decode cX2_addRealm 23 = .ok (.iload 5, 2) := by decide +kernel
theorem dX2_addRealm_25 : decode cX2_addRealm 25 = .ok (.iconst 2, 1) := by decide +kernel
theorem dX2_addRealm_26 : decode cX2_addRealm 26 = .ok (.iload_n 3, 1) := by decide +kernel
theorem dX2_addRealm_27 : decode cX2_addRealm 27 = .ok (.invokevirtual 15, 3) := by decide +kernel
theorem dX2_addRealm_30 : decode cX2_addRealm 30 = .ok (.aload_n 0, 1) := by decide +kernel
theorem dX2_addRealm_31 : decode cX2_addRealm 31 = .ok (.iload 5, 2) := by decide +kernel
theorem dX2_addRealm_33 : decode cX2_addRealm 33 = .ok (.iconst 3, 1) := by decide +kernel
theorem dX2_addRealm_34 : decode cX2_addRealm 34 = .ok (.iload 4, 2) := by decide +kernel
theorem dX2_addRealm_36 : decode cX2_addRealm 36 = .ok (.invokevirtual 15, 3) := by decide +kernel
theorem dX2_addRealm_39 : decode cX2_addRealm 39 = .ok (.aload_n 0, 1) := by decide +kernel
theorem dX2_addRealm_40 : decode cX2_addRealm 40 = .ok (.iload 5, 2) := by decide +kernel
theorem dX2_addRealm_42 : decode cX2_addRealm 42 = .ok (.iconst 4, 1) := by decide +kernel
theorem dX2_addRealm_43 : decode cX2_addRealm 43 = .ok (.iconst 0, 1) := by decide +kernel
theorem dX2_addRealm_44 : decode cX2_addRealm 44 = .ok (.invokevirtual 15, 3) := by decide +kernel
theorem dX2_addRealm_47 : decode cX2_addRealm 47 = .ok (.return_, 1) := by decide +kernel
set_option maxRecDepth 20000 in
theorem ggX2_addTrust_X6_get : GoodIn wsX2_addTrust wsX6_get := goodIn_r _ [6, 7, 8, 9, 15, 16, 17, 18, 19, 20, 21, 22, 23, 24, 25, 26, 27, 28, 29, 30, 31, 32, 33, 34, 35, 36, 37, 38] (by decide +kernel) (by decide +kernel)
set_option maxRecDepth 20000 in
theorem gX2_addTrust_X6_get_u19X2 : GoodIn wsX2_addTrust (va_wsU RX2 19 RX2 "TicketGate$Table" ⟨"TicketGate$Realms", "get", "(II)I"⟩ yX6_get wsX6_get) := goodIn_app (goodIn_of _ (by decide +kernel)) ggX2_addTrust_X6_get
set_option maxRecDepth 20000 in
theorem ggX2_addTrust_X6_set : GoodIn wsX2_addTrust wsX6_set := goodIn_r _ [14, 7, 8, 9, 15, 16, 17, 18, 19, 20, 21, 22, 23, 24, 25, 26, 27, 28, 29, 30, 31, 32, 33, 34, 35, 36, 37, 38] (by decide +kernel) (by decide +kernel)
set_option maxRecDepth 20000 in
theorem gX2_addTrust_X6_set_u15X2 : GoodIn wsX2_addTrust (va_wsU RX2 15 RX2 "TicketGate$Table" ⟨"TicketGate$Realms", "set", "(III)V"⟩ yX6_set wsX6_set) := goodIn_app (goodIn_of _ (by decide +kernel)) ggX2_addTrust_X6_set
theorem dX2_addTrust_0 : decode cX2_addTrust 0 = .ok (.aload_n 0, 1) := by decide +kernel
theorem dX2_addTrust_1 : decode cX2_addTrust 1 = .ok (.iload_n 1, 1) := by decide +kernel
theorem dX2_addTrust_2 : decode cX2_addTrust 2 = .ok (.iconst 4, 1) := by decide +kernel
theorem dX2_addTrust_3 : decode cX2_addTrust 3 = .ok (.aload_n 0, 1) := by decide +kernel
theorem dX2_addTrust_4 : decode cX2_addTrust 4 = .ok (.iload_n 1, 1) := by decide +kernel
theorem dX2_addTrust_5 : decode cX2_addTrust 5 = .ok (.iconst 4, 1) := by decide +kernel
theorem dX2_addTrust_6 : decode cX2_addTrust 6 = .ok (.invokevirtual 19, 3) := by decide +kernel
theorem dX2_addTrust_9 : decode cX2_addTrust 9 = .ok (.iconst 1, 1) := by decide +kernel
theorem dX2_addTrust_10 : decode cX2_addTrust 10 = .ok (.iload_n 2, 1) := by decide +kernel
theorem dX2_addTrust_11 : decode cX2_addTrust 11 = .ok (.ishl, 1) := by decide +kernel
theorem dX2_addTrust_12 : decode cX2_addTrust 12 = .ok (.ior, 1) := by decide +kernel
theorem dX2_addTrust_13 : decode cX2_addTrust 13 = .ok (.invokevirtual 15, 3) := by decide +kernel
theorem dX2_addTrust_16 : decode cX2_addTrust 16 = .ok (.return_, 1) := by decide +kernel
set_option maxRecDepth 20000 in
theorem ggX2_hasTrust_X6_get : GoodIn wsX2_hasTrust wsX6_get := goodIn_r _ [6, 7, 8, 9, 10, 11, 12, 13, 14, 15, 16, 17, 18, 19, 20, 21, 22, 23, 24, 25, 26, 27, 28, 29, 30, 31, 32, 33] (by decide +kernel) (by decide +kernel)
set_option maxRecDepth 20000 in
theorem gX2_hasTrust_X6_get_u19X2 : GoodIn wsX2_hasTrust (va_wsU RX2 19 RX2 "TicketGate$Table" ⟨"TicketGate$Realms", "get", "(II)I"⟩ yX6_get wsX6_get) := goodIn_app (goodIn_of _ (by decide +kernel)) ggX2_hasTrust_X6_get
theorem dX2_hasTrust_0 : decode cX2_hasTrust 0 = .ok (.aload_n 0, 1) := by decide +kernel
theorem dX2_hasTrust_1 : decode cX2_hasTrust 1 = .ok (.iload_n 1, 1) := by decide +kernel
theorem dX2_hasTrust_2 : decode cX2_hasTrust 2 = .ok (.iconst 4, 1) := by decide +kernel
theorem dX2_hasTrust_3 : decode cX2_hasTrust 3 = .ok (.invokevirtual 19, 3) := by decide +kernel
theorem dX2_hasTrust_6 : decode cX2_hasTrust 6 = .ok (.iload_n 2, 1) := by decide +kernel
theorem dX2_hasTrust_7 : decode cX2_hasTrust 7 = .ok (.ishr, 1) := by decide +kernel
theorem dX2_hasTrust_8 : decode cX2_hasTrust 8 = .ok (.iconst 1, 1) := by decide +kernel
theorem dX2_hasTrust_9 : decode cX2_hasTrust 9 = .ok (.iand, 1) := by decide +kernel
theorem dX2_hasTrust_10 : decode cX2_hasTrust 10 = .ok (.iconst 1, 1) := by decide +kernel
theorem dX2_hasTrust_11 : decode cX2_hasTrust 11 = .ok (.if_icmp .ne 7, 3) := by decide +kernel
theorem dX2_hasTrust_14 : decode cX2_hasTrust 14 = .ok (.iconst 1, 1) := by decide +kernel
theorem dX2_hasTrust_15 : decode cX2_hasTrust 15 = .ok (.goto 4, 3) := by decide +kernel
theorem dX2_hasTrust_18 : decode cX2_hasTrust 18 = .ok (.iconst 0, 1) := by decide +kernel
theorem dX2_hasTrust_19 : decode cX2_hasTrust 19 = .ok (.ireturn, 1) := by decide +kernel
set_option maxRecDepth 20000 in
theorem ggX2_referrals_X2_trustedBySome : GoodIn wsX2_referrals wsX2_trustedBySome := goodIn_r _ [5, 6, 7, 8, 9, 10, 11, 12, 13, 14, 15, 16, 17, 18, 19, 20, 21, 22, 23, 24, 25, 26, 27, 28, 29, 30, 31, 32, 33, 34, 35, 36, 37, 38, 39, 40, 41, 42, 43] (by decide +kernel) (by decide +kernel)
set_option maxRecDepth 20000 in
theorem gX2_referrals_X2_trustedBySome : GoodIn wsX2_referrals (wsV RX2 23 RX2 yX2_trustedBySome wsX2_trustedBySome) := goodIn_app (goodIn_of _ (by decide +kernel)) ggX2_referrals_X2_trustedBySome
theorem dX2_referrals_0 : decode cX2_referrals 0 = .ok (.iconst 1, 1) := by decide +kernel
theorem dX2_referrals_1 : decode cX2_referrals 1 = .ok (.iload_n 1, 1) := by decide +kernel
theorem dX2_referrals_2 : decode cX2_referrals 2 = .ok (.ishl, 1) := by decide +kernel
theorem dX2_referrals_3 : decode cX2_referrals 3 = .ok (.istore_n 3, 1) := by decide +kernel
theorem dX2_referrals_4 : decode cX2_referrals 4 = .ok (.iconst 0, 1) := by decide +kernel
theorem dX2_referrals_5 : decode cX2_referrals 5 = .ok (.istore 4, 2) := by decide +kernel
theorem dX2_referrals_7 : decode cX2_referrals 7 = .ok (.iload 4, 2) := by decide +kernel
theorem dX2_referrals_9 : decode cX2_referrals 9 = .ok (.iconst 5, 1) := by decide +kernel
theorem dX2_referrals_10 : decode cX2_referrals 10 = .ok (.if_icmp .ge 29, 3) := by decide +kernel
theorem dX2_referrals_13 : decode cX2_referrals 13 = .ok (.iload_n 3, 1) := by decide +kernel
theorem dX2_referrals_14 : decode cX2_referrals 14 = .ok (.iload_n 2, 1) := by decide +kernel
theorem dX2_referrals_15 : decode cX2_referrals 15 = .ok (.ishr, 1) := by decide +kernel
theorem dX2_referrals_16 : decode cX2_referrals 16 = .ok (.iconst 1, 1) := by decide +kernel
theorem dX2_referrals_17 : decode cX2_referrals 17 = .ok (.iand, 1) := by decide +kernel
theorem dX2_referrals_18 : decode cX2_referrals 18 = .ok (.iconst 1, 1) := by decide +kernel
theorem dX2_referrals_19 : decode cX2_referrals 19 = .ok (.if_icmp .ne 6, 3) := by decide +kernel
theorem dX2_referrals_22 : decode cX2_referrals 22 = .ok (.iload 4, 2) := by decide +kernel
theorem dX2_referrals_24 : decode cX2_referrals 24 = .ok (.ireturn, 1) := by decide +kernel
theorem dX2_referrals_25 : decode cX2_referrals 25 = .ok (.iload_n 3, 1) := by decide +kernel
theorem dX2_referrals_26 : decode cX2_referrals 26 = .ok (.aload_n 0, 1) := by decide +kernel
theorem dX2_referrals_27 : decode cX2_referrals 27 = .ok (.iload_n 3, 1) := by decide +kernel
theorem dX2_referrals_28 : decode cX2_referrals 28 = .ok (.invokevirtual 23, 3) := by decide +kernel
theorem dX2_referrals_31 : decode cX2_referrals 31 = .ok (.ior, 1) := by decide +kernel
theorem dX2_referrals_32 : decode cX2_referrals 32 = .ok (.istore_n 3, 1) := by decide +kernel
theorem dX2_referrals_33 : decode cX2_referrals 33 = .ok (.iinc 4 1, 3) := by decide +kernel
theorem dX2_referrals_36 : decode cX2_referrals 36 = .ok (.goto (-29), 3) := by decide +kernel
theorem dX2_referrals_39 : decode cX2_referrals 39 = .ok (.iconst (-1), 1) := by decide +kernel
theorem dX2_referrals_40 : decode cX2_referrals 40 = .ok (.ireturn, 1) := by decide +kernel
set_option maxRecDepth 20000 in
theorem ggX2_trustedBySome_X6_size : GoodIn wsX2_trustedBySome wsX6_size := goodIn_r _ [6, 7, 15, 16, 17, 18, 19, 20, 21, 22, 23, 24, 25, 26, 27, 28, 29, 30, 31, 32, 33, 34, 35, 36, 37, 38] (by decide +kernel) (by decide +kernel)
set_option maxRecDepth 20000 in
theorem gX2_trustedBySome_X6_size_u27X2 : GoodIn wsX2_trustedBySome (va_wsU RX2 27 RX2 "TicketGate$Table" ⟨"TicketGate$Realms", "size", "()I"⟩ yX6_size wsX6_size) := goodIn_app (goodIn_of _ (by decide +kernel)) ggX2_trustedBySome_X6_size
set_option maxRecDepth 20000 in
theorem ggX2_trustedBySome_X6_get : GoodIn wsX2_trustedBySome wsX6_get := goodIn_r _ [12, 13, 7, 14, 15, 16, 17, 18, 19, 20, 21, 22, 23, 24, 25, 26, 27, 28, 29, 30, 31, 32, 33, 34, 35, 36, 37, 38] (by decide +kernel) (by decide +kernel)
set_option maxRecDepth 20000 in
theorem gX2_trustedBySome_X6_get_u19X2 : GoodIn wsX2_trustedBySome (va_wsU RX2 19 RX2 "TicketGate$Table" ⟨"TicketGate$Realms", "get", "(II)I"⟩ yX6_get wsX6_get) := goodIn_app (goodIn_of _ (by decide +kernel)) ggX2_trustedBySome_X6_get
theorem dX2_trustedBySome_0 : decode cX2_trustedBySome 0 = .ok (.iconst 0, 1) := by decide +kernel
theorem dX2_trustedBySome_1 : decode cX2_trustedBySome 1 = .ok (.istore_n 2, 1) := by decide +kernel
theorem dX2_trustedBySome_2 : decode cX2_trustedBySome 2 = .ok (.iconst 0, 1) := by decide +kernel
theorem dX2_trustedBySome_3 : decode cX2_trustedBySome 3 = .ok (.istore_n 3, 1) := by decide +kernel
theorem dX2_trustedBySome_4 : decode cX2_trustedBySome 4 = .ok (.iload_n 3, 1) := by decide +kernel
theorem dX2_trustedBySome_5 : decode cX2_trustedBySome 5 = .ok (.aload_n 0, 1) := by decide +kernel
theorem dX2_trustedBySome_6 : decode cX2_trustedBySome 6 = .ok (.invokevirtual 27, 3) := by decide +kernel
theorem dX2_trustedBySome_9 : decode cX2_trustedBySome 9 = .ok (.if_icmp .ge 27, 3) := by decide +kernel
theorem dX2_trustedBySome_12 : decode cX2_trustedBySome 12 = .ok (.iload_n 1, 1) := by decide +kernel
theorem dX2_trustedBySome_13 : decode cX2_trustedBySome 13 = .ok (.iload_n 3, 1) := by decide +kernel
theorem dX2_trustedBySome_14 : decode cX2_trustedBySome 14 = .ok (.ishr, 1) := by decide +kernel
theorem dX2_trustedBySome_15 : decode cX2_trustedBySome 15 = .ok (.iconst 1, 1) := by decide +kernel
theorem dX2_trustedBySome_16 : decode cX2_trustedBySome 16 = .ok (.iand, 1) := by decide +kernel
theorem dX2_trustedBySome_17 : decode cX2_trustedBySome 17 = .ok (.iconst 1, 1) := by decide +kernel
theorem dX2_trustedBySome_18 : decode cX2_trustedBySome 18 = .ok (.if_icmp .ne 12, 3) := by decide +kernel
theorem dX2_trustedBySome_21 : decode cX2_trustedBySome 21 = .ok (.iload_n 2, 1) := by decide +kernel
theorem dX2_trustedBySome_22 : decode cX2_trustedBySome 22 = .ok (.aload_n 0, 1) := by decide +kernel
theorem dX2_trustedBySome_23 : decode cX2_trustedBySome 23 = .ok (.iload_n 3, 1) := by decide +kernel
theorem dX2_trustedBySome_24 : decode cX2_trustedBySome 24 = .ok (.iconst 4, 1) := by decide +kernel
theorem dX2_trustedBySome_25 : decode cX2_trustedBySome 25 = .ok (.invokevirtual 19, 3) := by decide +kernel
theorem dX2_trustedBySome_28 : decode cX2_trustedBySome 28 = .ok (.ior, 1) := by decide +kernel
theorem dX2_trustedBySome_29 : decode cX2_trustedBySome 29 = .ok (.istore_n 2, 1) := by decide +kernel
theorem dX2_trustedBySome_30 : decode cX2_trustedBySome 30 = .ok (.iinc 3 1, 3) := by decide +kernel
theorem dX2_trustedBySome_33 : decode cX2_trustedBySome 33 = .ok (.goto (-29), 3) := by decide +kernel
theorem dX2_trustedBySome_36 : decode cX2_trustedBySome 36 = .ok (.iload_n 2, 1) := by decide +kernel
theorem dX2_trustedBySome_37 : decode cX2_trustedBySome 37 = .ok (.ireturn, 1) := by decide +kernel
set_option maxRecDepth 20000 in
theorem ggX2_firstOnWay_X2_referrals : GoodIn wsX2_firstOnWay wsX2_referrals := goodIn_r _ [5, 6, 7, 8, 4, 9, 10, 11, 12, 13, 14, 15, 16, 17, 18, 19, 20, 21, 22, 23, 28, 29, 30, 31, 32, 33, 34, 35, 36, 37, 38, 39, 40, 41, 42, 43, 44, 45, 46, 47, 48, 49, 50, 51] (by decide +kernel) (by decide +kernel)
set_option maxRecDepth 20000 in
theorem gX2_firstOnWay_X2_referrals : GoodIn wsX2_firstOnWay (wsV RX2 30 RX2 yX2_referrals wsX2_referrals) := goodIn_app (goodIn_of _ (by decide +kernel)) ggX2_firstOnWay_X2_referrals
set_option maxRecDepth 20000 in
theorem ggX2_firstOnWay_X6_size : GoodIn wsX2_firstOnWay wsX6_size := goodIn_r _ [15, 16, 28, 29, 30, 31, 32, 33, 34, 35, 36, 37, 38, 39, 40, 41, 42, 43, 44, 45, 46, 47, 48, 49, 50, 51] (by decide +kernel) (by decide +kernel)
set_option maxRecDepth 20000 in
theorem gX2_firstOnWay_X6_size_u27X2 : GoodIn wsX2_firstOnWay (va_wsU RX2 27 RX2 "TicketGate$Table" ⟨"TicketGate$Realms", "size", "()I"⟩ yX6_size wsX6_size) := goodIn_app (goodIn_of _ (by decide +kernel)) ggX2_firstOnWay_X6_size
set_option maxRecDepth 20000 in
theorem ggX2_firstOnWay_X2_hasTrust : GoodIn wsX2_firstOnWay wsX2_hasTrust := goodIn_r _ [27, 17, 18, 19, 20, 14, 21, 22, 16, 23, 28, 29, 30, 31, 32, 33, 34, 35, 36, 37, 38, 39, 40, 41, 42, 43, 44, 45, 46, 47, 48, 49, 50, 51] (by decide +kernel) (by decide +kernel)
set_option maxRecDepth 20000 in
theorem gX2_firstOnWay_X2_hasTrust : GoodIn wsX2_firstOnWay (wsV RX2 33 RX2 yX2_hasTrust wsX2_hasTrust) := goodIn_app (goodIn_of _ (by decide +kernel)) ggX2_firstOnWay_X2_hasTrust
theorem dX2_firstOnWay_0 : decode cX2_firstOnWay 0 = .ok (.aload_n 0, 1) := by decide +kernel
theorem dX2_firstOnWay_1 : decode cX2_firstOnWay 1 = .ok (.iload_n 1, 1) := by decide +kernel
theorem dX2_firstOnWay_2 : decode cX2_firstOnWay 2 = .ok (.iload_n 2, 1) := by decide +kernel
theorem dX2_firstOnWay_3 : decode cX2_firstOnWay 3 = .ok (.invokevirtual 30, 3) := by decide +kernel
theorem dX2_firstOnWay_6 : decode cX2_firstOnWay 6 = .ok (.istore_n 3, 1) := by decide +kernel
theorem dX2_firstOnWay_7 : decode cX2_firstOnWay 7 = .ok (.iconst 0, 1) := by decide +kernel
theorem dX2_firstOnWay_8 : decode cX2_firstOnWay 8 = .ok (.istore 4, 2) := by decide +kernel
theorem dX2_firstOnWay_10 : decode cX2_firstOnWay 10 = .ok (.iload_n 3, 1) := by decide +kernel
theorem dX2_firstOnWay_11 : decode cX2_firstOnWay 11 = .ok (.ifCond .le 44, 3) := by decide +kernel
theorem dX2_firstOnWay_14 : decode cX2_firstOnWay 14 = .ok (.iload 4, 2) := by decide +kernel
theorem dX2_firstOnWay_16 : decode cX2_firstOnWay 16 = .ok (.aload_n 0, 1) := by decide +kernel
theorem dX2_firstOnWay_17 : decode cX2_firstOnWay 17 = .ok (.invokevirtual 27, 3) := by decide +kernel
theorem dX2_firstOnWay_20 : decode cX2_firstOnWay 20 = .ok (.if_icmp .ge 35, 3) := by decide +kernel
theorem dX2_firstOnWay_23 : decode cX2_firstOnWay 23 = .ok (.aload_n 0, 1) := by decide +kernel
theorem dX2_firstOnWay_24 : decode cX2_firstOnWay 24 = .ok (.iload_n 1, 1) := by decide +kernel
theorem dX2_firstOnWay_25 : decode cX2_firstOnWay 25 = .ok (.iload 4, 2) := by decide +kernel
theorem dX2_firstOnWay_27 : decode cX2_firstOnWay 27 = .ok (.invokevirtual 33, 3) := by decide +kernel
theorem dX2_firstOnWay_30 : decode cX2_firstOnWay 30 = .ok (.ifCond .eq 19, 3) := by decide +kernel
theorem dX2_firstOnWay_33 : decode cX2_firstOnWay 33 = .ok (.aload_n 0, 1) := by decide +kernel
theorem dX2_firstOnWay_34 : decode cX2_firstOnWay 34 = .ok (.iload 4, 2) := by decide +kernel
theorem dX2_firstOnWay_36 : decode cX2_firstOnWay 36 = .ok (.iload_n 2, 1) := by decide +kernel
theorem dX2_firstOnWay_37 : decode cX2_firstOnWay 37 = .ok (.invokevirtual 30, 3) := by decide +kernel
theorem dX2_firstOnWay_40 : decode cX2_firstOnWay 40 = .ok (.iload_n 3, 1) := by decide +kernel
theorem dX2_firstOnWay_41 : decode cX2_firstOnWay 41 = .ok (.iconst 1, 1) := by decide +kernel
theorem dX2_firstOnWay_42 : decode cX2_firstOnWay 42 = .ok (.isub, 1) := by decide +kernel
theorem dX2_firstOnWay_43 : decode cX2_firstOnWay 43 = .ok (.if_icmp .ne 6, 3) := by decide +kernel
theorem dX2_firstOnWay_46 : decode cX2_firstOnWay 46 = .ok (.iload 4, 2) := by decide +kernel
theorem dX2_firstOnWay_48 : decode cX2_firstOnWay 48 = .ok (.ireturn, 1) := by decide +kernel
theorem dX2_firstOnWay_49 : decode cX2_firstOnWay 49 = .ok (.iinc 4 1, 3) := by decide +kernel
theorem dX2_firstOnWay_52 : decode cX2_firstOnWay 52 = .ok (.goto (-42), 3) := by decide +kernel
theorem dX2_firstOnWay_55 : decode cX2_firstOnWay 55 = .ok (.iconst (-1), 1) := by decide +kernel
theorem dX2_firstOnWay_56 : decode cX2_firstOnWay 56 = .ok (.ireturn, 1) := by decide +kernel
set_option maxRecDepth 20000 in
theorem ggX2_countDistanceErrors_X10_init : GoodIn wsX2_countDistanceErrors wsX10_init := goodIn_r _ [6, 7, 8, 9, 10, 11, 12, 13, 14, 15, 16, 17, 18, 19, 20, 21, 82, 83, 84, 85, 86, 87, 88, 89, 90, 91, 92, 93, 94, 95, 96, 97, 98, 99, 100, 101, 78, 79, 80, 81] (by decide +kernel) (by decide +kernel)
set_option maxRecDepth 20000 in
theorem gX2_countDistanceErrors_X10_init : GoodIn wsX2_countDistanceErrors (wsX10_init) := ggX2_countDistanceErrors_X10_init
set_option maxRecDepth 20000 in
theorem ggX2_countDistanceErrors_X10_addDirect : GoodIn wsX2_countDistanceErrors wsX10_addDirect := goodIn_r _ [25, 26, 27, 28, 29, 9, 30, 31, 32, 33, 34, 35, 36, 14, 37, 38, 39, 40, 41, 42, 43, 44, 45, 46, 15, 21, 47, 48, 49, 50, 51, 82, 83, 84, 85, 86, 87, 88, 89, 90, 91, 92, 93, 94, 95, 96, 97, 98, 99, 100, 101, 78, 79, 80, 81] (by decide +kernel) (by decide +kernel)
set_option maxRecDepth 20000 in
theorem gX2_countDistanceErrors_X10_addDirect : GoodIn wsX2_countDistanceErrors (wsV RX2 42 RX10 yX10_addDirect wsX10_addDirect) := goodIn_app (goodIn_of _ (by decide +kernel)) ggX2_countDistanceErrors_X10_addDirect
set_option maxRecDepth 20000 in
theorem ggX2_countDistanceErrors_X6_size : GoodIn wsX2_countDistanceErrors wsX6_size := goodIn_r _ [30, 31, 82, 83, 84, 85, 86, 87, 88, 89, 90, 91, 92, 93, 94, 95, 96, 97, 98, 99, 100, 101, 78, 79, 80, 81] (by decide +kernel) (by decide +kernel)
set_option maxRecDepth 20000 in
theorem gX2_countDistanceErrors_X6_size_u27X2 : GoodIn wsX2_countDistanceErrors (va_wsU RX2 27 RX2 "TicketGate$Table" ⟨"TicketGate$Realms", "size", "()I"⟩ yX6_size wsX6_size) := goodIn_app (goodIn_of _ (by decide +kernel)) ggX2_countDistanceErrors_X6_size
set_option maxRecDepth 20000 in
theorem ggX2_countDistanceErrors_X10_goThrough : GoodIn wsX2_countDistanceErrors wsX10_goThrough := goodIn_r _ [56, 57, 58, 18, 59, 60, 61, 62, 29, 9, 30, 31, 63, 64, 65, 45, 46, 15, 21, 47, 48, 49, 50, 51, 82, 83, 84, 85, 86, 87, 88, 89, 90, 91, 92, 93, 94, 95, 96, 97, 98, 99, 100, 101, 78, 79, 80, 81] (by decide +kernel) (by decide +kernel)
set_option maxRecDepth 20000 in
theorem gX2_countDistanceErrors_X10_goThrough : GoodIn wsX2_countDistanceErrors (wsV RX2 46 RX10 yX10_goThrough wsX10_goThrough) := goodIn_app (goodIn_of _ (by decide +kernel)) ggX2_countDistanceErrors_X10_goThrough
set_option maxRecDepth 20000 in
theorem ggX2_countDistanceErrors_X10_lengthOf : GoodIn wsX2_countDistanceErrors wsX10_lengthOf := goodIn_r _ [69, 63, 64, 65, 45, 9, 46, 15, 31, 21, 82, 83, 84, 85, 86, 87, 88, 89, 90, 91, 92, 93, 94, 95, 96, 97, 98, 99, 100, 101, 78, 79, 80, 81] (by decide +kernel) (by decide +kernel)
set_option maxRecDepth 20000 in
theorem gX2_countDistanceErrors_X10_lengthOf : GoodIn wsX2_countDistanceErrors (wsV RX2 50 RX10 yX10_lengthOf wsX10_lengthOf) := goodIn_app (goodIn_of _ (by decide +kernel)) ggX2_countDistanceErrors_X10_lengthOf
set_option maxRecDepth 20000 in
theorem ggX2_countDistanceErrors_X2_referrals : GoodIn wsX2_countDistanceErrors wsX2_referrals := goodIn_r _ [73, 74, 75, 76, 40, 77, 52, 27, 28, 29, 9, 30, 31, 42, 43, 44, 45, 46, 15, 21, 82, 83, 84, 85, 86, 87, 88, 89, 90, 91, 92, 93, 94, 95, 96, 97, 98, 99, 100, 101, 78, 79, 80, 81] (by decide +kernel) (by decide +kernel)
set_option maxRecDepth 20000 in
theorem gX2_countDistanceErrors_X2_referrals : GoodIn wsX2_countDistanceErrors (wsV RX2 30 RX2 yX2_referrals wsX2_referrals) := goodIn_app (goodIn_of _ (by decide +kernel)) ggX2_countDistanceErrors_X2_referrals
theorem dX2_countDistanceErrors_0 : decode cX2_countDistanceErrors 0 = .ok (.new 37, 3) := by decide +kernel
theorem dX2_countDistanceErrors_3 : decode cX2_countDistanceErrors 3 = .ok (.dup, 1) := by decide +kernel
theorem dX2_countDistanceErrors_4 : decode cX2_countDistanceErrors 4 = .ok (.invokespecial 39, 3) := by decide +kernel
theorem dX2_countDistanceErrors_7 : decode cX2_countDistanceErrors 7 = .ok (.astore_n 1, 1) := by decide +kernel
theorem dX2_countDistanceErrors_8 : decode cX2_countDistanceErrors 8 = .ok (.aload_n 1, 1) := by decide +kernel
theorem dX2_countDistanceErrors_9 : decode cX2_countDistanceErrors 9 = .ok (.aload_n 0, 1) := by decide +kernel
theorem dX2_countDistanceErrors_10 : decode cX2_countDistanceErrors 10 = .ok (.invokevirtual 42, 3) := by decide +kernel
theorem dX2_countDistanceErrors_13 : decode cX2_countDistanceErrors 13 = .ok (.iconst 0, 1) := by decide +kernel
theorem dX2_countDistanceErrors_14 : decode cX2_countDistanceErrors 14 = .ok (.istore_n 2, 1) := by decide +kernel
theorem dX2_countDistanceErrors_15 : decode cX2_countDistanceErrors 15 = .ok (.iload_n 2, 1) := by decide +kernel
theorem dX2_countDistanceErrors_16 : decode cX2_countDistanceErrors 16 = .ok (.aload_n 0, 1) := by decide +kernel
theorem dX2_countDistanceErrors_17 : decode cX2_countDistanceErrors 17 = .ok (.invokevirtual 27, 3) := by decide +kernel
theorem dX2_countDistanceErrors_20 : decode cX2_countDistanceErrors 20 = .ok (.if_icmp .ge 14, 3) := by decide +kernel
theorem dX2_countDistanceErrors_23 : decode cX2_countDistanceErrors 23 = .ok (.aload_n 1, 1) := by decide +kernel
theorem dX2_countDistanceErrors_24 : decode cX2_countDistanceErrors 24 = .ok (.iload_n 2, 1) := by decide +kernel
theorem dX2_countDistanceErrors_25 : decode cX2_countDistanceErrors 25 = .ok (.invokevirtual 46, 3) := by decide +kernel
theorem dX2_countDistanceErrors_28 : decode cX2_countDistanceErrors 28 = .ok (.iinc 2 1, 3) := by decide +kernel
theorem dX2_countDistanceErrors_31 : decode cX2_countDistanceErrors 31 = .ok (.goto (-16), 3) := by decide +kernel
theorem dX2_countDistanceErrors_34 : decode cX2_countDistanceErrors 34 = .ok (.iconst 0, 1) := by decide +kernel
theorem dX2_countDistanceErrors_35 : decode cX2_countDistanceErrors 35 = .ok (.istore_n 2, 1) := by decide +kernel
theorem dX2_countDistanceErrors_36 : decode cX2_countDistanceErrors 36 = .ok (.iconst 0, 1) := by decide +kernel
theorem dX2_countDistanceErrors_37 : decode cX2_countDistanceErrors 37 = .ok (.istore_n 3, 1) := by decide +kernel
theorem dX2_countDistanceErrors_38 : decode cX2_countDistanceErrors 38 = .ok (.iload_n 3, 1) := by decide +kernel
theorem dX2_countDistanceErrors_39 : decode cX2_countDistanceErrors 39 = .ok (.aload_n 0, 1) := by decide +kernel
theorem dX2_countDistanceErrors_40 : decode cX2_countDistanceErrors 40 = .ok (.invokevirtual 27, 3) := by decide +kernel
theorem dX2_countDistanceErrors_43 : decode cX2_countDistanceErrors 43 = .ok (.if_icmp .ge 52, 3) := by decide +kernel
theorem dX2_countDistanceErrors_46 : decode cX2_countDistanceErrors 46 = .ok (.iconst 0, 1) := by decide +kernel
theorem dX2_countDistanceErrors_47 : decode cX2_countDistanceErrors 47 = .ok (.istore 4, 2) := by decide +kernel
theorem dX2_countDistanceErrors_49 : decode cX2_countDistanceErrors 49 = .ok (.iload 4, 2) := by decide +kernel
theorem dX2_countDistanceErrors_51 : decode cX2_countDistanceErrors 51 = .ok (.aload_n 0, 1) := by decide +kernel
theorem dX2_countDistanceErrors_52 : decode cX2_countDistanceErrors 52 = .ok (.invokevirtual 27, 3) := by decide +kernel
theorem dX2_countDistanceErrors_55 : decode cX2_countDistanceErrors 55 = .ok (.if_icmp .ge 34, 3) := by decide +kernel
theorem dX2_countDistanceErrors_58 : decode cX2_countDistanceErrors 58 = .ok (.iload_n 2, 1) := by decide +kernel
theorem dX2_countDistanceErrors_59 : decode cX2_countDistanceErrors 59 = .ok (.aload_n 1, 1) := by decide +kernel
theorem dX2_countDistanceErrors_60 : decode cX2_countDistanceErrors 60 = .ok (.iload_n 3, 1) := by decide +kernel
theorem dX2_countDistanceErrors_61 : decode cX2_countDistanceErrors 61 = .ok (.iload 4, 2) := by decide +kernel
theorem dX2_countDistanceErrors_63 : decode cX2_countDistanceErrors 63 = .ok (.invokevirtual 50, 3) := by decide +kernel
theorem dX2_countDistanceErrors_66 : decode cX2_countDistanceErrors 66 = .ok (.aload_n 0, 1) := by decide +kernel
theorem dX2_countDistanceErrors_67 : decode cX2_countDistanceErrors 67 = .ok (.iload_n 3, 1) := by decide +kernel
theorem dX2_countDistanceErrors_68 : decode cX2_countDistanceErrors 68 = .ok (.iload 4, 2) := by decide +kernel
theorem dX2_countDistanceErrors_70 : decode cX2_countDistanceErrors 70 = .ok (.invokevirtual 30, 3) := by decide +kernel
theorem dX2_countDistanceErrors_73 : decode cX2_countDistanceErrors 73 = .ok (.if_icmp .ne 7, 3) := by decide +kernel
theorem dX2_countDistanceErrors_76 : decode cX2_countDistanceErrors 76 = .ok (.iconst 0, 1) := by decide +kernel
theorem dX2_countDistanceErrors_77 : decode cX2_countDistanceErrors 77 = .ok (.goto 4, 3) := by decide +kernel
theorem dX2_countDistanceErrors_80 : decode cX2_countDistanceErrors 80 = .ok (.iconst 1, 1) := by decide +kernel
theorem dX2_countDistanceErrors_81 : decode cX2_countDistanceErrors 81 = .ok (.iadd, 1) := by decide +kernel
theorem dX2_countDistanceErrors_82 : decode cX2_countDistanceErrors 82 = .ok (.istore_n 2, 1) := by decide +kernel
theorem dX2_countDistanceErrors_83 : decode cX2_countDistanceErrors 83 = .ok (.iinc 4 1, 3) := by decide +kernel
theorem dX2_countDistanceErrors_86 : decode cX2_countDistanceErrors 86 = .ok (.goto (-37), 3) := by decide +kernel
theorem dX2_countDistanceErrors_89 : decode cX2_countDistanceErrors 89 = .ok (.iinc 3 1, 3) := by decide +kernel
theorem dX2_countDistanceErrors_92 : decode cX2_countDistanceErrors 92 = .ok (.goto (-54), 3) := by decide +kernel
theorem dX2_countDistanceErrors_95 : decode cX2_countDistanceErrors 95 = .ok (.iload_n 2, 1) := by decide +kernel
theorem dX2_countDistanceErrors_96 : decode cX2_countDistanceErrors 96 = .ok (.ireturn, 1) := by decide +kernel
set_option maxRecDepth 20000 in
theorem ggX3_init_X6_init : GoodIn wsX3_init wsX6_init := goodIn_r _ [4, 5, 6, 7, 8, 9, 10, 11, 12, 13, 14, 15, 16, 17, 18, 19, 20, 21, 22, 23, 24, 25, 26, 27, 28, 29, 30, 31, 32, 33, 34, 35, 36, 37, 38, 39] (by decide +kernel) (by decide +kernel)
set_option maxRecDepth 20000 in
theorem gX3_init_X6_init : GoodIn wsX3_init (wsX6_init) := ggX3_init_X6_init
theorem dX3_init_0 : decode cX3_init 0 = .ok (.aload_n 0, 1) := by decide +kernel
theorem dX3_init_1 : decode cX3_init 1 = .ok (.bipush 6, 2) := by decide +kernel
theorem dX3_init_3 : decode cX3_init 3 = .ok (.iconst 3, 1) := by decide +kernel
theorem dX3_init_4 : decode cX3_init 4 = .ok (.invokespecial 5, 3) := by decide +kernel
theorem dX3_init_7 : decode cX3_init 7 = .ok (.return_, 1) := by decide +kernel
set_option maxRecDepth 20000 in
theorem ggX3_addService_X6_addRow : GoodIn wsX3_addService wsX6_addRow := goodIn_r _ [6, 7, 8, 16, 17, 18, 19, 20, 21, 22, 23, 24, 25, 26, 27, 28, 29, 30, 31, 32, 33, 34, 35, 36, 37, 38, 39] (by decide +kernel) (by decide +kernel)
set_option maxRecDepth 20000 in
theorem gX3_addService_X6_addRow_u11X3 : GoodIn wsX3_addService (va_wsU RX3 11 RX3 "TicketGate$Table" ⟨"TicketGate$Services", "addRow", "()I"⟩ yX6_addRow wsX6_addRow) := goodIn_app (goodIn_of _ (by decide +kernel)) ggX3_addService_X6_addRow
set_option maxRecDepth 20000 in
theorem ggX3_addService_X6_set : GoodIn wsX3_addService wsX6_set := goodIn_r _ [13, 14, 7, 15, 16, 17, 18, 19, 20, 21, 22, 23, 24, 25, 26, 27, 28, 29, 30, 31, 32, 33, 34, 35, 36, 37, 38, 39] (by decide +kernel) (by decide +kernel)
set_option maxRecDepth 20000 in
theorem gX3_addService_X6_set_u15X3 : GoodIn wsX3_addService (va_wsU RX3 15 RX3 "TicketGate$Table" ⟨"TicketGate$Services", "set", "(III)V"⟩ yX6_set wsX6_set) := goodIn_app (goodIn_of _ (by decide +kernel)) ggX3_addService_X6_set
theorem dX3_addService_0 : decode cX3_addService 0 = .ok (.aload_n 0, 1) := by decide +kernel
theorem dX3_addService_1 : decode cX3_addService 1 = .ok (.invokevirtual 11, 3) := by decide +kernel
theorem dX3_addService_4 : decode cX3_addService 4 = .ok (.istore 4, 2) := by decide +kernel
theorem dX3_addService_6 : decode cX3_addService 6 = .ok (.aload_n 0, 1) := by decide +kernel
theorem dX3_addService_7 : decode cX3_addService 7 = .ok (.iload 4, 2) := by decide +kernel
theorem dX3_addService_9 : decode cX3_addService 9 = .ok (.iconst 0, 1) := by decide +kernel
theorem dX3_addService_10 : decode cX3_addService 10 = .ok (.iload_n 1, 1) := by decide +kernel
theorem dX3_addService_11 : decode cX3_addService 11 = .ok (.invokevirtual 15, 3) := by decide +kernel
theorem dX3_addService_14 : decode cX3_addService 14 = .ok (.aload_n 0, 1) := by decide +kernel
theorem dX3_addService_15 : decode cX3_addService 15 = .ok (.iload 4, 2) := by decide +kernel
theorem dX3_addService_17 : decode cX3_addService 17 = .ok (.iconst 1, 1) := by decide +kernel
theorem dX3_addService_18 : decode cX3_addService 18 = .ok (.iload_n 2, 1) := by decide +kernel
theorem dX3_addService_19 : decode cX3_addService 19 = .ok (.invokevirtual 15, 3) := by decide +kernel
theorem dX3_addService_22 : decode cX3_addService 22 = .ok (.aload_n 0, 1) := by decide +kernel
theorem dX3_addService_23 : decode cX3_addService 23 = .ok (.iload 4, 2) := by decide +kernel
theorem dX3_addService_25 : decode cX3_addService 25 = .ok (.iconst 2, 1) := by decide +kernel
theorem dX3_addService_26 : decode cX3_addService 26 = .ok (.iload_n 3, 1) := by decide +kernel
theorem dX3_addService_27 : decode cX3_addService 27 = .ok (.invokevirtual 15, 3) := by decide +kernel
theorem dX3_addService_30 : decode cX3_addService 30 = .ok (.return_, 1) := by decide +kernel
theorem dX4_init_0 : decode cX4_init 0 = .ok (.aload_n 0, 1) := by decide +kernel
theorem dX4_init_1 : decode cX4_init 1 = .ok (.invokespecial 1, 3) := by decide +kernel
theorem dX4_init_4 : decode cX4_init 4 = .ok (.aload_n 0, 1) := by decide +kernel
theorem dX4_init_5 : decode cX4_init 5 = .ok (.iconst 0, 1) := by decide +kernel
theorem dX4_init_6 : decode cX4_init 6 = .ok (.iload_n 1, 1) := by decide +kernel
theorem dX4_init_7 : decode cX4_init 7 = .ok (.invokestatic 7, 3) := by decide +kernel
theorem dX4_init_10 : decode cX4_init 10 = .ok (.anewarray 13, 3) := by decide +kernel
theorem dX4_init_13 : decode cX4_init 13 = .ok (.putfield 15, 3) := by decide +kernel
theorem dX4_init_16 : decode cX4_init 16 = .ok (.return_, 1) := by decide +kernel
theorem dX4_isEmpty_0 : decode cX4_isEmpty 0 = .ok (.iload_n 1, 1) := by decide +kernel
theorem dX4_isEmpty_1 : decode cX4_isEmpty 1 = .ok (.ifCond .lt 21, 3) := by decide +kernel
theorem dX4_isEmpty_4 : decode cX4_isEmpty 4 = .ok (.iload_n 1, 1) := by decide +kernel
theorem dX4_isEmpty_5 : decode cX4_isEmpty 5 = .ok (.aload_n 0, 1) := by decide +kernel
theorem dX4_isEmpty_6 : decode cX4_isEmpty 6 = .ok (.getfield 15, 3) := by decide +kernel
theorem dX4_isEmpty_9 : decode cX4_isEmpty 9 = .ok (.arraylength, 1) := by decide +kernel
theorem dX4_isEmpty_10 : decode cX4_isEmpty 10 = .ok (.if_icmp .ge 12, 3) := by decide +kernel
theorem dX4_isEmpty_13 : decode cX4_isEmpty 13 = .ok (.aload_n 0, 1) := by decide +kernel
theorem dX4_isEmpty_14 : decode cX4_isEmpty 14 = .ok (.getfield 15, 3) := by decide +kernel
theorem dX4_isEmpty_17 : decode cX4_isEmpty 17 = .ok (.iload_n 1, 1) := by decide +kernel
theorem dX4_isEmpty_18 : decode cX4_isEmpty 18 = .ok (.aaload, 1) := by decide +kernel
theorem dX4_isEmpty_19 : decode cX4_isEmpty 19 = .ok (.ifnonnull 7, 3) := by decide +kernel
theorem dX4_isEmpty_22 : decode cX4_isEmpty 22 = .ok (.iconst 1, 1) := by decide +kernel
theorem dX4_isEmpty_23 : decode cX4_isEmpty 23 = .ok (.goto 4, 3) := by decide +kernel
theorem dX4_isEmpty_26 : decode cX4_isEmpty 26 = .ok (.iconst 0, 1) := by decide +kernel
theorem dX4_isEmpty_27 : decode cX4_isEmpty 27 = .ok (.ireturn, 1) := by decide +kernel
set_option maxRecDepth 20000 in
theorem ggX4_put_X5_init : GoodIn wsX4_put wsX5_init := goodIn_r _ [6, 7, 8, 9, 10, 11, 12, 13, 14, 15, 16, 17, 18, 19, 20, 21, 22, 23, 24, 25, 26, 27, 28, 29, 30, 31, 32, 33, 34, 35, 36, 37, 38, 39, 40, 41, 42, 43, 44, 45, 46, 47, 48, 49, 50, 51, 52, 53, 54, 55, 56, 57, 58, 59, 60, 61, 107, 108, 109, 110, 97, 98, 99, 100, 101, 102, 103, 104, 105, 106, 111, 112, 113, 114, 115, 116, 117, 118, 119, 120, 121, 122, 123, 124, 125, 126, 127, 128, 129, 130] (by decide +kernel) (by decide +kernel)
set_option maxRecDepth 20000 in
theorem gX4_put_X5_init_n21 : GoodIn wsX4_put (wsX5_init) := ggX4_put_X5_init
set_option maxRecDepth 20000 in
theorem ggX4_put_X5_copyFrom : GoodIn wsX4_put wsX5_copyFrom := goodIn_r _ [65, 13, 17, 21, 25, 29, 66, 67, 68, 69, 70, 71, 72, 73, 74, 35, 75, 45, 76, 77, 42, 78, 79, 80, 81, 82, 83, 84, 85, 86, 87, 88, 89, 90, 91, 92, 93, 94, 95, 97, 98, 99, 100, 101, 102, 103, 104, 105, 106, 107, 108, 109, 110, 115, 116, 117, 118, 119, 120, 121, 122, 111, 112, 113, 114, 123, 124, 125, 126, 127, 128, 129, 130] (by decide +kernel) (by decide +kernel)
set_option maxRecDepth 20000 in
theorem gX4_put_X5_copyFrom : GoodIn wsX4_put (wsV RX4 22 RX5 yX5_copyFrom wsX5_copyFrom) := goodIn_app (goodIn_of _ (by decide +kernel)) ggX4_put_X5_copyFrom
theorem dX4_put_0 : decode cX4_put 0 = .ok (.iload_n 1, 1) := by decide +kernel
theorem dX4_put_1 : decode cX4_put 1 = .ok (.ifCond .lt 12, 3) := by decide +kernel
theorem dX4_put_4 : decode cX4_put 4 = .ok (.iload_n 1, 1) := by decide +kernel
theorem dX4_put_5 : decode cX4_put 5 = .ok (.aload_n 0, 1) := by decide +kernel
theorem dX4_put_6 : decode cX4_put 6 = .ok (.getfield 15, 3) := by decide +kernel
theorem dX4_put_9 : decode cX4_put 9 = .ok (.arraylength, 1) := by decide +kernel
theorem dX4_put_10 : decode cX4_put 10 = .ok (.if_icmp .lt 4, 3) := by decide +kernel
theorem dX4_put_13 : decode cX4_put 13 = .ok (.return_, 1) := by decide +kernel
theorem dX4_put_14 : decode cX4_put 14 = .ok (.aload_n 0, 1) := by decide +kernel
theorem dX4_put_15 : decode cX4_put 15 = .ok (.getfield 15, 3) := by decide +kernel
theorem dX4_put_18 : decode cX4_put 18 = .ok (.iload_n 1, 1) := by decide +kernel
theorem dX4_put_19 : decode cX4_put 19 = .ok (.aaload, 1) := by decide +kernel
theorem dX4_put_20 : decode cX4_put 20 = .ok (.astore_n 3, 1) := by decide +kernel
theorem dX4_put_21 : decode cX4_put 21 = .ok (.aload_n 3, 1) := by decide +kernel
theorem dX4_put_22 : decode cX4_put 22 = .ok (.ifnonnull 18, 3) := by decide +kernel
theorem dX4_put_25 : decode cX4_put 25 = .ok (.new 13, 3) := by decide +kernel
theorem dX4_put_28 : decode cX4_put 28 = .ok (.dup, 1) := by decide +kernel
theorem dX4_put_29 : decode cX4_put 29 = .ok (.invokespecial 21, 3) := by decide +kernel
theorem dX4_put_32 : decode cX4_put 32 = .ok (.astore_n 3, 1) := by decide +kernel
theorem dX4_put_33 : decode cX4_put 33 = .ok (.aload_n 0, 1) := by decide +kernel
theorem dX4_put_34 : decode cX4_put 34 = .ok (.getfield 15, 3) := by decide +kernel
theorem dX4_put_37 : decode cX4_put 37 = .ok (.iload_n 1, 1) := by decide +kernel
theorem dX4_put_38 : decode cX4_put 38 = .ok (.aload_n 3, 1) := by decide +kernel
theorem dX4_put_39 : decode cX4_put 39 = .ok (.aastore, 1) := by decide +kernel
theorem dX4_put_40 : decode cX4_put 40 = .ok (.aload_n 3, 1) := by decide +kernel
theorem dX4_put_41 : decode cX4_put 41 = .ok (.aload_n 2, 1) := by decide +kernel
theorem dX4_put_42 : decode cX4_put 42 = .ok (.invokevirtual 22, 3) := by decide +kernel
theorem dX4_put_45 : decode cX4_put 45 = .ok (.return_, 1) := by decide +kernel
set_option maxRecDepth 20000 in
theorem ggX4_copyInto_X5_copyFrom : GoodIn wsX4_copyInto wsX5_copyFrom := goodIn_r _ [6, 7, 8, 9, 10, 11, 12, 13, 14, 15, 16, 17, 18, 19, 20, 21, 22, 23, 24, 25, 26, 27, 28, 29, 30, 31, 32, 33, 34, 35, 36, 37, 38, 39, 40, 41, 42, 43, 44, 46, 47, 48, 49, 50, 51, 52, 53, 54, 55, 56, 57, 58, 59, 60, 61, 62, 63, 64, 65, 66, 67, 68, 69, 70, 71, 72, 73, 74, 75, 76, 77, 78, 79] (by decide +kernel) (by decide +kernel)
set_option maxRecDepth 20000 in
theorem gX4_copyInto_X5_copyFrom : GoodIn wsX4_copyInto (wsV RX4 22 RX5 yX5_copyFrom wsX5_copyFrom) := goodIn_app (goodIn_of _ (by decide +kernel)) ggX4_copyInto_X5_copyFrom
theorem dX4_copyInto_0 : decode cX4_copyInto 0 = .ok (.iload_n 2, 1) := by decide +kernel
theorem dX4_copyInto_1 : decode cX4_copyInto 1 = .ok (.ifCond .lt 21, 3) := by decide +kernel
theorem dX4_copyInto_4 : decode cX4_copyInto 4 = .ok (.iload_n 2, 1) := by decide +kernel
theorem dX4_copyInto_5 : decode cX4_copyInto 5 = .ok (.aload_n 0, 1) := by decide +kernel
theorem dX4_copyInto_6 : decode cX4_copyInto 6 = .ok (.getfield 15, 3) := by decide +kernel
theorem dX4_copyInto_9 : decode cX4_copyInto 9 = .ok (.arraylength, 1) := by decide +kernel
theorem dX4_copyInto_10 : decode cX4_copyInto 10 = .ok (.if_icmp .ge 12, 3) := by decide +kernel
theorem dX4_copyInto_13 : decode cX4_copyInto 13 = .ok (.aload_n 0, 1) := by decide +kernel
theorem dX4_copyInto_14 : decode cX4_copyInto 14 = .ok (.getfield 15, 3) := by decide +kernel
theorem dX4_copyInto_17 : decode cX4_copyInto 17 = .ok (.iload_n 2, 1) := by decide +kernel
theorem dX4_copyInto_18 : decode cX4_copyInto 18 = .ok (.aaload, 1) := by decide +kernel
theorem dX4_copyInto_19 : decode cX4_copyInto 19 = .ok (.goto 4, 3) := by decide +kernel
theorem dX4_copyInto_22 : decode cX4_copyInto 22 = .ok (.aconst_null, 1) := by decide +kernel
theorem dX4_copyInto_23 : decode cX4_copyInto 23 = .ok (.astore_n 3, 1) := by decide +kernel
theorem dX4_copyInto_24 : decode cX4_copyInto 24 = .ok (.aload_n 3, 1) := by decide +kernel
theorem dX4_copyInto_25 : decode cX4_copyInto 25 = .ok (.ifnull 8, 3) := by decide +kernel
theorem dX4_copyInto_28 : decode cX4_copyInto 28 = .ok (.aload_n 1, 1) := by decide +kernel
theorem dX4_copyInto_29 : decode cX4_copyInto 29 = .ok (.aload_n 3, 1) := by decide +kernel
theorem dX4_copyInto_30 : decode cX4_copyInto 30 = .ok (.invokevirtual 22, 3) := by decide +kernel
theorem dX4_copyInto_33 : decode cX4_copyInto 33 = .ok (.return_, 1) := by decide +kernel
set_option maxRecDepth 20000 in
theorem ggX5_init_X2_init : GoodIn wsX5_init wsX2_init := goodIn_r _ [26, 27, 28, 29, 30, 31, 2, 3, 32, 33, 34, 35, 36, 37, 38, 39, 56, 57, 58, 59, 74, 75, 76, 77, 78, 79, 80, 81, 70, 71, 72, 73, 82, 83, 84, 85, 86, 87, 88, 89] (by decide +kernel) (by decide +kernel)
set_option maxRecDepth 20000 in
theorem gX5_init_X2_init : GoodIn wsX5_init (wsX2_init) := ggX5_init_X2_init
set_option maxRecDepth 20000 in
theorem ggX5_init_X8_init : GoodIn wsX5_init wsX8_init := goodIn_r _ [42, 43, 28, 29, 30, 31, 2, 3, 32, 33, 34, 35, 36, 37, 38, 39, 56, 57, 58, 59, 74, 75, 76, 77, 78, 79, 80, 81, 70, 71, 72, 73, 82, 83, 84, 85, 86, 87, 88, 89] (by decide +kernel) (by decide +kernel)
set_option maxRecDepth 20000 in
theorem gX5_init_X8_init : GoodIn wsX5_init (wsX8_init) := ggX5_init_X8_init
set_option maxRecDepth 20000 in
theorem ggX5_init_X3_init : GoodIn wsX5_init wsX3_init := goodIn_r _ [46, 47, 28, 29, 30, 31, 2, 3, 32, 33, 34, 35, 36, 37, 38, 39, 56, 57, 58, 59, 74, 75, 76, 77, 78, 79, 80, 81, 70, 71, 72, 73, 82, 83, 84, 85, 86, 87, 88, 89] (by decide +kernel) (by decide +kernel)
set_option maxRecDepth 20000 in
theorem gX5_init_X3_init : GoodIn wsX5_init (wsX3_init) := ggX5_init_X3_init
set_option maxRecDepth 20000 in
theorem ggX5_init_X7_init : GoodIn wsX5_init wsX7_init := goodIn_r _ [50, 51, 28, 29, 30, 31, 2, 3, 32, 33, 34, 35, 36, 37, 38, 39, 56, 57, 58, 59, 74, 75, 76, 77, 78, 79, 80, 81, 70, 71, 72, 73, 82, 83, 84, 85, 86, 87, 88, 89] (by decide +kernel) (by decide +kernel)
set_option maxRecDepth 20000 in
theorem gX5_init_X7_init : GoodIn wsX5_init (wsX7_init) := ggX5_init_X7_init
set_option maxRecDepth 20000 in
theorem ggX5_init_X9_init : GoodIn wsX5_init wsX9_init := goodIn_r _ [54, 55, 28, 29, 30, 31, 2, 3, 32, 33, 34, 35, 36, 37, 38, 39, 56, 57, 58, 59, 74, 75, 76, 77, 78, 79, 80, 81, 70, 71, 72, 73, 82, 83, 84, 85, 86, 87, 88, 89] (by decide +kernel) (by decide +kernel)
set_option maxRecDepth 20000 in
theorem gX5_init_X9_init : GoodIn wsX5_init (wsX9_init) := ggX5_init_X9_init
theorem dX5_init_0 : decode cX5_init 0 = .ok (.aload_n 0, 1) := by decide +kernel
theorem dX5_init_1 : decode cX5_init 1 = .ok (.invokespecial 3, 3) := by decide +kernel
theorem dX5_init_4 : decode cX5_init 4 = .ok (.aload_n 0, 1) := by decide +kernel
theorem dX5_init_5 : decode cX5_init 5 = .ok (.new 9, 3) := by decide +kernel
theorem dX5_init_8 : decode cX5_init 8 = .ok (.dup, 1) := by decide +kernel
theorem dX5_init_9 : decode cX5_init 9 = .ok (.invokespecial 11, 3) := by decide +kernel
theorem dX5_init_12 : decode cX5_init 12 = .ok (.putfield 12, 3) := by decide +kernel
theorem dX5_init_15 : decode cX5_init 15 = .ok (.aload_n 0, 1) := by decide +kernel
theorem dX5_init_16 : decode cX5_init 16 = .ok (.new 18, 3) := by decide +kernel
theorem dX5_init_19 : decode cX5_init 19 = .ok (.dup, 1) := by decide +kernel
theorem dX5_init_20 : decode cX5_init 20 = .ok (.invokespecial 20, 3) := by decide +kernel
theorem dX5_init_23 : decode cX5_init 23 = .ok (.putfield 21, 3) := by decide +kernel
theorem dX5_init_26 : decode cX5_init 26 = .ok (.aload_n 0, 1) := by decide +kernel
theorem dX5_init_27 : decode cX5_init 27 = .ok (.new 25, 3) := by decide +kernel
theorem dX5_init_30 : decode cX5_init 30 = .ok (.dup, 1) := by decide +kernel
theorem dX5_init_31 : decode cX5_init 31 = .ok (.invokespecial 27, 3) := by decide +kernel
theorem dX5_init_34 : decode cX5_init 34 = .ok (.putfield 28, 3) := by decide +kernel
theorem dX5_init_37 : decode cX5_init 37 = .ok (.aload_n 0, 1) := by decide +kernel
theorem dX5_init_38 : decode cX5_init 38 = .ok (.new 32, 3) := by decide +kernel
theorem dX5_init_41 : decode cX5_init 41 = .ok (.dup, 1) := by decide +kernel
theorem dX5_init_42 : decode cX5_init 42 = .ok (.invokespecial 34, 3) := by decide +kernel
theorem dX5_init_45 : decode cX5_init 45 = .ok (.putfield 35, 3) := by decide +kernel
theorem dX5_init_48 : decode cX5_init 48 = .ok (.aload_n 0, 1) := by decide +kernel
theorem dX5_init_49 : decode cX5_init 49 = .ok (.new 39, 3) := by decide +kernel
theorem dX5_init_52 : decode cX5_init 52 = .ok (.dup, 1) := by decide +kernel
theorem dX5_init_53 : decode cX5_init 53 = .ok (.invokespecial 41, 3) := by decide +kernel
theorem dX5_init_56 : decode cX5_init 56 = .ok (.putfield 42, 3) := by decide +kernel
theorem dX5_init_59 : decode cX5_init 59 = .ok (.return_, 1) := by decide +kernel
set_option maxRecDepth 20000 in
theorem ggX5_begin_X6_removeAll : GoodIn wsX5_begin wsX6_removeAll := goodIn_r _ [16, 17, 40, 41, 42, 43, 44, 45, 46, 47, 48, 49, 50, 51, 52, 53, 54, 55, 56, 57, 58, 59, 60, 61, 62, 63] (by decide +kernel) (by decide +kernel)
set_option maxRecDepth 20000 in
theorem gX5_begin_X6_removeAll_u46X2 : GoodIn wsX5_begin (va_wsU RX5 46 RX2 "TicketGate$Table" ⟨"TicketGate$Realms", "removeAll", "()V"⟩ yX6_removeAll wsX6_removeAll) := goodIn_app (goodIn_of _ (by decide +kernel)) ggX5_begin_X6_removeAll
set_option maxRecDepth 20000 in
theorem gX5_begin_X6_removeAll_u49X8 : GoodIn wsX5_begin (va_wsU RX5 49 RX8 "TicketGate$Table" ⟨"TicketGate$Users", "removeAll", "()V"⟩ yX6_removeAll wsX6_removeAll) := goodIn_app (goodIn_of _ (by decide +kernel)) ggX5_begin_X6_removeAll
set_option maxRecDepth 20000 in
theorem gX5_begin_X6_removeAll_u50X3 : GoodIn wsX5_begin (va_wsU RX5 50 RX3 "TicketGate$Table" ⟨"TicketGate$Services", "removeAll", "()V"⟩ yX6_removeAll wsX6_removeAll) := goodIn_app (goodIn_of _ (by decide +kernel)) ggX5_begin_X6_removeAll
set_option maxRecDepth 20000 in
theorem gX5_begin_X6_removeAll_u51X7 : GoodIn wsX5_begin (va_wsU RX5 51 RX7 "TicketGate$Table" ⟨"TicketGate$Tickets", "removeAll", "()V"⟩ yX6_removeAll wsX6_removeAll) := goodIn_app (goodIn_of _ (by decide +kernel)) ggX5_begin_X6_removeAll
set_option maxRecDepth 20000 in
theorem gX5_begin_X6_removeAll_u52X9 : GoodIn wsX5_begin (va_wsU RX5 52 RX9 "TicketGate$Table" ⟨"TicketGate$Uses", "removeAll", "()V"⟩ yX6_removeAll wsX6_removeAll) := goodIn_app (goodIn_of _ (by decide +kernel)) ggX5_begin_X6_removeAll
theorem dX5_begin_0 : decode cX5_begin 0 = .ok (.aload_n 0, 1) := by decide +kernel
theorem dX5_begin_1 : decode cX5_begin 1 = .ok (.getfield 12, 3) := by decide +kernel
theorem dX5_begin_4 : decode cX5_begin 4 = .ok (.invokevirtual 46, 3) := by decide +kernel
theorem dX5_begin_7 : decode cX5_begin 7 = .ok (.aload_n 0, 1) := by decide +kernel
theorem dX5_begin_8 : decode cX5_begin 8 = .ok (.getfield 21, 3) := by decide +kernel
theorem dX5_begin_11 : decode cX5_begin 11 = .ok (.invokevirtual 49, 3) := by decide +kernel
theorem dX5_begin_14 : decode cX5_begin 14 = .ok (.aload_n 0, 1) := by decide +kernel
theorem dX5_begin_15 : decode cX5_begin 15 = .ok (.getfield 28, 3) := by decide +kernel
theorem dX5_begin_18 : decode cX5_begin 18 = .ok (.invokevirtual 50, 3) := by decide +kernel
theorem dX5_begin_21 : decode cX5_begin 21 = .ok (.aload_n 0, 1) := by decide +kernel
theorem dX5_begin_22 : decode cX5_begin 22 = .ok (.getfield 35, 3) := by decide +kernel
theorem dX5_begin_25 : decode cX5_begin 25 = .ok (.invokevirtual 51, 3) := by decide +kernel
theorem dX5_begin_28 : decode cX5_begin 28 = .ok (.aload_n 0, 1) := by decide +kernel
theorem dX5_begin_29 : decode cX5_begin 29 = .ok (.getfield 42, 3) := by decide +kernel
theorem dX5_begin_32 : decode cX5_begin 32 = .ok (.invokevirtual 52, 3) := by decide +kernel
theorem dX5_begin_35 : decode cX5_begin 35 = .ok (.aload_n 0, 1) := by decide +kernel
theorem dX5_begin_36 : decode cX5_begin 36 = .ok (.iconst 0, 1) := by decide +kernel
theorem dX5_begin_37 : decode cX5_begin 37 = .ok (.putfield 53, 3) := by decide +kernel
theorem dX5_begin_40 : decode cX5_begin 40 = .ok (.aload_n 0, 1) := by decide +kernel
theorem dX5_begin_41 : decode cX5_begin 41 = .ok (.iload_n 1, 1) := by decide +kernel
theorem dX5_begin_42 : decode cX5_begin 42 = .ok (.putfield 57, 3) := by decide +kernel
theorem dX5_begin_45 : decode cX5_begin 45 = .ok (.aload_n 0, 1) := by decide +kernel
theorem dX5_begin_46 : decode cX5_begin 46 = .ok (.iload_n 2, 1) := by decide +kernel
theorem dX5_begin_47 : decode cX5_begin 47 = .ok (.putfield 60, 3) := by decide +kernel
theorem dX5_begin_50 : decode cX5_begin 50 = .ok (.aload_n 0, 1) := by decide +kernel
theorem dX5_begin_51 : decode cX5_begin 51 = .ok (.iconst 0, 1) := by decide +kernel
theorem dX5_begin_52 : decode cX5_begin 52 = .ok (.putfield 63, 3) := by decide +kernel
theorem dX5_begin_55 : decode cX5_begin 55 = .ok (.aload_n 0, 1) := by decide +kernel
theorem dX5_begin_56 : decode cX5_begin 56 = .ok (.iconst 0, 1) := by decide +kernel
theorem dX5_begin_57 : decode cX5_begin 57 = .ok (.putfield 66, 3) := by decide +kernel
theorem dX5_begin_60 : decode cX5_begin 60 = .ok (.return_, 1) := by decide +kernel
set_option maxRecDepth 20000 in
theorem ggX5_copyFrom_X6_copyFrom : GoodIn wsX5_copyFrom wsX6_copyFrom := goodIn_r _ [16, 17, 18, 19, 20, 21, 22, 23, 24, 25, 26, 49, 50, 51, 52, 53, 54, 55, 56, 57, 58, 59, 60, 61, 62, 63, 64, 65, 66, 67, 68, 69, 70, 71, 72] (by decide +kernel) (by decide +kernel)
set_option maxRecDepth 20000 in
theorem gX5_copyFrom_X6_copyFrom_u69X2 : GoodIn wsX5_copyFrom (va_wsU RX5 69 RX2 "TicketGate$Table" ⟨"TicketGate$Realms", "copyFrom", "(LTicketGate$Table;)V"⟩ yX6_copyFrom wsX6_copyFrom) := goodIn_app (goodIn_of _ (by decide +kernel)) ggX5_copyFrom_X6_copyFrom
set_option maxRecDepth 20000 in
theorem gX5_copyFrom_X6_copyFrom_u73X8 : GoodIn wsX5_copyFrom (va_wsU RX5 73 RX8 "TicketGate$Table" ⟨"TicketGate$Users", "copyFrom", "(LTicketGate$Table;)V"⟩ yX6_copyFrom wsX6_copyFrom) := goodIn_app (goodIn_of _ (by decide +kernel)) ggX5_copyFrom_X6_copyFrom
set_option maxRecDepth 20000 in
theorem gX5_copyFrom_X6_copyFrom_u74X3 : GoodIn wsX5_copyFrom (va_wsU RX5 74 RX3 "TicketGate$Table" ⟨"TicketGate$Services", "copyFrom", "(LTicketGate$Table;)V"⟩ yX6_copyFrom wsX6_copyFrom) := goodIn_app (goodIn_of _ (by decide +kernel)) ggX5_copyFrom_X6_copyFrom
set_option maxRecDepth 20000 in
theorem gX5_copyFrom_X6_copyFrom_u75X7 : GoodIn wsX5_copyFrom (va_wsU RX5 75 RX7 "TicketGate$Table" ⟨"TicketGate$Tickets", "copyFrom", "(LTicketGate$Table;)V"⟩ yX6_copyFrom wsX6_copyFrom) := goodIn_app (goodIn_of _ (by decide +kernel)) ggX5_copyFrom_X6_copyFrom
set_option maxRecDepth 20000 in
theorem gX5_copyFrom_X6_copyFrom_u76X9 : GoodIn wsX5_copyFrom (va_wsU RX5 76 RX9 "TicketGate$Table" ⟨"TicketGate$Uses", "copyFrom", "(LTicketGate$Table;)V"⟩ yX6_copyFrom wsX6_copyFrom) := goodIn_app (goodIn_of _ (by decide +kernel)) ggX5_copyFrom_X6_copyFrom
theorem dX5_copyFrom_0 : decode cX5_copyFrom 0 = .ok (.aload_n 0, 1) := by decide +kernel
theorem dX5_copyFrom_1 : decode cX5_copyFrom 1 = .ok (.getfield 12, 3) := by decide +kernel
theorem dX5_copyFrom_4 : decode cX5_copyFrom 4 = .ok (.aload_n 1, 1) := by decide +kernel
theorem dX5_copyFrom_5 : decode cX5_copyFrom 5 = .ok (.getfield 12, 3) := by decide +kernel
theorem dX5_copyFrom_8 : decode cX5_copyFrom 8 = .ok (.invokevirtual 69, 3) := by decide +kernel
theorem dX5_copyFrom_11 : decode cX5_copyFrom 11 = .ok (.aload_n 0, 1) := by decide +kernel
theorem dX5_copyFrom_12 : decode cX5_copyFrom 12 = .ok (.getfield 21, 3) := by decide +kernel
theorem dX5_copyFrom_15 : decode cX5_copyFrom 15 = .ok (.aload_n 1, 1) := by decide +kernel
theorem dX5_copyFrom_16 : decode cX5_copyFrom 16 = .ok (.getfield 21, 3) := by decide +kernel
theorem dX5_copyFrom_19 : decode cX5_copyFrom 19 = .ok (.invokevirtual 73, 3) := by decide +kernel
theorem dX5_copyFrom_22 : decode cX5_copyFrom 22 = .ok (.aload_n 0, 1) := by decide +kernel
theorem dX5_copyFrom_23 : decode cX5_copyFrom 23 = .ok (.getfield 28, 3) := by decide +kernel
theorem dX5_copyFrom_26 : decode cX5_copyFrom 26 = .ok (.aload_n 1, 1) := by decide +kernel
theorem dX5_copyFrom_27 : decode cX5_copyFrom 27 = .ok (.getfield 28, 3) := by decide +kernel
theorem dX5_copyFrom_30 : decode cX5_copyFrom 30 = .ok (.invokevirtual 74, 3) := by decide +kernel
theorem dX5_copyFrom_33 : decode cX5_copyFrom 33 = .ok (.aload_n 0, 1) := by decide +kernel
theorem dX5_copyFrom_34 : decode cX5_copyFrom 34 = .ok (.getfield 35, 3) := by decide +kernel
theorem dX5_copyFrom_37 : decode cX5_copyFrom 37 = .ok (.aload_n 1, 1) := by decide +kernel
theorem dX5_copyFrom_38 : decode cX5_copyFrom 38 = .ok (.getfield 35, 3) := by decide +kernel
theorem dX5_copyFrom_41 : decode cX5_copyFrom 41 = .ok (.invokevirtual 75, 3) := by decide +kernel
theorem dX5_copyFrom_44 : decode cX5_copyFrom 44 = .ok (.aload_n 0, 1) := by decide +kernel
theorem dX5_copyFrom_45 : decode cX5_copyFrom 45 = .ok (.getfield 42, 3) := by decide +kernel
theorem dX5_copyFrom_48 : decode cX5_copyFrom 48 = .ok (.aload_n 1, 1) := by decide +kernel
theorem dX5_copyFrom_49 : decode cX5_copyFrom 49 = .ok (.getfield 42, 3) := by decide +kernel
theorem dX5_copyFrom_52 : decode cX5_copyFrom 52 = .ok (.invokevirtual 76, 3) := by decide +kernel
theorem dX5_copyFrom_55 : decode cX5_copyFrom 55 = .ok (.aload_n 0, 1) := by decide +kernel
theorem dX5_copyFrom_56 : decode cX5_copyFrom 56 = .ok (.aload_n 1, 1) := by decide +kernel
theorem dX5_copyFrom_57 : decode cX5_copyFrom 57 = .ok (.getfield 53, 3) := by decide +kernel
theorem dX5_copyFrom_60 : decode cX5_copyFrom 60 = .ok (.putfield 53, 3) := by decide +kernel
theorem dX5_copyFrom_63 : decode cX5_copyFrom 63 = .ok (.aload_n 0, 1) := by decide +kernel
theorem dX5_copyFrom_64 : decode cX5_copyFrom 64 = .ok (.aload_n 1, 1) := by decide +kernel
theorem dX5_copyFrom_65 : decode cX5_copyFrom 65 = .ok (.getfield 57, 3) := by decide +kernel
theorem dX5_copyFrom_68 : decode cX5_copyFrom 68 = .ok (.putfield 57, 3) := by decide +kernel
theorem dX5_copyFrom_71 : decode cX5_copyFrom 71 = .ok (.aload_n 0, 1) := by decide +kernel
theorem dX5_copyFrom_72 : decode cX5_copyFrom 72 = .ok (.aload_n 1, 1) := by decide +kernel
theorem dX5_copyFrom_73 : decode cX5_copyFrom 73 = .ok (.getfield 60, 3) := by decide +kernel
theorem dX5_copyFrom_76 : decode cX5_copyFrom 76 = .ok (.putfield 60, 3) := by decide +kernel
theorem dX5_copyFrom_79 : decode cX5_copyFrom 79 = .ok (.aload_n 0, 1) := by decide +kernel
theorem dX5_copyFrom_80 : decode cX5_copyFrom 80 = .ok (.aload_n 1, 1) := by decide +kernel
theorem dX5_copyFrom_81 : decode cX5_copyFrom 81 = .ok (.getfield 63, 3) := by decide +kernel
theorem dX5_copyFrom_84 : decode cX5_copyFrom 84 = .ok (.putfield 63, 3) := by decide +kernel
theorem dX5_copyFrom_87 : decode cX5_copyFrom 87 = .ok (.aload_n 0, 1) := by decide +kernel
theorem dX5_copyFrom_88 : decode cX5_copyFrom 88 = .ok (.aload_n 1, 1) := by decide +kernel
theorem dX5_copyFrom_89 : decode cX5_copyFrom 89 = .ok (.getfield 66, 3) := by decide +kernel
theorem dX5_copyFrom_92 : decode cX5_copyFrom 92 = .ok (.putfield 66, 3) := by decide +kernel
theorem dX5_copyFrom_95 : decode cX5_copyFrom 95 = .ok (.return_, 1) := by decide +kernel
set_option maxRecDepth 20000 in
theorem ggX5_codeOfName_X6_rowWith : GoodIn wsX5_codeOfName wsX6_rowWith := goodIn_r _ [9, 10, 11, 12, 13, 14, 8, 15, 16, 17, 18, 19, 20, 21, 22, 39, 40, 41, 42, 43, 44, 45, 46, 47, 48, 49, 50, 51, 52, 53, 54, 55, 56, 57, 58, 59, 60, 61, 62] (by decide +kernel) (by decide +kernel)
set_option maxRecDepth 20000 in
theorem gX5_codeOfName_X6_rowWith_u77X2 : GoodIn wsX5_codeOfName (va_wsU RX5 77 RX2 "TicketGate$Table" ⟨"TicketGate$Realms", "rowWith", "(II)I"⟩ yX6_rowWith wsX6_rowWith) := goodIn_app (goodIn_of _ (by decide +kernel)) ggX5_codeOfName_X6_rowWith
set_option maxRecDepth 20000 in
theorem gX5_codeOfName_X6_rowWith_u81X8 : GoodIn wsX5_codeOfName (va_wsU RX5 81 RX8 "TicketGate$Table" ⟨"TicketGate$Users", "rowWith", "(II)I"⟩ yX6_rowWith wsX6_rowWith) := goodIn_app (goodIn_of _ (by decide +kernel)) ggX5_codeOfName_X6_rowWith
set_option maxRecDepth 20000 in
theorem gX5_codeOfName_X6_rowWith_u82X3 : GoodIn wsX5_codeOfName (va_wsU RX5 82 RX3 "TicketGate$Table" ⟨"TicketGate$Services", "rowWith", "(II)I"⟩ yX6_rowWith wsX6_rowWith) := goodIn_app (goodIn_of _ (by decide +kernel)) ggX5_codeOfName_X6_rowWith
theorem dX5_codeOfName_0 : decode cX5_codeOfName 0 = .ok (.aload_n 0, 1) := by decide +kernel
theorem dX5_codeOfName_1 : decode cX5_codeOfName 1 = .ok (.getfield 12, 3) := by decide +kernel
theorem dX5_codeOfName_4 : decode cX5_codeOfName 4 = .ok (.iconst 0, 1) := by decide +kernel
theorem dX5_codeOfName_5 : decode cX5_codeOfName 5 = .ok (.iload_n 1, 1) := by decide +kernel
theorem dX5_codeOfName_6 : decode cX5_codeOfName 6 = .ok (.invokevirtual 77, 3) := by decide +kernel
theorem dX5_codeOfName_9 : decode cX5_codeOfName 9 = .ok (.istore_n 2, 1) := by decide +kernel
theorem dX5_codeOfName_10 : decode cX5_codeOfName 10 = .ok (.aload_n 0, 1) := by decide +kernel
theorem dX5_codeOfName_11 : decode cX5_codeOfName 11 = .ok (.getfield 21, 3) := by decide +kernel
theorem dX5_codeOfName_14 : decode cX5_codeOfName 14 = .ok (.iconst 0, 1) := by decide +kernel
theorem dX5_codeOfName_15 : decode cX5_codeOfName 15 = .ok (.iload_n 1, 1) := by decide +kernel
theorem dX5_codeOfName_16 : decode cX5_codeOfName 16 = .ok (.invokevirtual 81, 3) := by decide +kernel
theorem dX5_codeOfName_19 : decode cX5_codeOfName 19 = .ok (.istore_n 3, 1) := by decide +kernel
theorem dX5_codeOfName_20 : decode cX5_codeOfName 20 = .ok (.aload_n 0, 1) := by decide +kernel
theorem dX5_codeOfName_21 : decode cX5_codeOfName 21 = .ok (.getfield 28, 3) := by decide +kernel
theorem dX5_codeOfName_24 : decode cX5_codeOfName 24 = .ok (.iconst 0, 1) := by decide +kernel
theorem dX5_codeOfName_25 : decode cX5_codeOfName 25 = .ok (.iload_n 1, 1) := by decide +kernel
theorem dX5_codeOfName_26 : decode cX5_codeOfName 26 = .ok (.invokevirtual 82, 3) := by decide +kernel
theorem dX5_codeOfName_29 : decode cX5_codeOfName 29 = .ok (.istore 4, 2) := by decide +kernel
theorem dX5_codeOfName_31 : decode cX5_codeOfName 31 = .ok (.iload_n 2, 1) := by decide +kernel
theorem dX5_codeOfName_32 : decode cX5_codeOfName 32 = .ok (.iconst (-1), 1) := by decide +kernel
theorem dX5_codeOfName_33 : decode cX5_codeOfName 33 = .ok (.if_icmp .eq 5, 3) := by decide +kernel
theorem dX5_codeOfName_36 : decode cX5_codeOfName 36 = .ok (.iload_n 2, 1) := by decide +kernel
theorem dX5_codeOfName_37 : decode cX5_codeOfName 37 = .ok (.ireturn, 1) := by decide +kernel
theorem dX5_codeOfName_38 : decode cX5_codeOfName 38 = .ok (.iload_n 3, 1) := by decide +kernel
theorem dX5_codeOfName_39 : decode cX5_codeOfName 39 = .ok (.iconst (-1), 1) := by decide +kernel
theorem dX5_codeOfName_40 : decode cX5_codeOfName 40 = .ok (.if_icmp .eq 8, 3) := by decide +kernel
theorem dX5_codeOfName_43 : decode cX5_codeOfName 43 = .ok (.bipush 100, 2) := by decide +kernel
theorem dX5_codeOfName_45 : decode cX5_codeOfName 45 = .ok (.iload_n 3, 1) := by decide +kernel
theorem dX5_codeOfName_46 : decode cX5_codeOfName 46 = .ok (.iadd, 1) := by decide +kernel
theorem dX5_codeOfName_47 : decode cX5_codeOfName 47 = .ok (.ireturn, 1) := by decide +kernel
theorem dX5_codeOfName_48 : decode cX5_codeOfName 48 = .ok (.iload 4, 2) := by decide +kernel
theorem dX5_codeOfName_50 : decode cX5_codeOfName 50 = .ok (.iconst (-1), 1) := by decide +kernel
theorem dX5_codeOfName_51 : decode cX5_codeOfName 51 = .ok (.if_icmp .ne 7, 3) := by decide +kernel
theorem dX5_codeOfName_54 : decode cX5_codeOfName 54 = .ok (.iconst (-1), 1) := by decide +kernel
theorem dX5_codeOfName_55 : decode cX5_codeOfName 55 = .ok (.goto 9, 3) := by decide +kernel
theorem dX5_codeOfName_58 : decode cX5_codeOfName 58 = .ok (.sipush 200, 3) := by decide +kernel
theorem dX5_codeOfName_61 : decode cX5_codeOfName 61 = .ok (.iload 4, 2) := by decide +kernel
theorem dX5_codeOfName_63 : decode cX5_codeOfName 63 = .ok (.iadd, 1) := by decide +kernel
theorem dX5_codeOfName_64 : decode cX5_codeOfName 64 = .ok (.ireturn, 1) := by decide +kernel
set_option maxRecDepth 20000 in
theorem ggX5_skewOf_X6_get : GoodIn wsX5_skewOf wsX6_get := goodIn_r _ [12, 13, 14, 15, 29, 30, 31, 32, 33, 34, 35, 36, 37, 38, 39, 40, 41, 42, 43, 44, 45, 46, 47, 48, 49, 50, 51, 52] (by decide +kernel) (by decide +kernel)
set_option maxRecDepth 20000 in
theorem gX5_skewOf_X6_get_u83X8 : GoodIn wsX5_skewOf (va_wsU RX5 83 RX8 "TicketGate$Table" ⟨"TicketGate$Users", "get", "(II)I"⟩ yX6_get wsX6_get) := goodIn_app (goodIn_of _ (by decide +kernel)) ggX5_skewOf_X6_get
set_option maxRecDepth 20000 in
theorem gX5_skewOf_X6_get_u86X2 : GoodIn wsX5_skewOf (va_wsU RX5 86 RX2 "TicketGate$Table" ⟨"TicketGate$Realms", "get", "(II)I"⟩ yX6_get wsX6_get) := goodIn_app (goodIn_of _ (by decide +kernel)) ggX5_skewOf_X6_get
theorem dX5_skewOf_0 : decode cX5_skewOf 0 = .ok (.aload_n 0, 1) := by decide +kernel
theorem dX5_skewOf_1 : decode cX5_skewOf 1 = .ok (.getfield 21, 3) := by decide +kernel
theorem dX5_skewOf_4 : decode cX5_skewOf 4 = .ok (.iload_n 1, 1) := by decide +kernel
theorem dX5_skewOf_5 : decode cX5_skewOf 5 = .ok (.iconst 3, 1) := by decide +kernel
theorem dX5_skewOf_6 : decode cX5_skewOf 6 = .ok (.invokevirtual 83, 3) := by decide +kernel
theorem dX5_skewOf_9 : decode cX5_skewOf 9 = .ok (.aload_n 0, 1) := by decide +kernel
theorem dX5_skewOf_10 : decode cX5_skewOf 10 = .ok (.getfield 12, 3) := by decide +kernel
theorem dX5_skewOf_13 : decode cX5_skewOf 13 = .ok (.iload_n 2, 1) := by decide +kernel
theorem dX5_skewOf_14 : decode cX5_skewOf 14 = .ok (.iconst 3, 1) := by decide +kernel
theorem dX5_skewOf_15 : decode cX5_skewOf 15 = .ok (.invokevirtual 86, 3) := by decide +kernel
theorem dX5_skewOf_18 : decode cX5_skewOf 18 = .ok (.isub, 1) := by decide +kernel
theorem dX5_skewOf_19 : decode cX5_skewOf 19 = .ok (.invokestatic 87, 3) := by decide +kernel
theorem dX5_skewOf_22 : decode cX5_skewOf 22 = .ok (.ireturn, 1) := by decide +kernel
set_option maxRecDepth 20000 in
theorem ggX5_isSkewed_X6_get : GoodIn wsX5_isSkewed wsX6_get := goodIn_r _ [8, 9, 10, 11, 39, 40, 41, 42, 43, 44, 45, 46, 47, 48, 49, 50, 51, 52, 53, 54, 55, 56, 57, 58, 59, 60, 61, 62] (by decide +kernel) (by decide +kernel)
set_option maxRecDepth 20000 in
theorem gX5_isSkewed_X6_get_u93X7 : GoodIn wsX5_isSkewed (va_wsU RX5 93 RX7 "TicketGate$Table" ⟨"TicketGate$Tickets", "get", "(II)I"⟩ yX6_get wsX6_get) := goodIn_app (goodIn_of _ (by decide +kernel)) ggX5_isSkewed_X6_get
set_option maxRecDepth 20000 in
theorem ggX5_isSkewed_X5_skewOf : GoodIn wsX5_isSkewed wsX5_skewOf := goodIn_r _ [16, 17, 18, 19, 20, 21, 22, 23, 24, 25, 6, 7, 8, 9, 10, 11, 26, 27, 28, 29, 30, 31, 32, 33, 34, 35, 36, 37, 38, 39, 40, 41, 42, 43, 44, 45, 46, 47, 48, 49, 50, 51, 52, 53, 54, 55, 56, 57, 58, 59, 60, 61, 62] (by decide +kernel) (by decide +kernel)
set_option maxRecDepth 20000 in
theorem gX5_isSkewed_X5_skewOf : GoodIn wsX5_isSkewed (wsV RX5 94 RX5 yX5_skewOf wsX5_skewOf) := goodIn_app (goodIn_of _ (by decide +kernel)) ggX5_isSkewed_X5_skewOf
theorem dX5_isSkewed_0 : decode cX5_isSkewed 0 = .ok (.aload_n 0, 1) := by decide +kernel
theorem dX5_isSkewed_1 : decode cX5_isSkewed 1 = .ok (.getfield 35, 3) := by decide +kernel
theorem dX5_isSkewed_4 : decode cX5_isSkewed 4 = .ok (.iload_n 1, 1) := by decide +kernel
theorem dX5_isSkewed_5 : decode cX5_isSkewed 5 = .ok (.iconst 2, 1) := by decide +kernel
theorem dX5_isSkewed_6 : decode cX5_isSkewed 6 = .ok (.invokevirtual 93, 3) := by decide +kernel
theorem dX5_isSkewed_9 : decode cX5_isSkewed 9 = .ok (.istore_n 2, 1) := by decide +kernel
theorem dX5_isSkewed_10 : decode cX5_isSkewed 10 = .ok (.aload_n 0, 1) := by decide +kernel
theorem dX5_isSkewed_11 : decode cX5_isSkewed 11 = .ok (.iload_n 2, 1) := by decide +kernel
theorem dX5_isSkewed_12 : decode cX5_isSkewed 12 = .ok (.aload_n 0, 1) := by decide +kernel
theorem dX5_isSkewed_13 : decode cX5_isSkewed 13 = .ok (.getfield 35, 3) := by decide +kernel
theorem dX5_isSkewed_16 : decode cX5_isSkewed 16 = .ok (.iload_n 1, 1) := by decide +kernel
theorem dX5_isSkewed_17 : decode cX5_isSkewed 17 = .ok (.iconst 3, 1) := by decide +kernel
theorem dX5_isSkewed_18 : decode cX5_isSkewed 18 = .ok (.invokevirtual 93, 3) := by decide +kernel
theorem dX5_isSkewed_21 : decode cX5_isSkewed 21 = .ok (.invokevirtual 94, 3) := by decide +kernel
theorem dX5_isSkewed_24 : decode cX5_isSkewed 24 = .ok (.aload_n 0, 1) := by decide +kernel
theorem dX5_isSkewed_25 : decode cX5_isSkewed 25 = .ok (.getfield 57, 3) := by decide +kernel
theorem dX5_isSkewed_28 : decode cX5_isSkewed 28 = .ok (.if_icmp .le 7, 3) := by decide +kernel
theorem dX5_isSkewed_31 : decode cX5_isSkewed 31 = .ok (.iconst 1, 1) := by decide +kernel
theorem dX5_isSkewed_32 : decode cX5_isSkewed 32 = .ok (.goto 4, 3) := by decide +kernel
theorem dX5_isSkewed_35 : decode cX5_isSkewed 35 = .ok (.iconst 0, 1) := by decide +kernel
theorem dX5_isSkewed_36 : decode cX5_isSkewed 36 = .ok (.ireturn, 1) := by decide +kernel
set_option maxRecDepth 20000 in
theorem ggX5_whyNoLogin_X6_get : GoodIn wsX5_whyNoLogin wsX6_get := goodIn_r _ [9, 10, 11, 12, 42, 43, 44, 45, 46, 47, 48, 49, 50, 51, 52, 53, 54, 55, 56, 57, 58, 59, 60, 61, 62, 63, 64, 65] (by decide +kernel) (by decide +kernel)
set_option maxRecDepth 20000 in
theorem gX5_whyNoLogin_X6_get_u83X8 : GoodIn wsX5_whyNoLogin (va_wsU RX5 83 RX8 "TicketGate$Table" ⟨"TicketGate$Users", "get", "(II)I"⟩ yX6_get wsX6_get) := goodIn_app (goodIn_of _ (by decide +kernel)) ggX5_whyNoLogin_X6_get
set_option maxRecDepth 20000 in
theorem ggX5_whyNoLogin_X5_skewOf : GoodIn wsX5_whyNoLogin wsX5_skewOf := goodIn_r _ [17, 1, 18, 19, 20, 21, 22, 4, 5, 6, 7, 8, 9, 10, 11, 12, 23, 24, 25, 32, 33, 34, 35, 36, 37, 38, 39, 40, 41, 42, 43, 44, 45, 46, 47, 48, 49, 50, 51, 52, 53, 54, 55, 56, 57, 58, 59, 60, 61, 62, 63, 64, 65] (by decide +kernel) (by decide +kernel)
set_option maxRecDepth 20000 in
theorem gX5_whyNoLogin_X5_skewOf : GoodIn wsX5_whyNoLogin (wsV RX5 94 RX5 yX5_skewOf wsX5_skewOf) := goodIn_app (goodIn_of _ (by decide +kernel)) ggX5_whyNoLogin_X5_skewOf
set_option maxRecDepth 20000 in
theorem ggX5_whyNoLogin_X6_isFull : GoodIn wsX5_whyNoLogin wsX6_isFull := goodIn_r _ [30, 11, 31, 42, 43, 44, 45, 46, 47, 48, 49, 50, 51, 52, 53, 54, 55, 56, 57, 58, 59, 60, 61, 62, 63, 64, 65] (by decide +kernel) (by decide +kernel)
set_option maxRecDepth 20000 in
theorem gX5_whyNoLogin_X6_isFull_u97X7 : GoodIn wsX5_whyNoLogin (va_wsU RX5 97 RX7 "TicketGate$Table" ⟨"TicketGate$Tickets", "isFull", "()Z"⟩ yX6_isFull wsX6_isFull) := goodIn_app (goodIn_of _ (by decide +kernel)) ggX5_whyNoLogin_X6_isFull
theorem dX5_whyNoLogin_0 : decode cX5_whyNoLogin 0 = .ok (.aload_n 0, 1) := by decide +kernel
theorem dX5_whyNoLogin_1 : decode cX5_whyNoLogin 1 = .ok (.getfield 21, 3) := by decide +kernel
theorem dX5_whyNoLogin_4 : decode cX5_whyNoLogin 4 = .ok (.iload_n 1, 1) := by decide +kernel
theorem dX5_whyNoLogin_5 : decode cX5_whyNoLogin 5 = .ok (.iconst 2, 1) := by decide +kernel
theorem dX5_whyNoLogin_6 : decode cX5_whyNoLogin 6 = .ok (.invokevirtual 83, 3) := by decide +kernel
theorem dX5_whyNoLogin_9 : decode cX5_whyNoLogin 9 = .ok (.iload_n 2, 1) := by decide +kernel
theorem dX5_whyNoLogin_10 : decode cX5_whyNoLogin 10 = .ok (.if_icmp .eq 5, 3) := by decide +kernel
theorem dX5_whyNoLogin_13 : decode cX5_whyNoLogin 13 = .ok (.iconst 1, 1) := by decide +kernel
theorem dX5_whyNoLogin_14 : decode cX5_whyNoLogin 14 = .ok (.ireturn, 1) := by decide +kernel
theorem dX5_whyNoLogin_15 : decode cX5_whyNoLogin 15 = .ok (.aload_n 0, 1) := by decide +kernel
theorem dX5_whyNoLogin_16 : decode cX5_whyNoLogin 16 = .ok (.iload_n 1, 1) := by decide +kernel
theorem dX5_whyNoLogin_17 : decode cX5_whyNoLogin 17 = .ok (.aload_n 0, 1) := by decide +kernel
theorem dX5_whyNoLogin_18 : decode cX5_whyNoLogin 18 = .ok (.getfield 21, 3) := by decide +kernel
theorem dX5_whyNoLogin_21 : decode cX5_whyNoLogin 21 = .ok (.iload_n 1, 1) := by decide +kernel
theorem dX5_whyNoLogin_22 : decode cX5_whyNoLogin 22 = .ok (.iconst 1, 1) := by decide +kernel
theorem dX5_whyNoLogin_23 : decode cX5_whyNoLogin 23 = .ok (.invokevirtual 83, 3) := by decide +kernel
theorem dX5_whyNoLogin_26 : decode cX5_whyNoLogin 26 = .ok (.invokevirtual 94, 3) := by decide +kernel
theorem dX5_whyNoLogin_29 : decode cX5_whyNoLogin 29 = .ok (.aload_n 0, 1) := by decide +kernel
theorem dX5_whyNoLogin_30 : decode cX5_whyNoLogin 30 = .ok (.getfield 57, 3) := by decide +kernel
theorem dX5_whyNoLogin_33 : decode cX5_whyNoLogin 33 = .ok (.if_icmp .le 5, 3) := by decide +kernel
theorem dX5_whyNoLogin_36 : decode cX5_whyNoLogin 36 = .ok (.iconst 2, 1) := by decide +kernel
theorem dX5_whyNoLogin_37 : decode cX5_whyNoLogin 37 = .ok (.ireturn, 1) := by decide +kernel
theorem dX5_whyNoLogin_38 : decode cX5_whyNoLogin 38 = .ok (.aload_n 0, 1) := by decide +kernel
theorem dX5_whyNoLogin_39 : decode cX5_whyNoLogin 39 = .ok (.getfield 35, 3) := by decide +kernel
theorem dX5_whyNoLogin_42 : decode cX5_whyNoLogin 42 = .ok (.invokevirtual 97, 3) := by decide +kernel
theorem dX5_whyNoLogin_45 : decode cX5_whyNoLogin 45 = .ok (.ifCond .eq 7, 3) := by decide +kernel
theorem dX5_whyNoLogin_48 : decode cX5_whyNoLogin 48 = .ok (.iconst 3, 1) := by decide +kernel
theorem dX5_whyNoLogin_49 : decode cX5_whyNoLogin 49 = .ok (.goto 4, 3) := by decide +kernel
theorem dX5_whyNoLogin_52 : decode cX5_whyNoLogin 52 = .ok (.iconst 0, 1) := by decide +kernel
theorem dX5_whyNoLogin_53 : decode cX5_whyNoLogin 53 = .ok (.ireturn, 1) := by decide +kernel
set_option maxRecDepth 20000 in
theorem ggX5_whyNoReferral_X6_get : GoodIn wsX5_whyNoReferral wsX6_get := goodIn_r _ [9, 10, 11, 12, 62, 63, 64, 65, 66, 67, 68, 69, 70, 71, 72, 73, 74, 75, 76, 77, 78, 79, 80, 81, 82, 83, 84, 85] (by decide +kernel) (by decide +kernel)
set_option maxRecDepth 20000 in
theorem gX5_whyNoReferral_X6_get_u93X7 : GoodIn wsX5_whyNoReferral (va_wsU RX5 93 RX7 "TicketGate$Table" ⟨"TicketGate$Tickets", "get", "(II)I"⟩ yX6_get wsX6_get) := goodIn_app (goodIn_of _ (by decide +kernel)) ggX5_whyNoReferral_X6_get
set_option maxRecDepth 20000 in
theorem ggX5_whyNoReferral_X7_isAlive : GoodIn wsX5_whyNoReferral wsX7_isAlive := goodIn_r _ [17, 18, 5, 6, 7, 8, 9, 10, 11, 12, 62, 63, 64, 65, 66, 67, 68, 69, 70, 71, 72, 73, 74, 75, 76, 77, 78, 79, 80, 81, 82, 83, 84, 85] (by decide +kernel) (by decide +kernel)
set_option maxRecDepth 20000 in
theorem gX5_whyNoReferral_X7_isAlive : GoodIn wsX5_whyNoReferral (wsV RX5 101 RX7 yX7_isAlive wsX7_isAlive) := goodIn_app (goodIn_of _ (by decide +kernel)) ggX5_whyNoReferral_X7_isAlive
set_option maxRecDepth 20000 in
theorem ggX5_whyNoReferral_X2_hasTrust : GoodIn wsX5_whyNoReferral wsX2_hasTrust := goodIn_r _ [23, 24, 25, 26, 7, 8, 9, 10, 11, 12, 62, 63, 64, 65, 66, 67, 68, 69, 70, 71, 72, 73, 74, 75, 76, 77, 78, 79, 80, 81, 82, 83, 84, 85] (by decide +kernel) (by decide +kernel)
set_option maxRecDepth 20000 in
theorem gX5_whyNoReferral_X2_hasTrust : GoodIn wsX5_whyNoReferral (wsV RX5 105 RX2 yX2_hasTrust wsX2_hasTrust) := goodIn_app (goodIn_of _ (by decide +kernel)) ggX5_whyNoReferral_X2_hasTrust
set_option maxRecDepth 20000 in
theorem ggX5_whyNoReferral_X5_isSkewed : GoodIn wsX5_whyNoReferral wsX5_isSkewed := goodIn_r _ [31, 1, 32, 4, 5, 6, 7, 8, 9, 10, 11, 12, 33, 34, 35, 30, 36, 37, 3, 38, 39, 40, 41, 42, 43, 44, 45, 25, 26, 52, 53, 54, 55, 56, 57, 58, 59, 60, 61, 62, 63, 64, 65, 66, 67, 68, 69, 70, 71, 72, 73, 74, 75, 76, 77, 78, 79, 80, 81, 82, 83, 84, 85] (by decide +kernel) (by decide +kernel)
set_option maxRecDepth 20000 in
theorem gX5_whyNoReferral_X5_isSkewed : GoodIn wsX5_whyNoReferral (wsV RX5 108 RX5 yX5_isSkewed wsX5_isSkewed) := goodIn_app (goodIn_of _ (by decide +kernel)) ggX5_whyNoReferral_X5_isSkewed
set_option maxRecDepth 20000 in
theorem ggX5_whyNoReferral_X6_isFull : GoodIn wsX5_whyNoReferral wsX6_isFull := goodIn_r _ [50, 11, 51, 62, 63, 64, 65, 66, 67, 68, 69, 70, 71, 72, 73, 74, 75, 76, 77, 78, 79, 80, 81, 82, 83, 84, 85] (by decide +kernel) (by decide +kernel)
set_option maxRecDepth 20000 in
theorem gX5_whyNoReferral_X6_isFull_u97X7 : GoodIn wsX5_whyNoReferral (va_wsU RX5 97 RX7 "TicketGate$Table" ⟨"TicketGate$Tickets", "isFull", "()Z"⟩ yX6_isFull wsX6_isFull) := goodIn_app (goodIn_of _ (by decide +kernel)) ggX5_whyNoReferral_X6_isFull
theorem dX5_whyNoReferral_0 : decode cX5_whyNoReferral 0 = .ok (.aload_n 0, 1) := by decide +kernel
theorem dX5_whyNoReferral_1 : decode cX5_whyNoReferral 1 = .ok (.getfield 35, 3) := by decide +kernel
theorem dX5_whyNoReferral_4 : decode cX5_whyNoReferral 4 = .ok (.iload_n 1, 1) := by decide +kernel
theorem dX5_whyNoReferral_5 : decode cX5_whyNoReferral 5 = .ok (.iconst 1, 1) := by decide +kernel
theorem dX5_whyNoReferral_6 : decode cX5_whyNoReferral 6 = .ok (.invokevirtual 93, 3) := by decide +kernel
theorem dX5_whyNoReferral_9 : decode cX5_whyNoReferral 9 = .ok (.ifCond .eq 5, 3) := by decide +kernel
theorem dX5_whyNoReferral_12 : decode cX5_whyNoReferral 12 = .ok (.iconst 1, 1) := by decide +kernel
theorem dX5_whyNoReferral_13 : decode cX5_whyNoReferral 13 = .ok (.ireturn, 1) := by decide +kernel
theorem dX5_whyNoReferral_14 : decode cX5_whyNoReferral 14 = .ok (.aload_n 0, 1) := by decide +kernel
theorem dX5_whyNoReferral_15 : decode cX5_whyNoReferral 15 = .ok (.getfield 35, 3) := by decide +kernel
theorem dX5_whyNoReferral_18 : decode cX5_whyNoReferral 18 = .ok (.iload_n 1, 1) := by decide +kernel
theorem dX5_whyNoReferral_19 : decode cX5_whyNoReferral 19 = .ok (.aload_n 0, 1) := by decide +kernel
theorem dX5_whyNoReferral_20 : decode cX5_whyNoReferral 20 = .ok (.getfield 53, 3) := by decide +kernel
theorem dX5_whyNoReferral_23 : decode cX5_whyNoReferral 23 = .ok (.invokevirtual 101, 3) := by decide +kernel
theorem dX5_whyNoReferral_26 : decode cX5_whyNoReferral 26 = .ok (.ifCond .ne 5, 3) := by decide +kernel
theorem dX5_whyNoReferral_29 : decode cX5_whyNoReferral 29 = .ok (.iconst 2, 1) := by decide +kernel
theorem dX5_whyNoReferral_30 : decode cX5_whyNoReferral 30 = .ok (.ireturn, 1) := by decide +kernel
theorem dX5_whyNoReferral_31 : decode cX5_whyNoReferral 31 = .ok (.aload_n 0, 1) := by decide +kernel
theorem dX5_whyNoReferral_32 : decode cX5_whyNoReferral 32 = .ok (.getfield 12, 3) := by decide +kernel
theorem dX5_whyNoReferral_35 : decode cX5_whyNoReferral 35 = .ok (.aload_n 0, 1) := by decide +kernel
theorem dX5_whyNoReferral_36 : decode cX5_whyNoReferral 36 = .ok (.getfield 35, 3) := by decide +kernel
theorem dX5_whyNoReferral_39 : decode cX5_whyNoReferral 39 = .ok (.iload_n 1, 1) := by decide +kernel
theorem dX5_whyNoReferral_40 : decode cX5_whyNoReferral 40 = .ok (.iconst 3, 1) := by decide +kernel
theorem dX5_whyNoReferral_41 : decode cX5_whyNoReferral 41 = .ok (.invokevirtual 93, 3) := by decide +kernel
theorem dX5_whyNoReferral_44 : decode cX5_whyNoReferral 44 = .ok (.iload_n 2, 1) := by decide +kernel
theorem dX5_whyNoReferral_45 : decode cX5_whyNoReferral 45 = .ok (.invokevirtual 105, 3) := by decide +kernel
theorem dX5_whyNoReferral_48 : decode cX5_whyNoReferral 48 = .ok (.ifCond .ne 5, 3) := by decide +kernel
theorem dX5_whyNoReferral_51 : decode cX5_whyNoReferral 51 = .ok (.iconst 3, 1) := by decide +kernel
theorem dX5_whyNoReferral_52 : decode cX5_whyNoReferral 52 = .ok (.ireturn, 1) := by decide +kernel
theorem dX5_whyNoReferral_53 : decode cX5_whyNoReferral 53 = .ok (.aload_n 0, 1) := by decide +kernel
theorem dX5_whyNoReferral_54 : decode cX5_whyNoReferral 54 = .ok (.iload_n 1, 1) := by decide +kernel
theorem dX5_whyNoReferral_55 : decode cX5_whyNoReferral 55 = .ok (.invokevirtual 108, 3) := by decide +kernel
theorem dX5_whyNoReferral_58 : decode cX5_whyNoReferral 58 = .ok (.ifCond .eq 5, 3) := by decide +kernel
theorem dX5_whyNoReferral_61 : decode cX5_whyNoReferral 61 = .ok (.iconst 4, 1) := by decide +kernel
theorem dX5_whyNoReferral_62 : decode cX5_whyNoReferral 62 = .ok (.ireturn, 1) := by decide +kernel
theorem dX5_whyNoReferral_63 : decode cX5_whyNoReferral 63 = .ok (.aload_n 0, 1) := by decide +kernel
theorem dX5_whyNoReferral_64 : decode cX5_whyNoReferral 64 = .ok (.getfield 35, 3) := by decide +kernel
theorem dX5_whyNoReferral_67 : decode cX5_whyNoReferral 67 = .ok (.invokevirtual 97, 3) := by decide +kernel
theorem dX5_whyNoReferral_70 : decode cX5_whyNoReferral 70 = .ok (.ifCond .eq 7, 3) := by decide +kernel
theorem dX5_whyNoReferral_73 : decode cX5_whyNoReferral 73 = .ok (.iconst 5, 1) := by decide +kernel
theorem dX5_whyNoReferral_74 : decode cX5_whyNoReferral 74 = .ok (.goto 4, 3) := by decide +kernel
theorem dX5_whyNoReferral_77 : decode cX5_whyNoReferral 77 = .ok (.iconst 0, 1) := by decide +kernel
theorem dX5_whyNoReferral_78 : decode cX5_whyNoReferral 78 = .ok (.ireturn, 1) := by decide +kernel
set_option maxRecDepth 20000 in
theorem ggX5_whyNoRequest_X6_get : GoodIn wsX5_whyNoRequest wsX6_get := goodIn_r _ [9, 10, 11, 12, 60, 61, 62, 63, 64, 65, 66, 67, 68, 69, 70, 71, 72, 73, 74, 75, 76, 77, 78, 79, 80, 81, 82, 83] (by decide +kernel) (by decide +kernel)
set_option maxRecDepth 20000 in
theorem gX5_whyNoRequest_X6_get_u93X7 : GoodIn wsX5_whyNoRequest (va_wsU RX5 93 RX7 "TicketGate$Table" ⟨"TicketGate$Tickets", "get", "(II)I"⟩ yX6_get wsX6_get) := goodIn_app (goodIn_of _ (by decide +kernel)) ggX5_whyNoRequest_X6_get
set_option maxRecDepth 20000 in
theorem ggX5_whyNoRequest_X7_isAlive : GoodIn wsX5_whyNoRequest wsX7_isAlive := goodIn_r _ [17, 18, 5, 6, 7, 8, 9, 10, 11, 12, 60, 61, 62, 63, 64, 65, 66, 67, 68, 69, 70, 71, 72, 73, 74, 75, 76, 77, 78, 79, 80, 81, 82, 83] (by decide +kernel) (by decide +kernel)
set_option maxRecDepth 20000 in
theorem gX5_whyNoRequest_X7_isAlive : GoodIn wsX5_whyNoRequest (wsV RX5 101 RX7 yX7_isAlive wsX7_isAlive) := goodIn_app (goodIn_of _ (by decide +kernel)) ggX5_whyNoRequest_X7_isAlive
set_option maxRecDepth 20000 in
theorem gX5_whyNoRequest_X6_get_u112X3 : GoodIn wsX5_whyNoRequest (va_wsU RX5 112 RX3 "TicketGate$Table" ⟨"TicketGate$Services", "get", "(II)I"⟩ yX6_get wsX6_get) := goodIn_app (goodIn_of _ (by decide +kernel)) ggX5_whyNoRequest_X6_get
set_option maxRecDepth 20000 in
theorem ggX5_whyNoRequest_X5_isSkewed : GoodIn wsX5_whyNoRequest wsX5_isSkewed := goodIn_r _ [26, 1, 27, 4, 5, 6, 7, 8, 9, 10, 11, 12, 28, 29, 30, 25, 31, 32, 33, 34, 35, 36, 37, 38, 39, 40, 41, 42, 43, 50, 51, 52, 53, 54, 55, 56, 57, 58, 59, 60, 61, 62, 63, 64, 65, 66, 67, 68, 69, 70, 71, 72, 73, 74, 75, 76, 77, 78, 79, 80, 81, 82, 83] (by decide +kernel) (by decide +kernel)
set_option maxRecDepth 20000 in
theorem gX5_whyNoRequest_X5_isSkewed : GoodIn wsX5_whyNoRequest (wsV RX5 108 RX5 yX5_isSkewed wsX5_isSkewed) := goodIn_app (goodIn_of _ (by decide +kernel)) ggX5_whyNoRequest_X5_isSkewed
set_option maxRecDepth 20000 in
theorem ggX5_whyNoRequest_X6_isFull : GoodIn wsX5_whyNoRequest wsX6_isFull := goodIn_r _ [48, 11, 49, 60, 61, 62, 63, 64, 65, 66, 67, 68, 69, 70, 71, 72, 73, 74, 75, 76, 77, 78, 79, 80, 81, 82, 83] (by decide +kernel) (by decide +kernel)
set_option maxRecDepth 20000 in
theorem gX5_whyNoRequest_X6_isFull_u97X7 : GoodIn wsX5_whyNoRequest (va_wsU RX5 97 RX7 "TicketGate$Table" ⟨"TicketGate$Tickets", "isFull", "()Z"⟩ yX6_isFull wsX6_isFull) := goodIn_app (goodIn_of _ (by decide +kernel)) ggX5_whyNoRequest_X6_isFull
theorem dX5_whyNoRequest_0 : decode cX5_whyNoRequest 0 = .ok (.aload_n 0, 1) := by decide +kernel
theorem dX5_whyNoRequest_1 : decode cX5_whyNoRequest 1 = .ok (.getfield 35, 3) := by decide +kernel
theorem dX5_whyNoRequest_4 : decode cX5_whyNoRequest 4 = .ok (.iload_n 1, 1) := by decide +kernel
theorem dX5_whyNoRequest_5 : decode cX5_whyNoRequest 5 = .ok (.iconst 1, 1) := by decide +kernel
theorem dX5_whyNoRequest_6 : decode cX5_whyNoRequest 6 = .ok (.invokevirtual 93, 3) := by decide +kernel
theorem dX5_whyNoRequest_9 : decode cX5_whyNoRequest 9 = .ok (.ifCond .eq 5, 3) := by decide +kernel
theorem dX5_whyNoRequest_12 : decode cX5_whyNoRequest 12 = .ok (.iconst 1, 1) := by decide +kernel
theorem dX5_whyNoRequest_13 : decode cX5_whyNoRequest 13 = .ok (.ireturn, 1) := by decide +kernel
theorem dX5_whyNoRequest_14 : decode cX5_whyNoRequest 14 = .ok (.aload_n 0, 1) := by decide +kernel
theorem dX5_whyNoRequest_15 : decode cX5_whyNoRequest 15 = .ok (.getfield 35, 3) := by decide +kernel
theorem dX5_whyNoRequest_18 : decode cX5_whyNoRequest 18 = .ok (.iload_n 1, 1) := by decide +kernel
theorem dX5_whyNoRequest_19 : decode cX5_whyNoRequest 19 = .ok (.aload_n 0, 1) := by decide +kernel
theorem dX5_whyNoRequest_20 : decode cX5_whyNoRequest 20 = .ok (.getfield 53, 3) := by decide +kernel
theorem dX5_whyNoRequest_23 : decode cX5_whyNoRequest 23 = .ok (.invokevirtual 101, 3) := by decide +kernel
theorem dX5_whyNoRequest_26 : decode cX5_whyNoRequest 26 = .ok (.ifCond .ne 5, 3) := by decide +kernel
theorem dX5_whyNoRequest_29 : decode cX5_whyNoRequest 29 = .ok (.iconst 2, 1) := by decide +kernel
theorem dX5_whyNoRequest_30 : decode cX5_whyNoRequest 30 = .ok (.ireturn, 1) := by decide +kernel
theorem dX5_whyNoRequest_31 : decode cX5_whyNoRequest 31 = .ok (.aload_n 0, 1) := by decide +kernel
theorem dX5_whyNoRequest_32 : decode cX5_whyNoRequest 32 = .ok (.getfield 35, 3) := by decide +kernel
theorem dX5_whyNoRequest_35 : decode cX5_whyNoRequest 35 = .ok (.iload_n 1, 1) := by decide +kernel
theorem dX5_whyNoRequest_36 : decode cX5_whyNoRequest 36 = .ok (.iconst 3, 1) := by decide +kernel
theorem dX5_whyNoRequest_37 : decode cX5_whyNoRequest 37 = .ok (.invokevirtual 93, 3) := by decide +kernel
theorem dX5_whyNoRequest_40 : decode cX5_whyNoRequest 40 = .ok (.aload_n 0, 1) := by decide +kernel
theorem dX5_whyNoRequest_41 : decode cX5_whyNoRequest 41 = .ok (.getfield 28, 3) := by decide +kernel
theorem dX5_whyNoRequest_44 : decode cX5_whyNoRequest 44 = .ok (.iload_n 2, 1) := by decide +kernel
theorem dX5_whyNoRequest_45 : decode cX5_whyNoRequest 45 = .ok (.iconst 1, 1) := by decide +kernel
theorem dX5_whyNoRequest_46 : decode cX5_whyNoRequest 46 = .ok (.invokevirtual 112, 3) := by decide +kernel
theorem dX5_whyNoRequest_49 : decode cX5_whyNoRequest 49 = .ok (.if_icmp .eq 5, 3) := by decide +kernel
theorem dX5_whyNoRequest_52 : decode cX5_whyNoRequest 52 = .ok (.iconst 3, 1) := by decide +kernel
theorem dX5_whyNoRequest_53 : decode cX5_whyNoRequest 53 = .ok (.ireturn, 1) := by decide +kernel
theorem dX5_whyNoRequest_54 : decode cX5_whyNoRequest 54 = .ok (.aload_n 0, 1) := by decide +kernel
