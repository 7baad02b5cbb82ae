theorem dX0_init_0 : decode cX0_init 0 = .ok (.aload_n 0, 1) := by decide +kernel
theorem dX0_init_1 : decode cX0_init 1 = .ok (.invokespecial 3, 3) := by decide +kernel
theorem dX0_init_4 : decode cX0_init 4 = .ok (.aload_n 0, 1) := by decide +kernel
theorem dX0_init_5 : decode cX0_init 5 = .ok (.iconst 0, 1) := by decide +kernel
theorem dX0_init_6 : decode cX0_init 6 = .ok (.iload_n 1, 1) := by decide +kernel
theorem dX0_init_7 : decode cX0_init 7 = .ok (.invokestatic 9, 3) := by decide +kernel
theorem dX0_init_10 : decode cX0_init 10 = .ok (.newarray .int, 2) := by decide +kernel
theorem dX0_init_12 : decode cX0_init 12 = .ok (.putfield 15, 3) := by decide +kernel
theorem dX0_init_15 : decode cX0_init 15 = .ok (.return_, 1) := by decide +kernel
theorem dX0_size_0 : decode cX0_size 0 = .ok (.aload_n 0, 1) := by decide +kernel
theorem dX0_size_1 : decode cX0_size 1 = .ok (.getfield 21, 3) := by decide +kernel
theorem dX0_size_4 : decode cX0_size 4 = .ok (.ireturn, 1) := by decide +kernel
theorem dX0_at_0 : decode cX0_at 0 = .ok (.iload_n 1, 1) := by decide +kernel
theorem dX0_at_1 : decode cX0_at 1 = .ok (.ifCond .lt 24, 3) := by decide +kernel
theorem dX0_at_4 : decode cX0_at 4 = .ok (.iload_n 1, 1) := by decide +kernel
theorem dX0_at_5 : decode cX0_at 5 = .ok (.aload_n 0, 1) := by decide +kernel
theorem dX0_at_6 : decode cX0_at 6 = .ok (.getfield 21, 3) := by decide +kernel
theorem dX0_at_9 : decode cX0_at 9 = .ok (.if_icmp .ge 16, 3) := by decide +kernel
theorem dX0_at_12 : decode cX0_at 12 = .ok (.iload_n 1, 1) := by decide +kernel
theorem dX0_at_13 : decode cX0_at 13 = .ok (.aload_n 0, 1) := by decide +kernel
theorem dX0_at_14 : decode cX0_at 14 = .ok (.getfield 15, 3) := by decide +kernel
theorem dX0_at_17 : decode cX0_at 17 = .ok (.arraylength, 1) := by decide +kernel
theorem dX0_at_18 : decode cX0_at 18 = .ok (.if_icmp .ge 7, 3) := by decide +kernel
theorem dX0_at_21 : decode cX0_at 21 = .ok (.iconst 1, 1) := by decide +kernel
theorem dX0_at_22 : decode cX0_at 22 = .ok (.goto 4, 3) := by decide +kernel
theorem dX0_at_25 : decode cX0_at 25 = .ok (.iconst 0, 1) := by decide +kernel
theorem dX0_at_26 : decode cX0_at 26 = .ok (.istore_n 2, 1) := by decide +kernel
theorem dX0_at_27 : decode cX0_at 27 = .ok (.iload_n 2, 1) := by decide +kernel
theorem dX0_at_28 : decode cX0_at 28 = .ok (.ifCond .eq 12, 3) := by decide +kernel
theorem dX0_at_31 : decode cX0_at 31 = .ok (.aload_n 0, 1) := by decide +kernel
theorem dX0_at_32 : decode cX0_at 32 = .ok (.getfield 15, 3) := by decide +kernel
theorem dX0_at_35 : decode cX0_at 35 = .ok (.iload_n 1, 1) := by decide +kernel
theorem dX0_at_36 : decode cX0_at 36 = .ok (.iaload, 1) := by decide +kernel
theorem dX0_at_37 : decode cX0_at 37 = .ok (.goto 4, 3) := by decide +kernel
theorem dX0_at_40 : decode cX0_at 40 = .ok (.iconst (-1), 1) := by decide +kernel
theorem dX0_at_41 : decode cX0_at 41 = .ok (.ireturn, 1) := by decide +kernel
theorem dX0_cut_0 : decode cX0_cut 0 = .ok (.aload_n 0, 1) := by decide +kernel
theorem dX0_cut_1 : decode cX0_cut 1 = .ok (.iload_n 1, 1) := by decide +kernel
theorem dX0_cut_2 : decode cX0_cut 2 = .ok (.putfield 21, 3) := by decide +kernel
theorem dX0_cut_5 : decode cX0_cut 5 = .ok (.return_, 1) := by decide +kernel
theorem dX0_add_0 : decode cX0_add 0 = .ok (.aload_n 0, 1) := by decide +kernel
theorem dX0_add_1 : decode cX0_add 1 = .ok (.getfield 21, 3) := by decide +kernel
theorem dX0_add_4 : decode cX0_add 4 = .ok (.ifCond .lt 39, 3) := by decide +kernel
theorem dX0_add_7 : decode cX0_add 7 = .ok (.aload_n 0, 1) := by decide +kernel
theorem dX0_add_8 : decode cX0_add 8 = .ok (.getfield 21, 3) := by decide +kernel
theorem dX0_add_11 : decode cX0_add 11 = .ok (.aload_n 0, 1) := by decide +kernel
theorem dX0_add_12 : decode cX0_add 12 = .ok (.getfield 15, 3) := by decide +kernel
theorem dX0_add_15 : decode cX0_add 15 = .ok (.arraylength, 1) := by decide +kernel
theorem dX0_add_16 : decode cX0_add 16 = .ok (.if_icmp .ge 27, 3) := by decide +kernel
theorem dX0_add_19 : decode cX0_add 19 = .ok (.aload_n 0, 1) := by decide +kernel
theorem dX0_add_20 : decode cX0_add 20 = .ok (.getfield 15, 3) := by decide +kernel
theorem dX0_add_23 : decode cX0_add 23 = .ok (.aload_n 0, 1) := by decide +kernel
theorem dX0_add_24 : decode cX0_add 24 = .ok (.getfield 21, 3) := by decide +kernel
theorem dX0_add_27 : decode cX0_add 27 = .ok (.iload_n 1, 1) := by decide +kernel
theorem dX0_add_28 : decode cX0_add 28 = .ok (.sipush 255, 3) := by decide +kernel
theorem dX0_add_31 : decode cX0_add 31 = .ok (.iand, 1) := by decide +kernel
theorem dX0_add_32 : decode cX0_add 32 = .ok (.iastore, 1) := by decide +kernel
theorem dX0_add_33 : decode cX0_add 33 = .ok (.aload_n 0, 1) := by decide +kernel
theorem dX0_add_34 : decode cX0_add 34 = .ok (.dup, 1) := by decide +kernel
theorem dX0_add_35 : decode cX0_add 35 = .ok (.getfield 21, 3) := by decide +kernel
theorem dX0_add_38 : decode cX0_add 38 = .ok (.iconst 1, 1) := by decide +kernel
theorem dX0_add_39 : decode cX0_add 39 = .ok (.iadd, 1) := by decide +kernel
theorem dX0_add_40 : decode cX0_add 40 = .ok (.putfield 21, 3) := by decide +kernel
theorem dX0_add_43 : decode cX0_add 43 = .ok (.return_, 1) := by decide +kernel
theorem dX0_addFour_0 : decode cX0_addFour 0 = .ok (.aload_n 0, 1) := by decide +kernel
theorem dX0_addFour_1 : decode cX0_addFour 1 = .ok (.iload_n 1, 1) := by decide +kernel
theorem dX0_addFour_2 : decode cX0_addFour 2 = .ok (.bipush 24, 2) := by decide +kernel
theorem dX0_addFour_4 : decode cX0_addFour 4 = .ok (.iushr, 1) := by decide +kernel
theorem dX0_addFour_5 : decode cX0_addFour 5 = .ok (.invokevirtual 25, 3) := by decide +kernel
theorem dX0_addFour_8 : decode cX0_addFour 8 = .ok (.aload_n 0, 1) := by decide +kernel
theorem dX0_addFour_9 : decode cX0_addFour 9 = .ok (.iload_n 1, 1) := by decide +kernel
theorem dX0_addFour_10 : decode cX0_addFour 10 = .ok (.bipush 16, 2) := by decide +kernel
theorem dX0_addFour_12 : decode cX0_addFour 12 = .ok (.iushr, 1) := by decide +kernel
theorem dX0_addFour_13 : decode cX0_addFour 13 = .ok (.invokevirtual 25, 3) := by decide +kernel
theorem dX0_addFour_16 : decode cX0_addFour 16 = .ok (.aload_n 0, 1) := by decide +kernel
theorem dX0_addFour_17 : decode cX0_addFour 17 = .ok (.iload_n 1, 1) := by decide +kernel
theorem dX0_addFour_18 : decode cX0_addFour 18 = .ok (.bipush 8, 2) := by decide +kernel
theorem dX0_addFour_20 : decode cX0_addFour 20 = .ok (.iushr, 1) := by decide +kernel
theorem dX0_addFour_21 : decode cX0_addFour 21 = .ok (.invokevirtual 25, 3) := by decide +kernel
theorem dX0_addFour_24 : decode cX0_addFour 24 = .ok (.aload_n 0, 1) := by decide +kernel
theorem dX0_addFour_25 : decode cX0_addFour 25 = .ok (.iload_n 1, 1) := by decide +kernel
theorem dX0_addFour_26 : decode cX0_addFour 26 = .ok (.invokevirtual 25, 3) := by decide +kernel
theorem dX0_addFour_29 : decode cX0_addFour 29 = .ok (.return_, 1) := by decide +kernel
theorem dX0_addText_0 : decode cX0_addText 0 = .ok (.iconst 0, 1) := by decide +kernel
theorem dX0_addText_1 : decode cX0_addText 1 = .ok (.istore_n 2, 1) := by decide +kernel
theorem dX0_addText_2 : decode cX0_addText 2 = .ok (.iload_n 2, 1) := by decide +kernel
theorem dX0_addText_3 : decode cX0_addText 3 = .ok (.aload_n 1, 1) := by decide +kernel
theorem dX0_addText_4 : decode cX0_addText 4 = .ok (.invokevirtual 29, 3) := by decide +kernel
theorem dX0_addText_7 : decode cX0_addText 7 = .ok (.if_icmp .ge 18, 3) := by decide +kernel
theorem dX0_addText_10 : decode cX0_addText 10 = .ok (.aload_n 0, 1) := by decide +kernel
theorem dX0_addText_11 : decode cX0_addText 11 = .ok (.aload_n 1, 1) := by decide +kernel
theorem dX0_addText_12 : decode cX0_addText 12 = .ok (.iload_n 2, 1) := by decide +kernel
theorem dX0_addText_13 : decode cX0_addText 13 = .ok (.invokevirtual 35, 3) := by decide +kernel
theorem dX0_addText_16 : decode cX0_addText 16 = .ok (.invokevirtual 25, 3) := by decide +kernel
theorem dX0_addText_19 : decode cX0_addText 19 = .ok (.iinc 2 1, 3) := by decide +kernel
theorem dX0_addText_22 : decode cX0_addText 22 = .ok (.goto (-20), 3) := by decide +kernel
theorem dX0_addText_25 : decode cX0_addText 25 = .ok (.return_, 1) := by decide +kernel
theorem dX0_endOfRun_0 : decode cX0_endOfRun 0 = .ok (.iload_n 1, 1) := by decide +kernel
theorem dX0_endOfRun_1 : decode cX0_endOfRun 1 = .ok (.istore 4, 2) := by decide +kernel
theorem dX0_endOfRun_3 : decode cX0_endOfRun 3 = .ok (.iload 4, 2) := by decide +kernel
theorem dX0_endOfRun_5 : decode cX0_endOfRun 5 = .ok (.aload_n 0, 1) := by decide +kernel
theorem dX0_endOfRun_6 : decode cX0_endOfRun 6 = .ok (.getfield 21, 3) := by decide +kernel
theorem dX0_endOfRun_9 : decode cX0_endOfRun 9 = .ok (.if_icmp .ge 29, 3) := by decide +kernel
theorem dX0_endOfRun_12 : decode cX0_endOfRun 12 = .ok (.aload_n 0, 1) := by decide +kernel
theorem dX0_endOfRun_13 : decode cX0_endOfRun 13 = .ok (.iload 4, 2) := by decide +kernel
theorem dX0_endOfRun_15 : decode cX0_endOfRun 15 = .ok (.invokevirtual 40, 3) := by decide +kernel
theorem dX0_endOfRun_18 : decode cX0_endOfRun 18 = .ok (.iload_n 2, 1) := by decide +kernel
theorem dX0_endOfRun_19 : decode cX0_endOfRun 19 = .ok (.if_icmp .lt 19, 3) := by decide +kernel
theorem dX0_endOfRun_22 : decode cX0_endOfRun 22 = .ok (.aload_n 0, 1) := by decide +kernel
theorem dX0_endOfRun_23 : decode cX0_endOfRun 23 = .ok (.iload 4, 2) := by decide +kernel
theorem dX0_endOfRun_25 : decode cX0_endOfRun 25 = .ok (.invokevirtual 40, 3) := by decide +kernel
theorem dX0_endOfRun_28 : decode cX0_endOfRun 28 = .ok (.iload_n 3, 1) := by decide +kernel
theorem dX0_endOfRun_29 : decode cX0_endOfRun 29 = .ok (.if_icmp .gt 9, 3) := by decide +kernel
theorem dX0_endOfRun_32 : decode cX0_endOfRun 32 = .ok (.iinc 4 1, 3) := by decide +kernel
theorem dX0_endOfRun_35 : decode cX0_endOfRun 35 = .ok (.goto (-32), 3) := by decide +kernel
theorem dX0_endOfRun_38 : decode cX0_endOfRun 38 = .ok (.iload 4, 2) := by decide +kernel
theorem dX0_endOfRun_40 : decode cX0_endOfRun 40 = .ok (.ireturn, 1) := by decide +kernel
theorem dX0_endOfBlanks_0 : decode cX0_endOfBlanks 0 = .ok (.iload_n 1, 1) := by decide +kernel
theorem dX0_endOfBlanks_1 : decode cX0_endOfBlanks 1 = .ok (.istore_n 2, 1) := by decide +kernel
theorem dX0_endOfBlanks_2 : decode cX0_endOfBlanks 2 = .ok (.iload_n 2, 1) := by decide +kernel
theorem dX0_endOfBlanks_3 : decode cX0_endOfBlanks 3 = .ok (.aload_n 0, 1) := by decide +kernel
theorem dX0_endOfBlanks_4 : decode cX0_endOfBlanks 4 = .ok (.getfield 21, 3) := by decide +kernel
theorem dX0_endOfBlanks_7 : decode cX0_endOfBlanks 7 = .ok (.if_icmp .ge 29, 3) := by decide +kernel
theorem dX0_endOfBlanks_10 : decode cX0_endOfBlanks 10 = .ok (.aload_n 0, 1) := by decide +kernel
theorem dX0_endOfBlanks_11 : decode cX0_endOfBlanks 11 = .ok (.iload_n 2, 1) := by decide +kernel
theorem dX0_endOfBlanks_12 : decode cX0_endOfBlanks 12 = .ok (.invokevirtual 40, 3) := by decide +kernel
theorem dX0_endOfBlanks_15 : decode cX0_endOfBlanks 15 = .ok (.bipush 32, 2) := by decide +kernel
theorem dX0_endOfBlanks_17 : decode cX0_endOfBlanks 17 = .ok (.if_icmp .eq 13, 3) := by decide +kernel
theorem dX0_endOfBlanks_20 : decode cX0_endOfBlanks 20 = .ok (.aload_n 0, 1) := by decide +kernel
theorem dX0_endOfBlanks_21 : decode cX0_endOfBlanks 21 = .ok (.iload_n 2, 1) := by decide +kernel
theorem dX0_endOfBlanks_22 : decode cX0_endOfBlanks 22 = .ok (.invokevirtual 40, 3) := by decide +kernel
theorem dX0_endOfBlanks_25 : decode cX0_endOfBlanks 25 = .ok (.bipush 10, 2) := by decide +kernel
theorem dX0_endOfBlanks_27 : decode cX0_endOfBlanks 27 = .ok (.if_icmp .ne 9, 3) := by decide +kernel
theorem dX0_endOfBlanks_30 : decode cX0_endOfBlanks 30 = .ok (.iinc 2 1, 3) := by decide +kernel
theorem dX0_endOfBlanks_33 : decode cX0_endOfBlanks 33 = .ok (.goto (-31), 3) := by decide +kernel
theorem dX0_endOfBlanks_36 : decode cX0_endOfBlanks 36 = .ok (.iload_n 2, 1) := by decide +kernel
theorem dX0_endOfBlanks_37 : decode cX0_endOfBlanks 37 = .ok (.ireturn, 1) := by decide +kernel
theorem dX0_nameBetween_0 : decode cX0_nameBetween 0 = .ok (.iload_n 2, 1) := by decide +kernel
theorem dX0_nameBetween_1 : decode cX0_nameBetween 1 = .ok (.iload_n 1, 1) := by decide +kernel
theorem dX0_nameBetween_2 : decode cX0_nameBetween 2 = .ok (.isub, 1) := by decide +kernel
theorem dX0_nameBetween_3 : decode cX0_nameBetween 3 = .ok (.iconst 4, 1) := by decide +kernel
theorem dX0_nameBetween_4 : decode cX0_nameBetween 4 = .ok (.if_icmp .gt 7, 3) := by decide +kernel
theorem dX0_nameBetween_7 : decode cX0_nameBetween 7 = .ok (.iconst 1, 1) := by decide +kernel
theorem dX0_nameBetween_8 : decode cX0_nameBetween 8 = .ok (.goto 4, 3) := by decide +kernel
theorem dX0_nameBetween_11 : decode cX0_nameBetween 11 = .ok (.iconst 0, 1) := by decide +kernel
theorem dX0_nameBetween_12 : decode cX0_nameBetween 12 = .ok (.istore_n 3, 1) := by decide +kernel
theorem dX0_nameBetween_13 : decode cX0_nameBetween 13 = .ok (.iconst 0, 1) := by decide +kernel
theorem dX0_nameBetween_14 : decode cX0_nameBetween 14 = .ok (.istore 4, 2) := by decide +kernel
theorem dX0_nameBetween_16 : decode cX0_nameBetween 16 = .ok (.iload_n 1, 1) := by decide +kernel
theorem dX0_nameBetween_17 : decode cX0_nameBetween 17 = .ok (.istore 5, 2) := by decide +kernel
theorem dX0_nameBetween_19 : decode cX0_nameBetween 19 = .ok (.iload_n 3, 1) := by decide +kernel
theorem dX0_nameBetween_20 : decode cX0_nameBetween 20 = .ok (.ifCond .eq 57, 3) := by decide +kernel
theorem dX0_nameBetween_23 : decode cX0_nameBetween 23 = .ok (.iload 5, 2) := by decide +kernel
theorem dX0_nameBetween_25 : decode cX0_nameBetween 25 = .ok (.iload_n 2, 1) := by decide +kernel
theorem dX0_nameBetween_26 : decode cX0_nameBetween 26 = .ok (.if_icmp .ge 51, 3) := by decide +kernel
theorem dX0_nameBetween_29 : decode cX0_nameBetween 29 = .ok (.aload_n 0, 1) := by decide +kernel
theorem dX0_nameBetween_30 : decode cX0_nameBetween 30 = .ok (.iload 5, 2) := by decide +kernel
theorem dX0_nameBetween_32 : decode cX0_nameBetween 32 = .ok (.invokevirtual 40, 3) := by decide +kernel
theorem dX0_nameBetween_35 : decode cX0_nameBetween 35 = .ok (.bipush 97, 2) := by decide +kernel
theorem dX0_nameBetween_37 : decode cX0_nameBetween 37 = .ok (.if_icmp .lt 18, 3) := by decide +kernel
theorem dX0_nameBetween_40 : decode cX0_nameBetween 40 = .ok (.aload_n 0, 1) := by decide +kernel
theorem dX0_nameBetween_41 : decode cX0_nameBetween 41 = .ok (.iload 5, 2) := by decide +kernel
theorem dX0_nameBetween_43 : decode cX0_nameBetween 43 = .ok (.invokevirtual 40, 3) := by decide +kernel
theorem dX0_nameBetween_46 : decode cX0_nameBetween 46 = .ok (.bipush 122, 2) := by decide +kernel
theorem dX0_nameBetween_48 : decode cX0_nameBetween 48 = .ok (.if_icmp .gt 7, 3) := by decide +kernel
theorem dX0_nameBetween_51 : decode cX0_nameBetween 51 = .ok (.iconst 1, 1) := by decide +kernel
theorem dX0_nameBetween_52 : decode cX0_nameBetween 52 = .ok (.goto 4, 3) := by decide +kernel
theorem dX0_nameBetween_55 : decode cX0_nameBetween 55 = .ok (.iconst 0, 1) := by decide +kernel
theorem dX0_nameBetween_56 : decode cX0_nameBetween 56 = .ok (.istore_n 3, 1) := by decide +kernel
theorem dX0_nameBetween_57 : decode cX0_nameBetween 57 = .ok (.iload 4, 2) := by decide +kernel
theorem dX0_nameBetween_59 : decode cX0_nameBetween 59 = .ok (.bipush 8, 2) := by decide +kernel
theorem dX0_nameBetween_61 : decode cX0_nameBetween 61 = .ok (.ishl, 1) := by decide +kernel
theorem dX0_nameBetween_62 : decode cX0_nameBetween 62 = .ok (.aload_n 0, 1) := by decide +kernel
theorem dX0_nameBetween_63 : decode cX0_nameBetween 63 = .ok (.iload 5, 2) := by decide +kernel
theorem dX0_nameBetween_65 : decode cX0_nameBetween 65 = .ok (.invokevirtual 40, 3) := by decide +kernel
theorem dX0_nameBetween_68 : decode cX0_nameBetween 68 = .ok (.ior, 1) := by decide +kernel
theorem dX0_nameBetween_69 : decode cX0_nameBetween 69 = .ok (.istore 4, 2) := by decide +kernel
theorem dX0_nameBetween_71 : decode cX0_nameBetween 71 = .ok (.iinc 5 1, 3) := by decide +kernel
theorem dX0_nameBetween_74 : decode cX0_nameBetween 74 = .ok (.goto (-55), 3) := by decide +kernel
theorem dX0_nameBetween_77 : decode cX0_nameBetween 77 = .ok (.iload_n 3, 1) := by decide +kernel
theorem dX0_nameBetween_78 : decode cX0_nameBetween 78 = .ok (.ifCond .eq 8, 3) := by decide +kernel
theorem dX0_nameBetween_81 : decode cX0_nameBetween 81 = .ok (.iload 4, 2) := by decide +kernel
theorem dX0_nameBetween_83 : decode cX0_nameBetween 83 = .ok (.goto 4, 3) := by decide +kernel
theorem dX0_nameBetween_86 : decode cX0_nameBetween 86 = .ok (.iconst 0, 1) := by decide +kernel
theorem dX0_nameBetween_87 : decode cX0_nameBetween 87 = .ok (.ireturn, 1) := by decide +kernel
theorem dX0_numberBetween_0 : decode cX0_numberBetween 0 = .ok (.iconst 0, 1) := by decide +kernel
theorem dX0_numberBetween_1 : decode cX0_numberBetween 1 = .ok (.istore_n 3, 1) := by decide +kernel
theorem dX0_numberBetween_2 : decode cX0_numberBetween 2 = .ok (.iload_n 1, 1) := by decide +kernel
theorem dX0_numberBetween_3 : decode cX0_numberBetween 3 = .ok (.istore 4, 2) := by decide +kernel
theorem dX0_numberBetween_5 : decode cX0_numberBetween 5 = .ok (.iload 4, 2) := by decide +kernel
theorem dX0_numberBetween_7 : decode cX0_numberBetween 7 = .ok (.iload_n 2, 1) := by decide +kernel
theorem dX0_numberBetween_8 : decode cX0_numberBetween 8 = .ok (.if_icmp .ge 29, 3) := by decide +kernel
theorem dX0_numberBetween_11 : decode cX0_numberBetween 11 = .ok (.ldc 44, 2) := by decide +kernel
theorem dX0_numberBetween_13 : decode cX0_numberBetween 13 = .ok (.bipush 10, 2) := by decide +kernel
theorem dX0_numberBetween_15 : decode cX0_numberBetween 15 = .ok (.iload_n 3, 1) := by decide +kernel
theorem dX0_numberBetween_16 : decode cX0_numberBetween 16 = .ok (.imul, 1) := by decide +kernel
theorem dX0_numberBetween_17 : decode cX0_numberBetween 17 = .ok (.aload_n 0, 1) := by decide +kernel
theorem dX0_numberBetween_18 : decode cX0_numberBetween 18 = .ok (.iload 4, 2) := by decide +kernel
theorem dX0_numberBetween_20 : decode cX0_numberBetween 20 = .ok (.invokevirtual 40, 3) := by decide +kernel
theorem dX0_numberBetween_23 : decode cX0_numberBetween 23 = .ok (.iadd, 1) := by decide +kernel
theorem dX0_numberBetween_24 : decode cX0_numberBetween 24 = .ok (.bipush 48, 2) := by decide +kernel
theorem dX0_numberBetween_26 : decode cX0_numberBetween 26 = .ok (.isub, 1) := by decide +kernel
theorem dX0_numberBetween_27 : decode cX0_numberBetween 27 = .ok (.invokestatic 45, 3) := by decide +kernel
theorem dX0_numberBetween_30 : decode cX0_numberBetween 30 = .ok (.istore_n 3, 1) := by decide +kernel
theorem dX0_numberBetween_31 : decode cX0_numberBetween 31 = .ok (.iinc 4 1, 3) := by decide +kernel
theorem dX0_numberBetween_34 : decode cX0_numberBetween 34 = .ok (.goto (-29), 3) := by decide +kernel
theorem dX0_numberBetween_37 : decode cX0_numberBetween 37 = .ok (.iload_n 3, 1) := by decide +kernel
theorem dX0_numberBetween_38 : decode cX0_numberBetween 38 = .ok (.ireturn, 1) := by decide +kernel
theorem dX0_isText_0 : decode cX0_isText 0 = .ok (.iload_n 2, 1) := by decide +kernel
theorem dX0_isText_1 : decode cX0_isText 1 = .ok (.iload_n 1, 1) := by decide +kernel
theorem dX0_isText_2 : decode cX0_isText 2 = .ok (.isub, 1) := by decide +kernel
theorem dX0_isText_3 : decode cX0_isText 3 = .ok (.aload_n 3, 1) := by decide +kernel
theorem dX0_isText_4 : decode cX0_isText 4 = .ok (.invokevirtual 29, 3) := by decide +kernel
theorem dX0_isText_7 : decode cX0_isText 7 = .ok (.if_icmp .ne 7, 3) := by decide +kernel
theorem dX0_isText_10 : decode cX0_isText 10 = .ok (.iconst 1, 1) := by decide +kernel
theorem dX0_isText_11 : decode cX0_isText 11 = .ok (.goto 4, 3) := by decide +kernel
theorem dX0_isText_14 : decode cX0_isText 14 = .ok (.iconst 0, 1) := by decide +kernel
theorem dX0_isText_15 : decode cX0_isText 15 = .ok (.istore 4, 2) := by decide +kernel
theorem dX0_isText_17 : decode cX0_isText 17 = .ok (.iconst 0, 1) := by decide +kernel
theorem dX0_isText_18 : decode cX0_isText 18 = .ok (.istore 5, 2) := by decide +kernel
theorem dX0_isText_20 : decode cX0_isText 20 = .ok (.iload 4, 2) := by decide +kernel
theorem dX0_isText_22 : decode cX0_isText 22 = .ok (.ifCond .eq 42, 3) := by decide +kernel
theorem dX0_isText_25 : decode cX0_isText 25 = .ok (.iload 5, 2) := by decide +kernel
theorem dX0_isText_27 : decode cX0_isText 27 = .ok (.aload_n 3, 1) := by decide +kernel
theorem dX0_isText_28 : decode cX0_isText 28 = .ok (.invokevirtual 29, 3) := by decide +kernel
theorem dX0_isText_31 : decode cX0_isText 31 = .ok (.if_icmp .ge 33, 3) := by decide +kernel
theorem dX0_isText_34 : decode cX0_isText 34 = .ok (.aload_n 0, 1) := by decide +kernel
theorem dX0_isText_35 : decode cX0_isText 35 = .ok (.iload_n 1, 1) := by decide +kernel
theorem dX0_isText_36 : decode cX0_isText 36 = .ok (.iload 5, 2) := by decide +kernel
theorem dX0_isText_38 : decode cX0_isText 38 = .ok (.iadd, 1) := by decide +kernel
theorem dX0_isText_39 : decode cX0_isText 39 = .ok (.invokevirtual 40, 3) := by decide +kernel
theorem dX0_isText_42 : decode cX0_isText 42 = .ok (.aload_n 3, 1) := by decide +kernel
theorem dX0_isText_43 : decode cX0_isText 43 = .ok (.iload 5, 2) := by decide +kernel
theorem dX0_isText_45 : decode cX0_isText 45 = .ok (.invokevirtual 35, 3) := by decide +kernel
theorem dX0_isText_48 : decode cX0_isText 48 = .ok (.if_icmp .ne 7, 3) := by decide +kernel
theorem dX0_isText_51 : decode cX0_isText 51 = .ok (.iconst 1, 1) := by decide +kernel
theorem dX0_isText_52 : decode cX0_isText 52 = .ok (.goto 4, 3) := by decide +kernel
theorem dX0_isText_55 : decode cX0_isText 55 = .ok (.iconst 0, 1) := by decide +kernel
theorem dX0_isText_56 : decode cX0_isText 56 = .ok (.istore 4, 2) := by decide +kernel
theorem dX0_isText_58 : decode cX0_isText 58 = .ok (.iinc 5 1, 3) := by decide +kernel
theorem dX0_isText_61 : decode cX0_isText 61 = .ok (.goto (-41), 3) := by decide +kernel
theorem dX0_isText_64 : decode cX0_isText 64 = .ok (.iload 4, 2) := by decide +kernel
theorem dX0_isText_66 : decode cX0_isText 66 = .ok (.ireturn, 1) := by decide +kernel
theorem dX1_init_0 : decode cX1_init 0 = .ok (.aload_n 0, 1) := by decide +kernel
theorem dX1_init_1 : decode cX1_init 1 = .ok (.invokespecial 3, 3) := by decide +kernel
theorem dX1_init_4 : decode cX1_init 4 = .ok (.aload_n 0, 1) := by decide +kernel
theorem dX1_init_5 : decode cX1_init 5 = .ok (.new 9, 3) := by decide +kernel
theorem dX1_init_8 : decode cX1_init 8 = .ok (.dup, 1) := by decide +kernel
theorem dX1_init_9 : decode cX1_init 9 = .ok (.invokespecial 11, 3) := by decide +kernel
theorem dX1_init_12 : decode cX1_init 12 = .ok (.putfield 12, 3) := by decide +kernel
theorem dX1_init_15 : decode cX1_init 15 = .ok (.aload_n 0, 1) := by decide +kernel
theorem dX1_init_16 : decode cX1_init 16 = .ok (.iconst (-1), 1) := by decide +kernel
theorem dX1_init_17 : decode cX1_init 17 = .ok (.putfield 18, 3) := by decide +kernel
theorem dX1_init_20 : decode cX1_init 20 = .ok (.aload_n 0, 1) := by decide +kernel
theorem dX1_init_21 : decode cX1_init 21 = .ok (.aload_n 1, 1) := by decide +kernel
theorem dX1_init_22 : decode cX1_init 22 = .ok (.putfield 22, 3) := by decide +kernel
theorem dX1_init_25 : decode cX1_init 25 = .ok (.return_, 1) := by decide +kernel
theorem dX1_run_0 : decode cX1_run 0 = .ok (.aload_n 0, 1) := by decide +kernel
theorem dX1_run_1 : decode cX1_run 1 = .ok (.iconst 0, 1) := by decide +kernel
theorem dX1_run_2 : decode cX1_run 2 = .ok (.putfield 26, 3) := by decide +kernel
theorem dX1_run_5 : decode cX1_run 5 = .ok (.aload_n 0, 1) := by decide +kernel
theorem dX1_run_6 : decode cX1_run 6 = .ok (.iconst 0, 1) := by decide +kernel
theorem dX1_run_7 : decode cX1_run 7 = .ok (.putfield 29, 3) := by decide +kernel
theorem dX1_run_10 : decode cX1_run 10 = .ok (.aload_n 0, 1) := by decide +kernel
theorem dX1_run_11 : decode cX1_run 11 = .ok (.iconst (-1), 1) := by decide +kernel
theorem dX1_run_12 : decode cX1_run 12 = .ok (.putfield 18, 3) := by decide +kernel
theorem dX1_run_15 : decode cX1_run 15 = .ok (.aload_n 0, 1) := by decide +kernel
theorem dX1_run_16 : decode cX1_run 16 = .ok (.invokevirtual 32, 3) := by decide +kernel
theorem dX1_run_19 : decode cX1_run 19 = .ok (.pop, 1) := by decide +kernel
theorem dX1_run_20 : decode cX1_run 20 = .ok (.aload_n 0, 1) := by decide +kernel
theorem dX1_run_21 : decode cX1_run 21 = .ok (.invokevirtual 36, 3) := by decide +kernel
theorem dX1_run_24 : decode cX1_run 24 = .ok (.iconst 0, 1) := by decide +kernel
theorem dX1_run_25 : decode cX1_run 25 = .ok (.istore_n 1, 1) := by decide +kernel
theorem dX1_run_26 : decode cX1_run 26 = .ok (.iload_n 1, 1) := by decide +kernel
theorem dX1_run_27 : decode cX1_run 27 = .ok (.sipush 600, 3) := by decide +kernel
theorem dX1_run_30 : decode cX1_run 30 = .ok (.if_icmp .ge 27, 3) := by decide +kernel
theorem dX1_run_33 : decode cX1_run 33 = .ok (.aload_n 0, 1) := by decide +kernel
theorem dX1_run_34 : decode cX1_run 34 = .ok (.getfield 29, 3) := by decide +kernel
theorem dX1_run_37 : decode cX1_run 37 = .ok (.ifCond .ne 20, 3) := by decide +kernel
theorem dX1_run_40 : decode cX1_run 40 = .ok (.aload_n 0, 1) := by decide +kernel
theorem dX1_run_41 : decode cX1_run 41 = .ok (.getfield 39, 3) := by decide +kernel
theorem dX1_run_44 : decode cX1_run 44 = .ok (.ifCond .eq 13, 3) := by decide +kernel
theorem dX1_run_47 : decode cX1_run 47 = .ok (.aload_n 0, 1) := by decide +kernel
theorem dX1_run_48 : decode cX1_run 48 = .ok (.invokevirtual 42, 3) := by decide +kernel
theorem dX1_run_51 : decode cX1_run 51 = .ok (.iinc 1 1, 3) := by decide +kernel
theorem dX1_run_54 : decode cX1_run 54 = .ok (.goto (-28), 3) := by decide +kernel
theorem dX1_run_57 : decode cX1_run 57 = .ok (.aload_n 0, 1) := by decide +kernel
theorem dX1_run_58 : decode cX1_run 58 = .ok (.getfield 29, 3) := by decide +kernel
theorem dX1_run_61 : decode cX1_run 61 = .ok (.ifCond .ne 7, 3) := by decide +kernel
theorem dX1_run_64 : decode cX1_run 64 = .ok (.iconst 1, 1) := by decide +kernel
theorem dX1_run_65 : decode cX1_run 65 = .ok (.goto 4, 3) := by decide +kernel
theorem dX1_run_68 : decode cX1_run 68 = .ok (.iconst 0, 1) := by decide +kernel
theorem dX1_run_69 : decode cX1_run 69 = .ok (.ireturn, 1) := by decide +kernel
theorem dX1_readStatement_0 : decode cX1_readStatement 0 = .ok (.aload_n 0, 1) := by decide +kernel
theorem dX1_readStatement_1 : decode cX1_readStatement 1 = .ok (.ldc 45, 2) := by decide +kernel
theorem dX1_readStatement_3 : decode cX1_readStatement 3 = .ok (.invokevirtual 47, 3) := by decide +kernel
theorem dX1_readStatement_6 : decode cX1_readStatement 6 = .ok (.ifCond .eq 10, 3) := by decide +kernel
theorem dX1_readStatement_9 : decode cX1_readStatement 9 = .ok (.aload_n 0, 1) := by decide +kernel
theorem dX1_readStatement_10 : decode cX1_readStatement 10 = .ok (.invokevirtual 51, 3) := by decide +kernel
theorem dX1_readStatement_13 : decode cX1_readStatement 13 = .ok (.goto 185, 3) := by decide +kernel
theorem dX1_readStatement_16 : decode cX1_readStatement 16 = .ok (.aload_n 0, 1) := by decide +kernel
theorem dX1_readStatement_17 : decode cX1_readStatement 17 = .ok (.ldc 54, 2) := by decide +kernel
theorem dX1_readStatement_19 : decode cX1_readStatement 19 = .ok (.invokevirtual 47, 3) := by decide +kernel
theorem dX1_readStatement_22 : decode cX1_readStatement 22 = .ok (.ifCond .eq 10, 3) := by decide +kernel
theorem dX1_readStatement_25 : decode cX1_readStatement 25 = .ok (.aload_n 0, 1) := by decide +kernel
theorem dX1_readStatement_26 : decode cX1_readStatement 26 = .ok (.invokevirtual 56, 3) := by decide +kernel
theorem dX1_readStatement_29 : decode cX1_readStatement 29 = .ok (.goto 169, 3) := by decide +kernel
theorem dX1_readStatement_32 : decode cX1_readStatement 32 = .ok (.aload_n 0, 1) := by decide +kernel
theorem dX1_readStatement_33 : decode cX1_readStatement 33 = .ok (.ldc 59, 2) := by decide +kernel
theorem dX1_readStatement_35 : decode cX1_readStatement 35 = .ok (.invokevirtual 47, 3) := by decide +kernel
theorem dX1_readStatement_38 : decode cX1_readStatement 38 = .ok (.ifCond .eq 10, 3) := by decide +kernel
theorem dX1_readStatement_41 : decode cX1_readStatement 41 = .ok (.aload_n 0, 1) := by decide +kernel
theorem dX1_readStatement_42 : decode cX1_readStatement 42 = .ok (.invokevirtual 61, 3) := by decide +kernel
theorem dX1_readStatement_45 : decode cX1_readStatement 45 = .ok (.goto 153, 3) := by decide +kernel
theorem dX1_readStatement_48 : decode cX1_readStatement 48 = .ok (.aload_n 0, 1) := by decide +kernel
theorem dX1_readStatement_49 : decode cX1_readStatement 49 = .ok (.ldc 64, 2) := by decide +kernel
theorem dX1_readStatement_51 : decode cX1_readStatement 51 = .ok (.invokevirtual 47, 3) := by decide +kernel
theorem dX1_readStatement_54 : decode cX1_readStatement 54 = .ok (.ifCond .eq 10, 3) := by decide +kernel
theorem dX1_readStatement_57 : decode cX1_readStatement 57 = .ok (.aload_n 0, 1) := by decide +kernel
theorem dX1_readStatement_58 : decode cX1_readStatement 58 = .ok (.invokevirtual 66, 3) := by decide +kernel
theorem dX1_readStatement_61 : decode cX1_readStatement 61 = .ok (.goto 137, 3) := by decide +kernel
theorem dX1_readStatement_64 : decode cX1_readStatement 64 = .ok (.aload_n 0, 1) := by decide +kernel
theorem dX1_readStatement_65 : decode cX1_readStatement 65 = .ok (.ldc 69, 2) := by decide +kernel
theorem dX1_readStatement_67 : decode cX1_readStatement 67 = .ok (.invokevirtual 47, 3) := by decide +kernel
theorem dX1_readStatement_70 : decode cX1_readStatement 70 = .ok (.ifCond .eq 10, 3) := by decide +kernel
theorem dX1_readStatement_73 : decode cX1_readStatement 73 = .ok (.aload_n 0, 1) := by decide +kernel
theorem dX1_readStatement_74 : decode cX1_readStatement 74 = .ok (.invokevirtual 71, 3) := by decide +kernel
theorem dX1_readStatement_77 : decode cX1_readStatement 77 = .ok (.goto 121, 3) := by decide +kernel
theorem dX1_readStatement_80 : decode cX1_readStatement 80 = .ok (.aload_n 0, 1) := by decide +kernel
theorem dX1_readStatement_81 : decode cX1_readStatement 81 = .ok (.ldc 74, 2) := by decide +kernel
theorem dX1_readStatement_83 : decode cX1_readStatement 83 = .ok (.invokevirtual 47, 3) := by decide +kernel
theorem dX1_readStatement_86 : decode cX1_readStatement 86 = .ok (.ifCond .eq 10, 3) := by decide +kernel
theorem dX1_readStatement_89 : decode cX1_readStatement 89 = .ok (.aload_n 0, 1) := by decide +kernel
theorem dX1_readStatement_90 : decode cX1_readStatement 90 = .ok (.invokevirtual 76, 3) := by decide +kernel
theorem dX1_readStatement_93 : decode cX1_readStatement 93 = .ok (.goto 105, 3) := by decide +kernel
theorem dX1_readStatement_96 : decode cX1_readStatement 96 = .ok (.aload_n 0, 1) := by decide +kernel
theorem dX1_readStatement_97 : decode cX1_readStatement 97 = .ok (.ldc 79, 2) := by decide +kernel
theorem dX1_readStatement_99 : decode cX1_readStatement 99 = .ok (.invokevirtual 47, 3) := by decide +kernel
theorem dX1_readStatement_102 : decode cX1_readStatement 102 = .ok (.ifCond .eq 10, 3) := by decide +kernel
theorem dX1_readStatement_105 : decode cX1_readStatement 105 = .ok (.aload_n 0, 1) := by decide +kernel
theorem dX1_readStatement_106 : decode cX1_readStatement 106 = .ok (.invokevirtual 81, 3) := by decide +kernel
theorem dX1_readStatement_109 : decode cX1_readStatement 109 = .ok (.goto 89, 3) := by decide +kernel
theorem dX1_readStatement_112 : decode cX1_readStatement 112 = .ok (.aload_n 0, 1) := by decide +kernel
theorem dX1_readStatement_113 : decode cX1_readStatement 113 = .ok (.ldc 84, 2) := by decide +kernel
theorem dX1_readStatement_115 : decode cX1_readStatement 115 = .ok (.invokevirtual 47, 3) := by decide +kernel
theorem dX1_readStatement_118 : decode cX1_readStatement 118 = .ok (.ifCond .eq 10, 3) := by decide +kernel
theorem dX1_readStatement_121 : decode cX1_readStatement 121 = .ok (.aload_n 0, 1) := by decide +kernel
theorem dX1_readStatement_122 : decode cX1_readStatement 122 = .ok (.invokevirtual 86, 3) := by decide +kernel
theorem dX1_readStatement_125 : decode cX1_readStatement 125 = .ok (.goto 73, 3) := by decide +kernel
theorem dX1_readStatement_128 : decode cX1_readStatement 128 = .ok (.aload_n 0, 1) := by decide +kernel
theorem dX1_readStatement_129 : decode cX1_readStatement 129 = .ok (.ldc 89, 2) := by decide +kernel
theorem dX1_readStatement_131 : decode cX1_readStatement 131 = .ok (.invokevirtual 47, 3) := by decide +kernel
theorem dX1_readStatement_134 : decode cX1_readStatement 134 = .ok (.ifCond .eq 10, 3) := by decide +kernel
theorem dX1_readStatement_137 : decode cX1_readStatement 137 = .ok (.aload_n 0, 1) := by decide +kernel
theorem dX1_readStatement_138 : decode cX1_readStatement 138 = .ok (.invokevirtual 91, 3) := by decide +kernel
theorem dX1_readStatement_141 : decode cX1_readStatement 141 = .ok (.goto 57, 3) := by decide +kernel
theorem dX1_readStatement_144 : decode cX1_readStatement 144 = .ok (.aload_n 0, 1) := by decide +kernel
theorem dX1_readStatement_145 : decode cX1_readStatement 145 = .ok (.ldc 94, 2) := by decide +kernel
theorem dX1_readStatement_147 : decode cX1_readStatement 147 = .ok (.invokevirtual 47, 3) := by decide +kernel
theorem dX1_readStatement_150 : decode cX1_readStatement 150 = .ok (.ifCond .eq 10, 3) := by decide +kernel
theorem dX1_readStatement_153 : decode cX1_readStatement 153 = .ok (.aload_n 0, 1) := by decide +kernel
theorem dX1_readStatement_154 : decode cX1_readStatement 154 = .ok (.invokevirtual 96, 3) := by decide +kernel
theorem dX1_readStatement_157 : decode cX1_readStatement 157 = .ok (.goto 41, 3) := by decide +kernel
theorem dX1_readStatement_160 : decode cX1_readStatement 160 = .ok (.aload_n 0, 1) := by decide +kernel
theorem dX1_readStatement_161 : decode cX1_readStatement 161 = .ok (.ldc 99, 2) := by decide +kernel
theorem dX1_readStatement_163 : decode cX1_readStatement 163 = .ok (.invokevirtual 47, 3) := by decide +kernel
theorem dX1_readStatement_166 : decode cX1_readStatement 166 = .ok (.ifCond .eq 10, 3) := by decide +kernel
theorem dX1_readStatement_169 : decode cX1_readStatement 169 = .ok (.aload_n 0, 1) := by decide +kernel
theorem dX1_readStatement_170 : decode cX1_readStatement 170 = .ok (.invokevirtual 101, 3) := by decide +kernel
theorem dX1_readStatement_173 : decode cX1_readStatement 173 = .ok (.goto 25, 3) := by decide +kernel
theorem dX1_readStatement_176 : decode cX1_readStatement 176 = .ok (.aload_n 0, 1) := by decide +kernel
theorem dX1_readStatement_177 : decode cX1_readStatement 177 = .ok (.ldc 104, 2) := by decide +kernel
theorem dX1_readStatement_179 : decode cX1_readStatement 179 = .ok (.invokevirtual 47, 3) := by decide +kernel
theorem dX1_readStatement_182 : decode cX1_readStatement 182 = .ok (.ifCond .eq 10, 3) := by decide +kernel
theorem dX1_readStatement_185 : decode cX1_readStatement 185 = .ok (.aload_n 0, 1) := by decide +kernel
theorem dX1_readStatement_186 : decode cX1_readStatement 186 = .ok (.invokevirtual 106, 3) := by decide +kernel
theorem dX1_readStatement_189 : decode cX1_readStatement 189 = .ok (.goto 9, 3) := by decide +kernel
theorem dX1_readStatement_192 : decode cX1_readStatement 192 = .ok (.aload_n 0, 1) := by decide +kernel
theorem dX1_readStatement_193 : decode cX1_readStatement 193 = .ok (.iconst 0, 1) := by decide +kernel
theorem dX1_readStatement_194 : decode cX1_readStatement 194 = .ok (.iconst 1, 1) := by decide +kernel
theorem dX1_readStatement_195 : decode cX1_readStatement 195 = .ok (.invokevirtual 109, 3) := by decide +kernel
theorem dX1_readStatement_198 : decode cX1_readStatement 198 = .ok (.return_, 1) := by decide +kernel
theorem dX1_readGate_0 : decode cX1_readGate 0 = .ok (.aload_n 0, 1) := by decide +kernel
theorem dX1_readGate_1 : decode cX1_readGate 1 = .ok (.aload_n 0, 1) := by decide +kernel
theorem dX1_readGate_2 : decode cX1_readGate 2 = .ok (.ldc 113, 2) := by decide +kernel
theorem dX1_readGate_4 : decode cX1_readGate 4 = .ok (.invokevirtual 47, 3) := by decide +kernel
theorem dX1_readGate_7 : decode cX1_readGate 7 = .ok (.iconst 1, 1) := by decide +kernel
theorem dX1_readGate_8 : decode cX1_readGate 8 = .ok (.invokevirtual 109, 3) := by decide +kernel
theorem dX1_readGate_11 : decode cX1_readGate 11 = .ok (.aload_n 0, 1) := by decide +kernel
theorem dX1_readGate_12 : decode cX1_readGate 12 = .ok (.invokevirtual 32, 3) := by decide +kernel
theorem dX1_readGate_15 : decode cX1_readGate 15 = .ok (.pop, 1) := by decide +kernel
theorem dX1_readGate_16 : decode cX1_readGate 16 = .ok (.aload_n 0, 1) := by decide +kernel
theorem dX1_readGate_17 : decode cX1_readGate 17 = .ok (.iconst 0, 1) := by decide +kernel
theorem dX1_readGate_18 : decode cX1_readGate 18 = .ok (.bipush 9, 2) := by decide +kernel
theorem dX1_readGate_20 : decode cX1_readGate 20 = .ok (.invokevirtual 115, 3) := by decide +kernel
theorem dX1_readGate_23 : decode cX1_readGate 23 = .ok (.istore_n 1, 1) := by decide +kernel
theorem dX1_readGate_24 : decode cX1_readGate 24 = .ok (.aload_n 0, 1) := by decide +kernel
theorem dX1_readGate_25 : decode cX1_readGate 25 = .ok (.iconst 0, 1) := by decide +kernel
theorem dX1_readGate_26 : decode cX1_readGate 26 = .ok (.sipush 1023, 3) := by decide +kernel
theorem dX1_readGate_29 : decode cX1_readGate 29 = .ok (.invokevirtual 115, 3) := by decide +kernel
theorem dX1_readGate_32 : decode cX1_readGate 32 = .ok (.istore_n 2, 1) := by decide +kernel
theorem dX1_readGate_33 : decode cX1_readGate 33 = .ok (.aload_n 0, 1) := by decide +kernel
theorem dX1_readGate_34 : decode cX1_readGate 34 = .ok (.iconst 1, 1) := by decide +kernel
theorem dX1_readGate_35 : decode cX1_readGate 35 = .ok (.invokevirtual 119, 3) := by decide +kernel
theorem dX1_readGate_38 : decode cX1_readGate 38 = .ok (.ifCond .eq 12, 3) := by decide +kernel
theorem dX1_readGate_41 : decode cX1_readGate 41 = .ok (.aload_n 0, 1) := by decide +kernel
theorem dX1_readGate_42 : decode cX1_readGate 42 = .ok (.getfield 12, 3) := by decide +kernel
theorem dX1_readGate_45 : decode cX1_readGate 45 = .ok (.iload_n 1, 1) := by decide +kernel
theorem dX1_readGate_46 : decode cX1_readGate 46 = .ok (.iload_n 2, 1) := by decide +kernel
theorem dX1_readGate_47 : decode cX1_readGate 47 = .ok (.invokevirtual 123, 3) := by decide +kernel
theorem dX1_readGate_50 : decode cX1_readGate 50 = .ok (.return_, 1) := by decide +kernel
theorem dX1_readRealm_0 : decode cX1_readRealm 0 = .ok (.aload_n 0, 1) := by decide +kernel
theorem dX1_readRealm_1 : decode cX1_readRealm 1 = .ok (.aload_n 0, 1) := by decide +kernel
theorem dX1_readRealm_2 : decode cX1_readRealm 2 = .ok (.getfield 12, 3) := by decide +kernel
theorem dX1_readRealm_5 : decode cX1_readRealm 5 = .ok (.getfield 127, 3) := by decide +kernel
theorem dX1_readRealm_8 : decode cX1_readRealm 8 = .ok (.invokevirtual 131, 3) := by decide +kernel
theorem dX1_readRealm_11 : decode cX1_readRealm 11 = .ok (.ifCond .ne 7, 3) := by decide +kernel
theorem dX1_readRealm_14 : decode cX1_readRealm 14 = .ok (.iconst 1, 1) := by decide +kernel
theorem dX1_readRealm_15 : decode cX1_readRealm 15 = .ok (.goto 4, 3) := by decide +kernel
theorem dX1_readRealm_18 : decode cX1_readRealm 18 = .ok (.iconst 0, 1) := by decide +kernel
theorem dX1_readRealm_19 : decode cX1_readRealm 19 = .ok (.iconst 5, 1) := by decide +kernel
theorem dX1_readRealm_20 : decode cX1_readRealm 20 = .ok (.invokevirtual 109, 3) := by decide +kernel
theorem dX1_readRealm_23 : decode cX1_readRealm 23 = .ok (.aload_n 0, 1) := by decide +kernel
theorem dX1_readRealm_24 : decode cX1_readRealm 24 = .ok (.invokevirtual 32, 3) := by decide +kernel
theorem dX1_readRealm_27 : decode cX1_readRealm 27 = .ok (.pop, 1) := by decide +kernel
theorem dX1_readRealm_28 : decode cX1_readRealm 28 = .ok (.aload_n 0, 1) := by decide +kernel
theorem dX1_readRealm_29 : decode cX1_readRealm 29 = .ok (.invokevirtual 137, 3) := by decide +kernel
theorem dX1_readRealm_32 : decode cX1_readRealm 32 = .ok (.istore_n 1, 1) := by decide +kernel
theorem dX1_readRealm_33 : decode cX1_readRealm 33 = .ok (.aload_n 0, 1) := by decide +kernel
theorem dX1_readRealm_34 : decode cX1_readRealm 34 = .ok (.iconst 1, 1) := by decide +kernel
theorem dX1_readRealm_35 : decode cX1_readRealm 35 = .ok (.sipush 999, 3) := by decide +kernel
theorem dX1_readRealm_38 : decode cX1_readRealm 38 = .ok (.invokevirtual 115, 3) := by decide +kernel
theorem dX1_readRealm_41 : decode cX1_readRealm 41 = .ok (.istore_n 2, 1) := by decide +kernel
theorem dX1_readRealm_42 : decode cX1_readRealm 42 = .ok (.aload_n 0, 1) := by decide +kernel
theorem dX1_readRealm_43 : decode cX1_readRealm 43 = .ok (.iconst 0, 1) := by decide +kernel
theorem dX1_readRealm_44 : decode cX1_readRealm 44 = .ok (.sipush 9999, 3) := by decide +kernel
theorem dX1_readRealm_47 : decode cX1_readRealm 47 = .ok (.invokevirtual 115, 3) := by decide +kernel
theorem dX1_readRealm_50 : decode cX1_readRealm 50 = .ok (.istore_n 3, 1) := by decide +kernel
theorem dX1_readRealm_51 : decode cX1_readRealm 51 = .ok (.aload_n 0, 1) := by decide +kernel
theorem dX1_readRealm_52 : decode cX1_readRealm 52 = .ok (.invokevirtual 140, 3) := by decide +kernel
theorem dX1_readRealm_55 : decode cX1_readRealm 55 = .ok (.istore 4, 2) := by decide +kernel
theorem dX1_readRealm_57 : decode cX1_readRealm 57 = .ok (.iload 4, 2) := by decide +kernel
theorem dX1_readRealm_59 : decode cX1_readRealm 59 = .ok (.ifCond .ne 7, 3) := by decide +kernel
theorem dX1_readRealm_62 : decode cX1_readRealm 62 = .ok (.iconst 0, 1) := by decide +kernel
theorem dX1_readRealm_63 : decode cX1_readRealm 63 = .ok (.goto 13, 3) := by decide +kernel
theorem dX1_readRealm_66 : decode cX1_readRealm 66 = .ok (.iload 4, 2) := by decide +kernel
theorem dX1_readRealm_68 : decode cX1_readRealm 68 = .ok (.aload_n 0, 1) := by decide +kernel
theorem dX1_readRealm_69 : decode cX1_readRealm 69 = .ok (.iconst 1, 1) := by decide +kernel
theorem dX1_readRealm_70 : decode cX1_readRealm 70 = .ok (.bipush 9, 2) := by decide +kernel
theorem dX1_readRealm_72 : decode cX1_readRealm 72 = .ok (.invokevirtual 115, 3) := by decide +kernel
theorem dX1_readRealm_75 : decode cX1_readRealm 75 = .ok (.imul, 1) := by decide +kernel
theorem dX1_readRealm_76 : decode cX1_readRealm 76 = .ok (.istore 5, 2) := by decide +kernel
theorem dX1_readRealm_78 : decode cX1_readRealm 78 = .ok (.aload_n 0, 1) := by decide +kernel
theorem dX1_readRealm_79 : decode cX1_readRealm 79 = .ok (.iconst 1, 1) := by decide +kernel
theorem dX1_readRealm_80 : decode cX1_readRealm 80 = .ok (.invokevirtual 119, 3) := by decide +kernel
theorem dX1_readRealm_83 : decode cX1_readRealm 83 = .ok (.ifCond .eq 18, 3) := by decide +kernel
theorem dX1_readRealm_86 : decode cX1_readRealm 86 = .ok (.aload_n 0, 1) := by decide +kernel
theorem dX1_readRealm_87 : decode cX1_readRealm 87 = .ok (.getfield 12, 3) := by decide +kernel
theorem dX1_readRealm_90 : decode cX1_readRealm 90 = .ok (.getfield 127, 3) := by decide +kernel
theorem dX1_readRealm_93 : decode cX1_readRealm 93 = .ok (.iload_n 1, 1) := by decide +kernel
theorem dX1_readRealm_94 : decode cX1_readRealm 94 = .ok (.iload_n 2, 1) := by decide +kernel
theorem dX1_readRealm_95 : decode cX1_readRealm 95 = .ok (.iload_n 3, 1) := by decide +kernel
theorem dX1_readRealm_96 : decode cX1_readRealm 96 = .ok (.iload 5, 2) := by decide +kernel
theorem dX1_readRealm_98 : decode cX1_readRealm 98 = .ok (.invokevirtual 143, 3) := by decide +kernel
theorem dX1_readRealm_101 : decode cX1_readRealm 101 = .ok (.return_, 1) := by decide +kernel
theorem dX1_readTrust_0 : decode cX1_readTrust 0 = .ok (.aload_n 0, 1) := by decide +kernel
theorem dX1_readTrust_1 : decode cX1_readTrust 1 = .ok (.invokevirtual 32, 3) := by decide +kernel
theorem dX1_readTrust_4 : decode cX1_readTrust 4 = .ok (.pop, 1) := by decide +kernel
theorem dX1_readTrust_5 : decode cX1_readTrust 5 = .ok (.aload_n 0, 1) := by decide +kernel
theorem dX1_readTrust_6 : decode cX1_readTrust 6 = .ok (.aload_n 0, 1) := by decide +kernel
theorem dX1_readTrust_7 : decode cX1_readTrust 7 = .ok (.getfield 12, 3) := by decide +kernel
theorem dX1_readTrust_10 : decode cX1_readTrust 10 = .ok (.getfield 127, 3) := by decide +kernel
theorem dX1_readTrust_13 : decode cX1_readTrust 13 = .ok (.iconst 0, 1) := by decide +kernel
theorem dX1_readTrust_14 : decode cX1_readTrust 14 = .ok (.invokevirtual 147, 3) := by decide +kernel
theorem dX1_readTrust_17 : decode cX1_readTrust 17 = .ok (.istore_n 1, 1) := by decide +kernel
theorem dX1_readTrust_18 : decode cX1_readTrust 18 = .ok (.aload_n 0, 1) := by decide +kernel
theorem dX1_readTrust_19 : decode cX1_readTrust 19 = .ok (.getfield 12, 3) := by decide +kernel
theorem dX1_readTrust_22 : decode cX1_readTrust 22 = .ok (.getfield 127, 3) := by decide +kernel
theorem dX1_readTrust_25 : decode cX1_readTrust 25 = .ok (.iconst 0, 1) := by decide +kernel
theorem dX1_readTrust_26 : decode cX1_readTrust 26 = .ok (.aload_n 0, 1) := by decide +kernel
theorem dX1_readTrust_27 : decode cX1_readTrust 27 = .ok (.getfield 151, 3) := by decide +kernel
theorem dX1_readTrust_30 : decode cX1_readTrust 30 = .ok (.invokevirtual 154, 3) := by decide +kernel
theorem dX1_readTrust_33 : decode cX1_readTrust 33 = .ok (.istore_n 2, 1) := by decide +kernel
theorem dX1_readTrust_34 : decode cX1_readTrust 34 = .ok (.aload_n 0, 1) := by decide +kernel
theorem dX1_readTrust_35 : decode cX1_readTrust 35 = .ok (.aload_n 0, 1) := by decide +kernel
theorem dX1_readTrust_36 : decode cX1_readTrust 36 = .ok (.getfield 39, 3) := by decide +kernel
theorem dX1_readTrust_39 : decode cX1_readTrust 39 = .ok (.iconst 1, 1) := by decide +kernel
theorem dX1_readTrust_40 : decode cX1_readTrust 40 = .ok (.if_icmp .ne 7, 3) := by decide +kernel
theorem dX1_readTrust_43 : decode cX1_readTrust 43 = .ok (.iconst 1, 1) := by decide +kernel
theorem dX1_readTrust_44 : decode cX1_readTrust 44 = .ok (.goto 4, 3) := by decide +kernel
theorem dX1_readTrust_47 : decode cX1_readTrust 47 = .ok (.iconst 0, 1) := by decide +kernel
theorem dX1_readTrust_48 : decode cX1_readTrust 48 = .ok (.iconst 1, 1) := by decide +kernel
theorem dX1_readTrust_49 : decode cX1_readTrust 49 = .ok (.invokevirtual 109, 3) := by decide +kernel
theorem dX1_readTrust_52 : decode cX1_readTrust 52 = .ok (.aload_n 0, 1) := by decide +kernel
theorem dX1_readTrust_53 : decode cX1_readTrust 53 = .ok (.iload_n 2, 1) := by decide +kernel
theorem dX1_readTrust_54 : decode cX1_readTrust 54 = .ok (.iload_n 1, 1) := by decide +kernel
theorem dX1_readTrust_55 : decode cX1_readTrust 55 = .ok (.if_icmp .eq 7, 3) := by decide +kernel
theorem dX1_readTrust_58 : decode cX1_readTrust 58 = .ok (.iconst 1, 1) := by decide +kernel
theorem dX1_readTrust_59 : decode cX1_readTrust 59 = .ok (.goto 4, 3) := by decide +kernel
theorem dX1_readTrust_62 : decode cX1_readTrust 62 = .ok (.iconst 0, 1) := by decide +kernel
theorem dX1_readTrust_63 : decode cX1_readTrust 63 = .ok (.iconst 3, 1) := by decide +kernel
theorem dX1_readTrust_64 : decode cX1_readTrust 64 = .ok (.invokevirtual 109, 3) := by decide +kernel
theorem dX1_readTrust_67 : decode cX1_readTrust 67 = .ok (.aload_n 0, 1) := by decide +kernel
theorem dX1_readTrust_68 : decode cX1_readTrust 68 = .ok (.iload_n 2, 1) := by decide +kernel
theorem dX1_readTrust_69 : decode cX1_readTrust 69 = .ok (.iconst (-1), 1) := by decide +kernel
theorem dX1_readTrust_70 : decode cX1_readTrust 70 = .ok (.if_icmp .eq 7, 3) := by decide +kernel
theorem dX1_readTrust_73 : decode cX1_readTrust 73 = .ok (.iconst 1, 1) := by decide +kernel
theorem dX1_readTrust_74 : decode cX1_readTrust 74 = .ok (.goto 4, 3) := by decide +kernel
theorem dX1_readTrust_77 : decode cX1_readTrust 77 = .ok (.iconst 0, 1) := by decide +kernel
theorem dX1_readTrust_78 : decode cX1_readTrust 78 = .ok (.iconst 4, 1) := by decide +kernel
theorem dX1_readTrust_79 : decode cX1_readTrust 79 = .ok (.invokevirtual 109, 3) := by decide +kernel
theorem dX1_readTrust_82 : decode cX1_readTrust 82 = .ok (.aload_n 0, 1) := by decide +kernel
theorem dX1_readTrust_83 : decode cX1_readTrust 83 = .ok (.invokevirtual 32, 3) := by decide +kernel
theorem dX1_readTrust_86 : decode cX1_readTrust 86 = .ok (.pop, 1) := by decide +kernel
theorem dX1_readTrust_87 : decode cX1_readTrust 87 = .ok (.aload_n 0, 1) := by decide +kernel
theorem dX1_readTrust_88 : decode cX1_readTrust 88 = .ok (.aload_n 0, 1) := by decide +kernel
theorem dX1_readTrust_89 : decode cX1_readTrust 89 = .ok (.getfield 12, 3) := by decide +kernel
theorem dX1_readTrust_92 : decode cX1_readTrust 92 = .ok (.getfield 127, 3) := by decide +kernel
theorem dX1_readTrust_95 : decode cX1_readTrust 95 = .ok (.iload_n 1, 1) := by decide +kernel
theorem dX1_readTrust_96 : decode cX1_readTrust 96 = .ok (.iload_n 2, 1) := by decide +kernel
theorem dX1_readTrust_97 : decode cX1_readTrust 97 = .ok (.invokevirtual 157, 3) := by decide +kernel
theorem dX1_readTrust_100 : decode cX1_readTrust 100 = .ok (.ifCond .ne 7, 3) := by decide +kernel
theorem dX1_readTrust_103 : decode cX1_readTrust 103 = .ok (.iconst 1, 1) := by decide +kernel
theorem dX1_readTrust_104 : decode cX1_readTrust 104 = .ok (.goto 4, 3) := by decide +kernel
theorem dX1_readTrust_107 : decode cX1_readTrust 107 = .ok (.iconst 0, 1) := by decide +kernel
theorem dX1_readTrust_108 : decode cX1_readTrust 108 = .ok (.invokevirtual 119, 3) := by decide +kernel
theorem dX1_readTrust_111 : decode cX1_readTrust 111 = .ok (.ifCond .eq 15, 3) := by decide +kernel
theorem dX1_readTrust_114 : decode cX1_readTrust 114 = .ok (.aload_n 0, 1) := by decide +kernel
theorem dX1_readTrust_115 : decode cX1_readTrust 115 = .ok (.getfield 12, 3) := by decide +kernel
theorem dX1_readTrust_118 : decode cX1_readTrust 118 = .ok (.getfield 127, 3) := by decide +kernel
theorem dX1_readTrust_121 : decode cX1_readTrust 121 = .ok (.iload_n 1, 1) := by decide +kernel
theorem dX1_readTrust_122 : decode cX1_readTrust 122 = .ok (.iload_n 2, 1) := by decide +kernel
theorem dX1_readTrust_123 : decode cX1_readTrust 123 = .ok (.invokevirtual 161, 3) := by decide +kernel
theorem dX1_readTrust_126 : decode cX1_readTrust 126 = .ok (.return_, 1) := by decide +kernel
theorem dX1_readUser_0 : decode cX1_readUser 0 = .ok (.aload_n 0, 1) := by decide +kernel
theorem dX1_readUser_1 : decode cX1_readUser 1 = .ok (.aload_n 0, 1) := by decide +kernel
theorem dX1_readUser_2 : decode cX1_readUser 2 = .ok (.getfield 12, 3) := by decide +kernel
theorem dX1_readUser_5 : decode cX1_readUser 5 = .ok (.getfield 164, 3) := by decide +kernel
theorem dX1_readUser_8 : decode cX1_readUser 8 = .ok (.invokevirtual 168, 3) := by decide +kernel
theorem dX1_readUser_11 : decode cX1_readUser 11 = .ok (.ifCond .ne 7, 3) := by decide +kernel
theorem dX1_readUser_14 : decode cX1_readUser 14 = .ok (.iconst 1, 1) := by decide +kernel
theorem dX1_readUser_15 : decode cX1_readUser 15 = .ok (.goto 4, 3) := by decide +kernel
theorem dX1_readUser_18 : decode cX1_readUser 18 = .ok (.iconst 0, 1) := by decide +kernel
theorem dX1_readUser_19 : decode cX1_readUser 19 = .ok (.iconst 5, 1) := by decide +kernel
theorem dX1_readUser_20 : decode cX1_readUser 20 = .ok (.invokevirtual 109, 3) := by decide +kernel
theorem dX1_readUser_23 : decode cX1_readUser 23 = .ok (.aload_n 0, 1) := by decide +kernel
theorem dX1_readUser_24 : decode cX1_readUser 24 = .ok (.invokevirtual 32, 3) := by decide +kernel
theorem dX1_readUser_27 : decode cX1_readUser 27 = .ok (.pop, 1) := by decide +kernel
theorem dX1_readUser_28 : decode cX1_readUser 28 = .ok (.aload_n 0, 1) := by decide +kernel
theorem dX1_readUser_29 : decode cX1_readUser 29 = .ok (.invokevirtual 137, 3) := by decide +kernel
theorem dX1_readUser_32 : decode cX1_readUser 32 = .ok (.istore_n 1, 1) := by decide +kernel
theorem dX1_readUser_33 : decode cX1_readUser 33 = .ok (.aload_n 0, 1) := by decide +kernel
theorem dX1_readUser_34 : decode cX1_readUser 34 = .ok (.aload_n 0, 1) := by decide +kernel
theorem dX1_readUser_35 : decode cX1_readUser 35 = .ok (.getfield 12, 3) := by decide +kernel
theorem dX1_readUser_38 : decode cX1_readUser 38 = .ok (.getfield 127, 3) := by decide +kernel
theorem dX1_readUser_41 : decode cX1_readUser 41 = .ok (.iconst 0, 1) := by decide +kernel
theorem dX1_readUser_42 : decode cX1_readUser 42 = .ok (.invokevirtual 147, 3) := by decide +kernel
theorem dX1_readUser_45 : decode cX1_readUser 45 = .ok (.istore_n 2, 1) := by decide +kernel
theorem dX1_readUser_46 : decode cX1_readUser 46 = .ok (.aload_n 0, 1) := by decide +kernel
theorem dX1_readUser_47 : decode cX1_readUser 47 = .ok (.iconst 0, 1) := by decide +kernel
theorem dX1_readUser_48 : decode cX1_readUser 48 = .ok (.sipush 9999, 3) := by decide +kernel
theorem dX1_readUser_51 : decode cX1_readUser 51 = .ok (.invokevirtual 115, 3) := by decide +kernel
theorem dX1_readUser_54 : decode cX1_readUser 54 = .ok (.istore_n 3, 1) := by decide +kernel
theorem dX1_readUser_55 : decode cX1_readUser 55 = .ok (.aload_n 0, 1) := by decide +kernel
theorem dX1_readUser_56 : decode cX1_readUser 56 = .ok (.invokevirtual 140, 3) := by decide +kernel
theorem dX1_readUser_59 : decode cX1_readUser 59 = .ok (.istore 4, 2) := by decide +kernel
theorem dX1_readUser_61 : decode cX1_readUser 61 = .ok (.iload 4, 2) := by decide +kernel
theorem dX1_readUser_63 : decode cX1_readUser 63 = .ok (.ifCond .ne 7, 3) := by decide +kernel
theorem dX1_readUser_66 : decode cX1_readUser 66 = .ok (.iconst 0, 1) := by decide +kernel
theorem dX1_readUser_67 : decode cX1_readUser 67 = .ok (.goto 13, 3) := by decide +kernel
theorem dX1_readUser_70 : decode cX1_readUser 70 = .ok (.iload 4, 2) := by decide +kernel
theorem dX1_readUser_72 : decode cX1_readUser 72 = .ok (.aload_n 0, 1) := by decide +kernel
theorem dX1_readUser_73 : decode cX1_readUser 73 = .ok (.iconst 1, 1) := by decide +kernel
theorem dX1_readUser_74 : decode cX1_readUser 74 = .ok (.bipush 9, 2) := by decide +kernel
theorem dX1_readUser_76 : decode cX1_readUser 76 = .ok (.invokevirtual 115, 3) := by decide +kernel
theorem dX1_readUser_79 : decode cX1_readUser 79 = .ok (.imul, 1) := by decide +kernel
theorem dX1_readUser_80 : decode cX1_readUser 80 = .ok (.istore 5, 2) := by decide +kernel
theorem dX1_readUser_82 : decode cX1_readUser 82 = .ok (.aload_n 0, 1) := by decide +kernel
theorem dX1_readUser_83 : decode cX1_readUser 83 = .ok (.iconst 1, 1) := by decide +kernel
theorem dX1_readUser_84 : decode cX1_readUser 84 = .ok (.invokevirtual 119, 3) := by decide +kernel
theorem dX1_readUser_87 : decode cX1_readUser 87 = .ok (.ifCond .eq 18, 3) := by decide +kernel
theorem dX1_readUser_90 : decode cX1_readUser 90 = .ok (.aload_n 0, 1) := by decide +kernel
theorem dX1_readUser_91 : decode cX1_readUser 91 = .ok (.getfield 12, 3) := by decide +kernel
theorem dX1_readUser_94 : decode cX1_readUser 94 = .ok (.getfield 164, 3) := by decide +kernel
theorem dX1_readUser_97 : decode cX1_readUser 97 = .ok (.iload_n 1, 1) := by decide +kernel
theorem dX1_readUser_98 : decode cX1_readUser 98 = .ok (.iload_n 2, 1) := by decide +kernel
theorem dX1_readUser_99 : decode cX1_readUser 99 = .ok (.iload_n 3, 1) := by decide +kernel
theorem dX1_readUser_100 : decode cX1_readUser 100 = .ok (.iload 5, 2) := by decide +kernel
theorem dX1_readUser_102 : decode cX1_readUser 102 = .ok (.invokevirtual 171, 3) := by decide +kernel
theorem dX1_readUser_105 : decode cX1_readUser 105 = .ok (.return_, 1) := by decide +kernel
theorem dX1_readService_0 : decode cX1_readService 0 = .ok (.aload_n 0, 1) := by decide +kernel
theorem dX1_readService_1 : decode cX1_readService 1 = .ok (.aload_n 0, 1) := by decide +kernel
theorem dX1_readService_2 : decode cX1_readService 2 = .ok (.getfield 12, 3) := by decide +kernel
theorem dX1_readService_5 : decode cX1_readService 5 = .ok (.getfield 174, 3) := by decide +kernel
theorem dX1_readService_8 : decode cX1_readService 8 = .ok (.invokevirtual 178, 3) := by decide +kernel
theorem dX1_readService_11 : decode cX1_readService 11 = .ok (.ifCond .ne 7, 3) := by decide +kernel
theorem dX1_readService_14 : decode cX1_readService 14 = .ok (.iconst 1, 1) := by decide +kernel
theorem dX1_readService_15 : decode cX1_readService 15 = .ok (.goto 4, 3) := by decide +kernel
theorem dX1_readService_18 : decode cX1_readService 18 = .ok (.iconst 0, 1) := by decide +kernel
theorem dX1_readService_19 : decode cX1_readService 19 = .ok (.iconst 5, 1) := by decide +kernel
theorem dX1_readService_20 : decode cX1_readService 20 = .ok (.invokevirtual 109, 3) := by decide +kernel
theorem dX1_readService_23 : decode cX1_readService 23 = .ok (.aload_n 0, 1) := by decide +kernel
theorem dX1_readService_24 : decode cX1_readService 24 = .ok (.invokevirtual 32, 3) := by decide +kernel
theorem dX1_readService_27 : decode cX1_readService 27 = .ok (.pop, 1) := by decide +kernel
theorem dX1_readService_28 : decode cX1_readService 28 = .ok (.aload_n 0, 1) := by decide +kernel
theorem dX1_readService_29 : decode cX1_readService 29 = .ok (.invokevirtual 137, 3) := by decide +kernel
theorem dX1_readService_32 : decode cX1_readService 32 = .ok (.istore_n 1, 1) := by decide +kernel
theorem dX1_readService_33 : decode cX1_readService 33 = .ok (.aload_n 0, 1) := by decide +kernel
theorem dX1_readService_34 : decode cX1_readService 34 = .ok (.aload_n 0, 1) := by decide +kernel
theorem dX1_readService_35 : decode cX1_readService 35 = .ok (.getfield 12, 3) := by decide +kernel
theorem dX1_readService_38 : decode cX1_readService 38 = .ok (.getfield 127, 3) := by decide +kernel
theorem dX1_readService_41 : decode cX1_readService 41 = .ok (.iconst 0, 1) := by decide +kernel
theorem dX1_readService_42 : decode cX1_readService 42 = .ok (.invokevirtual 147, 3) := by decide +kernel
theorem dX1_readService_45 : decode cX1_readService 45 = .ok (.istore_n 2, 1) := by decide +kernel
theorem dX1_readService_46 : decode cX1_readService 46 = .ok (.aload_n 0, 1) := by decide +kernel
theorem dX1_readService_47 : decode cX1_readService 47 = .ok (.iconst 0, 1) := by decide +kernel
theorem dX1_readService_48 : decode cX1_readService 48 = .ok (.bipush 99, 2) := by decide +kernel
theorem dX1_readService_50 : decode cX1_readService 50 = .ok (.invokevirtual 115, 3) := by decide +kernel
theorem dX1_readService_53 : decode cX1_readService 53 = .ok (.istore_n 3, 1) := by decide +kernel
theorem dX1_readService_54 : decode cX1_readService 54 = .ok (.aload_n 0, 1) := by decide +kernel
theorem dX1_readService_55 : decode cX1_readService 55 = .ok (.iconst 1, 1) := by decide +kernel
theorem dX1_readService_56 : decode cX1_readService 56 = .ok (.invokevirtual 119, 3) := by decide +kernel
theorem dX1_readService_59 : decode cX1_readService 59 = .ok (.ifCond .eq 29, 3) := by decide +kernel
theorem dX1_readService_62 : decode cX1_readService 62 = .ok (.aload_n 0, 1) := by decide +kernel
theorem dX1_readService_63 : decode cX1_readService 63 = .ok (.getfield 12, 3) := by decide +kernel
theorem dX1_readService_66 : decode cX1_readService 66 = .ok (.getfield 174, 3) := by decide +kernel
theorem dX1_readService_69 : decode cX1_readService 69 = .ok (.iload_n 1, 1) := by decide +kernel
theorem dX1_readService_70 : decode cX1_readService 70 = .ok (.iload_n 2, 1) := by decide +kernel
theorem dX1_readService_71 : decode cX1_readService 71 = .ok (.iload_n 3, 1) := by decide +kernel
theorem dX1_readService_72 : decode cX1_readService 72 = .ok (.invokevirtual 181, 3) := by decide +kernel
theorem dX1_readService_75 : decode cX1_readService 75 = .ok (.aload_n 0, 1) := by decide +kernel
theorem dX1_readService_76 : decode cX1_readService 76 = .ok (.getfield 12, 3) := by decide +kernel
theorem dX1_readService_79 : decode cX1_readService 79 = .ok (.dup, 1) := by decide +kernel
theorem dX1_readService_80 : decode cX1_readService 80 = .ok (.getfield 185, 3) := by decide +kernel
theorem dX1_readService_83 : decode cX1_readService 83 = .ok (.iload_n 3, 1) := by decide +kernel
theorem dX1_readService_84 : decode cX1_readService 84 = .ok (.iadd, 1) := by decide +kernel
theorem dX1_readService_85 : decode cX1_readService 85 = .ok (.putfield 185, 3) := by decide +kernel
theorem dX1_readService_88 : decode cX1_readService 88 = .ok (.return_, 1) := by decide +kernel
theorem dX1_readLogin_0 : decode cX1_readLogin 0 = .ok (.aload_n 0, 1) := by decide +kernel
theorem dX1_readLogin_1 : decode cX1_readLogin 1 = .ok (.invokevirtual 32, 3) := by decide +kernel
theorem dX1_readLogin_4 : decode cX1_readLogin 4 = .ok (.pop, 1) := by decide +kernel
theorem dX1_readLogin_5 : decode cX1_readLogin 5 = .ok (.aload_n 0, 1) := by decide +kernel
theorem dX1_readLogin_6 : decode cX1_readLogin 6 = .ok (.aload_n 0, 1) := by decide +kernel
theorem dX1_readLogin_7 : decode cX1_readLogin 7 = .ok (.getfield 12, 3) := by decide +kernel
theorem dX1_readLogin_10 : decode cX1_readLogin 10 = .ok (.getfield 164, 3) := by decide +kernel
theorem dX1_readLogin_13 : decode cX1_readLogin 13 = .ok (.iconst 0, 1) := by decide +kernel
theorem dX1_readLogin_14 : decode cX1_readLogin 14 = .ok (.invokevirtual 147, 3) := by decide +kernel
theorem dX1_readLogin_17 : decode cX1_readLogin 17 = .ok (.istore_n 1, 1) := by decide +kernel
theorem dX1_readLogin_18 : decode cX1_readLogin 18 = .ok (.aload_n 0, 1) := by decide +kernel
theorem dX1_readLogin_19 : decode cX1_readLogin 19 = .ok (.iconst 0, 1) := by decide +kernel
theorem dX1_readLogin_20 : decode cX1_readLogin 20 = .ok (.sipush 9999, 3) := by decide +kernel
theorem dX1_readLogin_23 : decode cX1_readLogin 23 = .ok (.invokevirtual 115, 3) := by decide +kernel
theorem dX1_readLogin_26 : decode cX1_readLogin 26 = .ok (.istore_n 2, 1) := by decide +kernel
theorem dX1_readLogin_27 : decode cX1_readLogin 27 = .ok (.aload_n 0, 1) := by decide +kernel
theorem dX1_readLogin_28 : decode cX1_readLogin 28 = .ok (.ldc 188, 2) := by decide +kernel
theorem dX1_readLogin_30 : decode cX1_readLogin 30 = .ok (.invokevirtual 47, 3) := by decide +kernel
theorem dX1_readLogin_33 : decode cX1_readLogin 33 = .ok (.istore_n 3, 1) := by decide +kernel
theorem dX1_readLogin_34 : decode cX1_readLogin 34 = .ok (.iload_n 3, 1) := by decide +kernel
theorem dX1_readLogin_35 : decode cX1_readLogin 35 = .ok (.ifCond .eq 8, 3) := by decide +kernel
theorem dX1_readLogin_38 : decode cX1_readLogin 38 = .ok (.aload_n 0, 1) := by decide +kernel
theorem dX1_readLogin_39 : decode cX1_readLogin 39 = .ok (.invokevirtual 32, 3) := by decide +kernel
theorem dX1_readLogin_42 : decode cX1_readLogin 42 = .ok (.pop, 1) := by decide +kernel
theorem dX1_readLogin_43 : decode cX1_readLogin 43 = .ok (.aload_n 0, 1) := by decide +kernel
theorem dX1_readLogin_44 : decode cX1_readLogin 44 = .ok (.aload_n 0, 1) := by decide +kernel
theorem dX1_readLogin_45 : decode cX1_readLogin 45 = .ok (.getfield 12, 3) := by decide +kernel
theorem dX1_readLogin_48 : decode cX1_readLogin 48 = .ok (.iload_n 1, 1) := by decide +kernel
theorem dX1_readLogin_49 : decode cX1_readLogin 49 = .ok (.iload_n 2, 1) := by decide +kernel
theorem dX1_readLogin_50 : decode cX1_readLogin 50 = .ok (.invokevirtual 190, 3) := by decide +kernel
theorem dX1_readLogin_53 : decode cX1_readLogin 53 = .ok (.ifCond .ne 7, 3) := by decide +kernel
theorem dX1_readLogin_56 : decode cX1_readLogin 56 = .ok (.iconst 1, 1) := by decide +kernel
theorem dX1_readLogin_57 : decode cX1_readLogin 57 = .ok (.goto 4, 3) := by decide +kernel
theorem dX1_readLogin_60 : decode cX1_readLogin 60 = .ok (.iconst 0, 1) := by decide +kernel
theorem dX1_readLogin_61 : decode cX1_readLogin 61 = .ok (.invokevirtual 119, 3) := by decide +kernel
theorem dX1_readLogin_64 : decode cX1_readLogin 64 = .ok (.ifCond .eq 13, 3) := by decide +kernel
theorem dX1_readLogin_67 : decode cX1_readLogin 67 = .ok (.aload_n 0, 1) := by decide +kernel
theorem dX1_readLogin_68 : decode cX1_readLogin 68 = .ok (.getfield 12, 3) := by decide +kernel
theorem dX1_readLogin_71 : decode cX1_readLogin 71 = .ok (.iload_n 1, 1) := by decide +kernel
theorem dX1_readLogin_72 : decode cX1_readLogin 72 = .ok (.iload_n 3, 1) := by decide +kernel
theorem dX1_readLogin_73 : decode cX1_readLogin 73 = .ok (.invokevirtual 193, 3) := by decide +kernel
theorem dX1_readLogin_76 : decode cX1_readLogin 76 = .ok (.pop, 1) := by decide +kernel
theorem dX1_readLogin_77 : decode cX1_readLogin 77 = .ok (.return_, 1) := by decide +kernel
theorem dX1_readRefer_0 : decode cX1_readRefer 0 = .ok (.aload_n 0, 1) := by decide +kernel
theorem dX1_readRefer_1 : decode cX1_readRefer 1 = .ok (.invokevirtual 32, 3) := by decide +kernel
theorem dX1_readRefer_4 : decode cX1_readRefer 4 = .ok (.pop, 1) := by decide +kernel
theorem dX1_readRefer_5 : decode cX1_readRefer 5 = .ok (.aload_n 0, 1) := by decide +kernel
theorem dX1_readRefer_6 : decode cX1_readRefer 6 = .ok (.invokevirtual 197, 3) := by decide +kernel
theorem dX1_readRefer_9 : decode cX1_readRefer 9 = .ok (.istore_n 1, 1) := by decide +kernel
theorem dX1_readRefer_10 : decode cX1_readRefer 10 = .ok (.aload_n 0, 1) := by decide +kernel
theorem dX1_readRefer_11 : decode cX1_readRefer 11 = .ok (.aload_n 0, 1) := by decide +kernel
theorem dX1_readRefer_12 : decode cX1_readRefer 12 = .ok (.getfield 12, 3) := by decide +kernel
theorem dX1_readRefer_15 : decode cX1_readRefer 15 = .ok (.getfield 127, 3) := by decide +kernel
theorem dX1_readRefer_18 : decode cX1_readRefer 18 = .ok (.iconst 0, 1) := by decide +kernel
theorem dX1_readRefer_19 : decode cX1_readRefer 19 = .ok (.invokevirtual 147, 3) := by decide +kernel
theorem dX1_readRefer_22 : decode cX1_readRefer 22 = .ok (.istore_n 2, 1) := by decide +kernel
theorem dX1_readRefer_23 : decode cX1_readRefer 23 = .ok (.aload_n 0, 1) := by decide +kernel
theorem dX1_readRefer_24 : decode cX1_readRefer 24 = .ok (.aload_n 0, 1) := by decide +kernel
theorem dX1_readRefer_25 : decode cX1_readRefer 25 = .ok (.getfield 12, 3) := by decide +kernel
theorem dX1_readRefer_28 : decode cX1_readRefer 28 = .ok (.iload_n 1, 1) := by decide +kernel
theorem dX1_readRefer_29 : decode cX1_readRefer 29 = .ok (.iload_n 2, 1) := by decide +kernel
theorem dX1_readRefer_30 : decode cX1_readRefer 30 = .ok (.invokevirtual 200, 3) := by decide +kernel
theorem dX1_readRefer_33 : decode cX1_readRefer 33 = .ok (.ifCond .ne 7, 3) := by decide +kernel
theorem dX1_readRefer_36 : decode cX1_readRefer 36 = .ok (.iconst 1, 1) := by decide +kernel
theorem dX1_readRefer_37 : decode cX1_readRefer 37 = .ok (.goto 4, 3) := by decide +kernel
theorem dX1_readRefer_40 : decode cX1_readRefer 40 = .ok (.iconst 0, 1) := by decide +kernel
theorem dX1_readRefer_41 : decode cX1_readRefer 41 = .ok (.invokevirtual 119, 3) := by decide +kernel
theorem dX1_readRefer_44 : decode cX1_readRefer 44 = .ok (.ifCond .eq 13, 3) := by decide +kernel
theorem dX1_readRefer_47 : decode cX1_readRefer 47 = .ok (.aload_n 0, 1) := by decide +kernel
theorem dX1_readRefer_48 : decode cX1_readRefer 48 = .ok (.getfield 12, 3) := by decide +kernel
theorem dX1_readRefer_51 : decode cX1_readRefer 51 = .ok (.iload_n 1, 1) := by decide +kernel
theorem dX1_readRefer_52 : decode cX1_readRefer 52 = .ok (.iload_n 2, 1) := by decide +kernel
theorem dX1_readRefer_53 : decode cX1_readRefer 53 = .ok (.invokevirtual 203, 3) := by decide +kernel
theorem dX1_readRefer_56 : decode cX1_readRefer 56 = .ok (.pop, 1) := by decide +kernel
theorem dX1_readRefer_57 : decode cX1_readRefer 57 = .ok (.return_, 1) := by decide +kernel
theorem dX1_readRequest_0 : decode cX1_readRequest 0 = .ok (.aload_n 0, 1) := by decide +kernel
theorem dX1_readRequest_1 : decode cX1_readRequest 1 = .ok (.invokevirtual 32, 3) := by decide +kernel
theorem dX1_readRequest_4 : decode cX1_readRequest 4 = .ok (.pop, 1) := by decide +kernel
theorem dX1_readRequest_5 : decode cX1_readRequest 5 = .ok (.aload_n 0, 1) := by decide +kernel
theorem dX1_readRequest_6 : decode cX1_readRequest 6 = .ok (.invokevirtual 197, 3) := by decide +kernel
theorem dX1_readRequest_9 : decode cX1_readRequest 9 = .ok (.istore_n 1, 1) := by decide +kernel
theorem dX1_readRequest_10 : decode cX1_readRequest 10 = .ok (.aload_n 0, 1) := by decide +kernel
theorem dX1_readRequest_11 : decode cX1_readRequest 11 = .ok (.aload_n 0, 1) := by decide +kernel
theorem dX1_readRequest_12 : decode cX1_readRequest 12 = .ok (.getfield 12, 3) := by decide +kernel
theorem dX1_readRequest_15 : decode cX1_readRequest 15 = .ok (.getfield 174, 3) := by decide +kernel
theorem dX1_readRequest_18 : decode cX1_readRequest 18 = .ok (.iconst 0, 1) := by decide +kernel
theorem dX1_readRequest_19 : decode cX1_readRequest 19 = .ok (.invokevirtual 147, 3) := by decide +kernel
theorem dX1_readRequest_22 : decode cX1_readRequest 22 = .ok (.istore_n 2, 1) := by decide +kernel
theorem dX1_readRequest_23 : decode cX1_readRequest 23 = .ok (.aload_n 0, 1) := by decide +kernel
theorem dX1_readRequest_24 : decode cX1_readRequest 24 = .ok (.aload_n 0, 1) := by decide +kernel
theorem dX1_readRequest_25 : decode cX1_readRequest 25 = .ok (.getfield 12, 3) := by decide +kernel
theorem dX1_readRequest_28 : decode cX1_readRequest 28 = .ok (.iload_n 1, 1) := by decide +kernel
theorem dX1_readRequest_29 : decode cX1_readRequest 29 = .ok (.iload_n 2, 1) := by decide +kernel
theorem dX1_readRequest_30 : decode cX1_readRequest 30 = .ok (.invokevirtual 206, 3) := by decide +kernel
theorem dX1_readRequest_33 : decode cX1_readRequest 33 = .ok (.ifCond .ne 7, 3) := by decide +kernel
theorem dX1_readRequest_36 : decode cX1_readRequest 36 = .ok (.iconst 1, 1) := by decide +kernel
theorem dX1_readRequest_37 : decode cX1_readRequest 37 = .ok (.goto 4, 3) := by decide +kernel
theorem dX1_readRequest_40 : decode cX1_readRequest 40 = .ok (.iconst 0, 1) := by decide +kernel
theorem dX1_readRequest_41 : decode cX1_readRequest 41 = .ok (.invokevirtual 119, 3) := by decide +kernel
theorem dX1_readRequest_44 : decode cX1_readRequest 44 = .ok (.ifCond .eq 13, 3) := by decide +kernel
theorem dX1_readRequest_47 : decode cX1_readRequest 47 = .ok (.aload_n 0, 1) := by decide +kernel
theorem dX1_readRequest_48 : decode cX1_readRequest 48 = .ok (.getfield 12, 3) := by decide +kernel
theorem dX1_readRequest_51 : decode cX1_readRequest 51 = .ok (.iload_n 1, 1) := by decide +kernel
theorem dX1_readRequest_52 : decode cX1_readRequest 52 = .ok (.iload_n 2, 1) := by decide +kernel
theorem dX1_readRequest_53 : decode cX1_readRequest 53 = .ok (.invokevirtual 209, 3) := by decide +kernel
theorem dX1_readRequest_56 : decode cX1_readRequest 56 = .ok (.pop, 1) := by decide +kernel
theorem dX1_readRequest_57 : decode cX1_readRequest 57 = .ok (.return_, 1) := by decide +kernel
theorem dX1_readRenew_0 : decode cX1_readRenew 0 = .ok (.aload_n 0, 1) := by decide +kernel
theorem dX1_readRenew_1 : decode cX1_readRenew 1 = .ok (.invokevirtual 32, 3) := by decide +kernel
theorem dX1_readRenew_4 : decode cX1_readRenew 4 = .ok (.pop, 1) := by decide +kernel
theorem dX1_readRenew_5 : decode cX1_readRenew 5 = .ok (.aload_n 0, 1) := by decide +kernel
theorem dX1_readRenew_6 : decode cX1_readRenew 6 = .ok (.invokevirtual 197, 3) := by decide +kernel
theorem dX1_readRenew_9 : decode cX1_readRenew 9 = .ok (.istore_n 1, 1) := by decide +kernel
theorem dX1_readRenew_10 : decode cX1_readRenew 10 = .ok (.aload_n 0, 1) := by decide +kernel
theorem dX1_readRenew_11 : decode cX1_readRenew 11 = .ok (.aload_n 0, 1) := by decide +kernel
theorem dX1_readRenew_12 : decode cX1_readRenew 12 = .ok (.getfield 12, 3) := by decide +kernel
theorem dX1_readRenew_15 : decode cX1_readRenew 15 = .ok (.iload_n 1, 1) := by decide +kernel
theorem dX1_readRenew_16 : decode cX1_readRenew 16 = .ok (.invokevirtual 212, 3) := by decide +kernel
theorem dX1_readRenew_19 : decode cX1_readRenew 19 = .ok (.ifCond .ne 7, 3) := by decide +kernel
theorem dX1_readRenew_22 : decode cX1_readRenew 22 = .ok (.iconst 1, 1) := by decide +kernel
theorem dX1_readRenew_23 : decode cX1_readRenew 23 = .ok (.goto 4, 3) := by decide +kernel
theorem dX1_readRenew_26 : decode cX1_readRenew 26 = .ok (.iconst 0, 1) := by decide +kernel
theorem dX1_readRenew_27 : decode cX1_readRenew 27 = .ok (.invokevirtual 119, 3) := by decide +kernel
theorem dX1_readRenew_30 : decode cX1_readRenew 30 = .ok (.ifCond .eq 12, 3) := by decide +kernel
theorem dX1_readRenew_33 : decode cX1_readRenew 33 = .ok (.aload_n 0, 1) := by decide +kernel
theorem dX1_readRenew_34 : decode cX1_readRenew 34 = .ok (.getfield 12, 3) := by decide +kernel
theorem dX1_readRenew_37 : decode cX1_readRenew 37 = .ok (.iload_n 1, 1) := by decide +kernel
theorem dX1_readRenew_38 : decode cX1_readRenew 38 = .ok (.invokevirtual 216, 3) := by decide +kernel
theorem dX1_readRenew_41 : decode cX1_readRenew 41 = .ok (.pop, 1) := by decide +kernel
theorem dX1_readRenew_42 : decode cX1_readRenew 42 = .ok (.return_, 1) := by decide +kernel
theorem dX1_readCheese_0 : decode cX1_readCheese 0 = .ok (.aload_n 0, 1) := by decide +kernel
theorem dX1_readCheese_1 : decode cX1_readCheese 1 = .ok (.invokevirtual 32, 3) := by decide +kernel
theorem dX1_readCheese_4 : decode cX1_readCheese 4 = .ok (.pop, 1) := by decide +kernel
theorem dX1_readCheese_5 : decode cX1_readCheese 5 = .ok (.aload_n 0, 1) := by decide +kernel
theorem dX1_readCheese_6 : decode cX1_readCheese 6 = .ok (.invokevirtual 197, 3) := by decide +kernel
theorem dX1_readCheese_9 : decode cX1_readCheese 9 = .ok (.istore_n 1, 1) := by decide +kernel
theorem dX1_readCheese_10 : decode cX1_readCheese 10 = .ok (.aload_n 0, 1) := by decide +kernel
theorem dX1_readCheese_11 : decode cX1_readCheese 11 = .ok (.aload_n 0, 1) := by decide +kernel
theorem dX1_readCheese_12 : decode cX1_readCheese 12 = .ok (.getfield 12, 3) := by decide +kernel
theorem dX1_readCheese_15 : decode cX1_readCheese 15 = .ok (.iload_n 1, 1) := by decide +kernel
theorem dX1_readCheese_16 : decode cX1_readCheese 16 = .ok (.iconst 0, 1) := by decide +kernel
theorem dX1_readCheese_17 : decode cX1_readCheese 17 = .ok (.invokevirtual 219, 3) := by decide +kernel
theorem dX1_readCheese_20 : decode cX1_readCheese 20 = .ok (.ifCond .ne 7, 3) := by decide +kernel
theorem dX1_readCheese_23 : decode cX1_readCheese 23 = .ok (.iconst 1, 1) := by decide +kernel
theorem dX1_readCheese_24 : decode cX1_readCheese 24 = .ok (.goto 4, 3) := by decide +kernel
theorem dX1_readCheese_27 : decode cX1_readCheese 27 = .ok (.iconst 0, 1) := by decide +kernel
theorem dX1_readCheese_28 : decode cX1_readCheese 28 = .ok (.invokevirtual 119, 3) := by decide +kernel
theorem dX1_readCheese_31 : decode cX1_readCheese 31 = .ok (.ifCond .eq 12, 3) := by decide +kernel
theorem dX1_readCheese_34 : decode cX1_readCheese 34 = .ok (.aload_n 0, 1) := by decide +kernel
theorem dX1_readCheese_35 : decode cX1_readCheese 35 = .ok (.getfield 12, 3) := by decide +kernel
theorem dX1_readCheese_38 : decode cX1_readCheese 38 = .ok (.iload_n 1, 1) := by decide +kernel
theorem dX1_readCheese_39 : decode cX1_readCheese 39 = .ok (.invokevirtual 222, 3) := by decide +kernel
theorem dX1_readCheese_42 : decode cX1_readCheese 42 = .ok (.pop, 1) := by decide +kernel
theorem dX1_readCheese_43 : decode cX1_readCheese 43 = .ok (.return_, 1) := by decide +kernel
theorem dX1_readDrop_0 : decode cX1_readDrop 0 = .ok (.aload_n 0, 1) := by decide +kernel
theorem dX1_readDrop_1 : decode cX1_readDrop 1 = .ok (.invokevirtual 32, 3) := by decide +kernel
theorem dX1_readDrop_4 : decode cX1_readDrop 4 = .ok (.pop, 1) := by decide +kernel
theorem dX1_readDrop_5 : decode cX1_readDrop 5 = .ok (.aload_n 0, 1) := by decide +kernel
theorem dX1_readDrop_6 : decode cX1_readDrop 6 = .ok (.invokevirtual 197, 3) := by decide +kernel
theorem dX1_readDrop_9 : decode cX1_readDrop 9 = .ok (.istore_n 1, 1) := by decide +kernel
theorem dX1_readDrop_10 : decode cX1_readDrop 10 = .ok (.aload_n 0, 1) := by decide +kernel
theorem dX1_readDrop_11 : decode cX1_readDrop 11 = .ok (.iconst 1, 1) := by decide +kernel
theorem dX1_readDrop_12 : decode cX1_readDrop 12 = .ok (.invokevirtual 119, 3) := by decide +kernel
theorem dX1_readDrop_15 : decode cX1_readDrop 15 = .ok (.ifCond .eq 14, 3) := by decide +kernel
theorem dX1_readDrop_18 : decode cX1_readDrop 18 = .ok (.aload_n 0, 1) := by decide +kernel
theorem dX1_readDrop_19 : decode cX1_readDrop 19 = .ok (.getfield 12, 3) := by decide +kernel
theorem dX1_readDrop_22 : decode cX1_readDrop 22 = .ok (.getfield 225, 3) := by decide +kernel
theorem dX1_readDrop_25 : decode cX1_readDrop 25 = .ok (.iload_n 1, 1) := by decide +kernel
theorem dX1_readDrop_26 : decode cX1_readDrop 26 = .ok (.invokevirtual 229, 3) := by decide +kernel
theorem dX1_readDrop_29 : decode cX1_readDrop 29 = .ok (.return_, 1) := by decide +kernel
theorem dX1_readSweep_0 : decode cX1_readSweep 0 = .ok (.aload_n 0, 1) := by decide +kernel
theorem dX1_readSweep_1 : decode cX1_readSweep 1 = .ok (.invokevirtual 32, 3) := by decide +kernel
theorem dX1_readSweep_4 : decode cX1_readSweep 4 = .ok (.pop, 1) := by decide +kernel
theorem dX1_readSweep_5 : decode cX1_readSweep 5 = .ok (.aload_n 0, 1) := by decide +kernel
theorem dX1_readSweep_6 : decode cX1_readSweep 6 = .ok (.iconst 1, 1) := by decide +kernel
theorem dX1_readSweep_7 : decode cX1_readSweep 7 = .ok (.invokevirtual 119, 3) := by decide +kernel
theorem dX1_readSweep_10 : decode cX1_readSweep 10 = .ok (.ifCond .eq 21, 3) := by decide +kernel
theorem dX1_readSweep_13 : decode cX1_readSweep 13 = .ok (.aload_n 0, 1) := by decide +kernel
theorem dX1_readSweep_14 : decode cX1_readSweep 14 = .ok (.getfield 12, 3) := by decide +kernel
theorem dX1_readSweep_17 : decode cX1_readSweep 17 = .ok (.getfield 225, 3) := by decide +kernel
theorem dX1_readSweep_20 : decode cX1_readSweep 20 = .ok (.aload_n 0, 1) := by decide +kernel
theorem dX1_readSweep_21 : decode cX1_readSweep 21 = .ok (.getfield 12, 3) := by decide +kernel
theorem dX1_readSweep_24 : decode cX1_readSweep 24 = .ok (.getfield 235, 3) := by decide +kernel
theorem dX1_readSweep_27 : decode cX1_readSweep 27 = .ok (.invokevirtual 238, 3) := by decide +kernel
theorem dX1_readSweep_30 : decode cX1_readSweep 30 = .ok (.pop, 1) := by decide +kernel
theorem dX1_readSweep_31 : decode cX1_readSweep 31 = .ok (.return_, 1) := by decide +kernel
theorem dX1_readPass_0 : decode cX1_readPass 0 = .ok (.aload_n 0, 1) := by decide +kernel
theorem dX1_readPass_1 : decode cX1_readPass 1 = .ok (.invokevirtual 32, 3) := by decide +kernel
theorem dX1_readPass_4 : decode cX1_readPass 4 = .ok (.pop, 1) := by decide +kernel
theorem dX1_readPass_5 : decode cX1_readPass 5 = .ok (.aload_n 0, 1) := by decide +kernel
theorem dX1_readPass_6 : decode cX1_readPass 6 = .ok (.iconst 0, 1) := by decide +kernel
theorem dX1_readPass_7 : decode cX1_readPass 7 = .ok (.sipush 999, 3) := by decide +kernel
theorem dX1_readPass_10 : decode cX1_readPass 10 = .ok (.invokevirtual 115, 3) := by decide +kernel
theorem dX1_readPass_13 : decode cX1_readPass 13 = .ok (.istore_n 1, 1) := by decide +kernel
theorem dX1_readPass_14 : decode cX1_readPass 14 = .ok (.aload_n 0, 1) := by decide +kernel
theorem dX1_readPass_15 : decode cX1_readPass 15 = .ok (.iconst 1, 1) := by decide +kernel
theorem dX1_readPass_16 : decode cX1_readPass 16 = .ok (.invokevirtual 119, 3) := by decide +kernel
theorem dX1_readPass_19 : decode cX1_readPass 19 = .ok (.ifCond .eq 11, 3) := by decide +kernel
theorem dX1_readPass_22 : decode cX1_readPass 22 = .ok (.aload_n 0, 1) := by decide +kernel
theorem dX1_readPass_23 : decode cX1_readPass 23 = .ok (.getfield 12, 3) := by decide +kernel
theorem dX1_readPass_26 : decode cX1_readPass 26 = .ok (.iload_n 1, 1) := by decide +kernel
theorem dX1_readPass_27 : decode cX1_readPass 27 = .ok (.invokevirtual 241, 3) := by decide +kernel
theorem dX1_readPass_30 : decode cX1_readPass 30 = .ok (.return_, 1) := by decide +kernel
theorem dX1_number_0 : decode cX1_number 0 = .ok (.aload_n 0, 1) := by decide +kernel
theorem dX1_number_1 : decode cX1_number 1 = .ok (.aload_n 0, 1) := by decide +kernel
theorem dX1_number_2 : decode cX1_number 2 = .ok (.getfield 39, 3) := by decide +kernel
theorem dX1_number_5 : decode cX1_number 5 = .ok (.iconst 2, 1) := by decide +kernel
theorem dX1_number_6 : decode cX1_number 6 = .ok (.if_icmp .ne 7, 3) := by decide +kernel
theorem dX1_number_9 : decode cX1_number 9 = .ok (.iconst 1, 1) := by decide +kernel
theorem dX1_number_10 : decode cX1_number 10 = .ok (.goto 4, 3) := by decide +kernel
theorem dX1_number_13 : decode cX1_number 13 = .ok (.iconst 0, 1) := by decide +kernel
theorem dX1_number_14 : decode cX1_number 14 = .ok (.iconst 1, 1) := by decide +kernel
theorem dX1_number_15 : decode cX1_number 15 = .ok (.invokevirtual 109, 3) := by decide +kernel
theorem dX1_number_18 : decode cX1_number 18 = .ok (.aload_n 0, 1) := by decide +kernel
theorem dX1_number_19 : decode cX1_number 19 = .ok (.aload_n 0, 1) := by decide +kernel
theorem dX1_number_20 : decode cX1_number 20 = .ok (.getfield 151, 3) := by decide +kernel
theorem dX1_number_23 : decode cX1_number 23 = .ok (.iload_n 1, 1) := by decide +kernel
theorem dX1_number_24 : decode cX1_number 24 = .ok (.if_icmp .lt 15, 3) := by decide +kernel
theorem dX1_number_27 : decode cX1_number 27 = .ok (.aload_n 0, 1) := by decide +kernel
theorem dX1_number_28 : decode cX1_number 28 = .ok (.getfield 151, 3) := by decide +kernel
theorem dX1_number_31 : decode cX1_number 31 = .ok (.iload_n 2, 1) := by decide +kernel
theorem dX1_number_32 : decode cX1_number 32 = .ok (.if_icmp .gt 7, 3) := by decide +kernel
theorem dX1_number_35 : decode cX1_number 35 = .ok (.iconst 1, 1) := by decide +kernel
theorem dX1_number_36 : decode cX1_number 36 = .ok (.goto 4, 3) := by decide +kernel
theorem dX1_number_39 : decode cX1_number 39 = .ok (.iconst 0, 1) := by decide +kernel
theorem dX1_number_40 : decode cX1_number 40 = .ok (.iconst 2, 1) := by decide +kernel
theorem dX1_number_41 : decode cX1_number 41 = .ok (.invokevirtual 109, 3) := by decide +kernel
theorem dX1_number_44 : decode cX1_number 44 = .ok (.aload_n 0, 1) := by decide +kernel
theorem dX1_number_45 : decode cX1_number 45 = .ok (.invokevirtual 32, 3) := by decide +kernel
theorem dX1_number_48 : decode cX1_number 48 = .ok (.ireturn, 1) := by decide +kernel
theorem dX1_newName_0 : decode cX1_newName 0 = .ok (.aload_n 0, 1) := by decide +kernel
theorem dX1_newName_1 : decode cX1_newName 1 = .ok (.aload_n 0, 1) := by decide +kernel
theorem dX1_newName_2 : decode cX1_newName 2 = .ok (.getfield 39, 3) := by decide +kernel
theorem dX1_newName_5 : decode cX1_newName 5 = .ok (.iconst 1, 1) := by decide +kernel
theorem dX1_newName_6 : decode cX1_newName 6 = .ok (.if_icmp .ne 7, 3) := by decide +kernel
theorem dX1_newName_9 : decode cX1_newName 9 = .ok (.iconst 1, 1) := by decide +kernel
theorem dX1_newName_10 : decode cX1_newName 10 = .ok (.goto 4, 3) := by decide +kernel
theorem dX1_newName_13 : decode cX1_newName 13 = .ok (.iconst 0, 1) := by decide +kernel
theorem dX1_newName_14 : decode cX1_newName 14 = .ok (.iconst 1, 1) := by decide +kernel
theorem dX1_newName_15 : decode cX1_newName 15 = .ok (.invokevirtual 109, 3) := by decide +kernel
theorem dX1_newName_18 : decode cX1_newName 18 = .ok (.aload_n 0, 1) := by decide +kernel
theorem dX1_newName_19 : decode cX1_newName 19 = .ok (.aload_n 0, 1) := by decide +kernel
theorem dX1_newName_20 : decode cX1_newName 20 = .ok (.getfield 151, 3) := by decide +kernel
theorem dX1_newName_23 : decode cX1_newName 23 = .ok (.ifCond .eq 7, 3) := by decide +kernel
theorem dX1_newName_26 : decode cX1_newName 26 = .ok (.iconst 1, 1) := by decide +kernel
theorem dX1_newName_27 : decode cX1_newName 27 = .ok (.goto 4, 3) := by decide +kernel
theorem dX1_newName_30 : decode cX1_newName 30 = .ok (.iconst 0, 1) := by decide +kernel
theorem dX1_newName_31 : decode cX1_newName 31 = .ok (.iconst 2, 1) := by decide +kernel
theorem dX1_newName_32 : decode cX1_newName 32 = .ok (.invokevirtual 109, 3) := by decide +kernel
theorem dX1_newName_35 : decode cX1_newName 35 = .ok (.aload_n 0, 1) := by decide +kernel
theorem dX1_newName_36 : decode cX1_newName 36 = .ok (.aload_n 0, 1) := by decide +kernel
theorem dX1_newName_37 : decode cX1_newName 37 = .ok (.getfield 12, 3) := by decide +kernel
theorem dX1_newName_40 : decode cX1_newName 40 = .ok (.aload_n 0, 1) := by decide +kernel
theorem dX1_newName_41 : decode cX1_newName 41 = .ok (.getfield 151, 3) := by decide +kernel
theorem dX1_newName_44 : decode cX1_newName 44 = .ok (.invokevirtual 244, 3) := by decide +kernel
theorem dX1_newName_47 : decode cX1_newName 47 = .ok (.iconst (-1), 1) := by decide +kernel
theorem dX1_newName_48 : decode cX1_newName 48 = .ok (.if_icmp .ne 7, 3) := by decide +kernel
theorem dX1_newName_51 : decode cX1_newName 51 = .ok (.iconst 1, 1) := by decide +kernel
theorem dX1_newName_52 : decode cX1_newName 52 = .ok (.goto 4, 3) := by decide +kernel
theorem dX1_newName_55 : decode cX1_newName 55 = .ok (.iconst 0, 1) := by decide +kernel
theorem dX1_newName_56 : decode cX1_newName 56 = .ok (.iconst 3, 1) := by decide +kernel
theorem dX1_newName_57 : decode cX1_newName 57 = .ok (.invokevirtual 109, 3) := by decide +kernel
theorem dX1_newName_60 : decode cX1_newName 60 = .ok (.aload_n 0, 1) := by decide +kernel
theorem dX1_newName_61 : decode cX1_newName 61 = .ok (.invokevirtual 32, 3) := by decide +kernel
theorem dX1_newName_64 : decode cX1_newName 64 = .ok (.ireturn, 1) := by decide +kernel
theorem dX1_knownName_0 : decode cX1_knownName 0 = .ok (.aload_n 1, 1) := by decide +kernel
theorem dX1_knownName_1 : decode cX1_knownName 1 = .ok (.iload_n 2, 1) := by decide +kernel
theorem dX1_knownName_2 : decode cX1_knownName 2 = .ok (.aload_n 0, 1) := by decide +kernel
theorem dX1_knownName_3 : decode cX1_knownName 3 = .ok (.getfield 151, 3) := by decide +kernel
theorem dX1_knownName_6 : decode cX1_knownName 6 = .ok (.invokevirtual 247, 3) := by decide +kernel
theorem dX1_knownName_9 : decode cX1_knownName 9 = .ok (.istore_n 3, 1) := by decide +kernel
theorem dX1_knownName_10 : decode cX1_knownName 10 = .ok (.aload_n 0, 1) := by decide +kernel
theorem dX1_knownName_11 : decode cX1_knownName 11 = .ok (.aload_n 0, 1) := by decide +kernel
theorem dX1_knownName_12 : decode cX1_knownName 12 = .ok (.getfield 39, 3) := by decide +kernel
theorem dX1_knownName_15 : decode cX1_knownName 15 = .ok (.iconst 1, 1) := by decide +kernel
theorem dX1_knownName_16 : decode cX1_knownName 16 = .ok (.if_icmp .ne 7, 3) := by decide +kernel
theorem dX1_knownName_19 : decode cX1_knownName 19 = .ok (.iconst 1, 1) := by decide +kernel
theorem dX1_knownName_20 : decode cX1_knownName 20 = .ok (.goto 4, 3) := by decide +kernel
theorem dX1_knownName_23 : decode cX1_knownName 23 = .ok (.iconst 0, 1) := by decide +kernel
theorem dX1_knownName_24 : decode cX1_knownName 24 = .ok (.iconst 1, 1) := by decide +kernel
theorem dX1_knownName_25 : decode cX1_knownName 25 = .ok (.invokevirtual 109, 3) := by decide +kernel
theorem dX1_knownName_28 : decode cX1_knownName 28 = .ok (.aload_n 0, 1) := by decide +kernel
theorem dX1_knownName_29 : decode cX1_knownName 29 = .ok (.iload_n 3, 1) := by decide +kernel
theorem dX1_knownName_30 : decode cX1_knownName 30 = .ok (.iconst (-1), 1) := by decide +kernel
theorem dX1_knownName_31 : decode cX1_knownName 31 = .ok (.if_icmp .eq 7, 3) := by decide +kernel
theorem dX1_knownName_34 : decode cX1_knownName 34 = .ok (.iconst 1, 1) := by decide +kernel
theorem dX1_knownName_35 : decode cX1_knownName 35 = .ok (.goto 4, 3) := by decide +kernel
theorem dX1_knownName_38 : decode cX1_knownName 38 = .ok (.iconst 0, 1) := by decide +kernel
theorem dX1_knownName_39 : decode cX1_knownName 39 = .ok (.iconst 4, 1) := by decide +kernel
theorem dX1_knownName_40 : decode cX1_knownName 40 = .ok (.invokevirtual 109, 3) := by decide +kernel
theorem dX1_knownName_43 : decode cX1_knownName 43 = .ok (.aload_n 0, 1) := by decide +kernel
theorem dX1_knownName_44 : decode cX1_knownName 44 = .ok (.invokevirtual 32, 3) := by decide +kernel
theorem dX1_knownName_47 : decode cX1_knownName 47 = .ok (.pop, 1) := by decide +kernel
theorem dX1_knownName_48 : decode cX1_knownName 48 = .ok (.iload_n 3, 1) := by decide +kernel
theorem dX1_knownName_49 : decode cX1_knownName 49 = .ok (.ireturn, 1) := by decide +kernel
theorem dX1_knownTicket_0 : decode cX1_knownTicket 0 = .ok (.aload_n 0, 1) := by decide +kernel
theorem dX1_knownTicket_1 : decode cX1_knownTicket 1 = .ok (.getfield 12, 3) := by decide +kernel
theorem dX1_knownTicket_4 : decode cX1_knownTicket 4 = .ok (.getfield 225, 3) := by decide +kernel
theorem dX1_knownTicket_7 : decode cX1_knownTicket 7 = .ok (.iconst 0, 1) := by decide +kernel
theorem dX1_knownTicket_8 : decode cX1_knownTicket 8 = .ok (.aload_n 0, 1) := by decide +kernel
theorem dX1_knownTicket_9 : decode cX1_knownTicket 9 = .ok (.getfield 151, 3) := by decide +kernel
theorem dX1_knownTicket_12 : decode cX1_knownTicket 12 = .ok (.invokevirtual 250, 3) := by decide +kernel
theorem dX1_knownTicket_15 : decode cX1_knownTicket 15 = .ok (.istore_n 1, 1) := by decide +kernel
theorem dX1_knownTicket_16 : decode cX1_knownTicket 16 = .ok (.aload_n 0, 1) := by decide +kernel
theorem dX1_knownTicket_17 : decode cX1_knownTicket 17 = .ok (.aload_n 0, 1) := by decide +kernel
theorem dX1_knownTicket_18 : decode cX1_knownTicket 18 = .ok (.getfield 39, 3) := by decide +kernel
theorem dX1_knownTicket_21 : decode cX1_knownTicket 21 = .ok (.iconst 2, 1) := by decide +kernel
theorem dX1_knownTicket_22 : decode cX1_knownTicket 22 = .ok (.if_icmp .ne 7, 3) := by decide +kernel
theorem dX1_knownTicket_25 : decode cX1_knownTicket 25 = .ok (.iconst 1, 1) := by decide +kernel
theorem dX1_knownTicket_26 : decode cX1_knownTicket 26 = .ok (.goto 4, 3) := by decide +kernel
theorem dX1_knownTicket_29 : decode cX1_knownTicket 29 = .ok (.iconst 0, 1) := by decide +kernel
theorem dX1_knownTicket_30 : decode cX1_knownTicket 30 = .ok (.iconst 1, 1) := by decide +kernel
theorem dX1_knownTicket_31 : decode cX1_knownTicket 31 = .ok (.invokevirtual 109, 3) := by decide +kernel
theorem dX1_knownTicket_34 : decode cX1_knownTicket 34 = .ok (.aload_n 0, 1) := by decide +kernel
theorem dX1_knownTicket_35 : decode cX1_knownTicket 35 = .ok (.iload_n 1, 1) := by decide +kernel
theorem dX1_knownTicket_36 : decode cX1_knownTicket 36 = .ok (.iconst (-1), 1) := by decide +kernel
theorem dX1_knownTicket_37 : decode cX1_knownTicket 37 = .ok (.if_icmp .eq 7, 3) := by decide +kernel
theorem dX1_knownTicket_40 : decode cX1_knownTicket 40 = .ok (.iconst 1, 1) := by decide +kernel
theorem dX1_knownTicket_41 : decode cX1_knownTicket 41 = .ok (.goto 4, 3) := by decide +kernel
theorem dX1_knownTicket_44 : decode cX1_knownTicket 44 = .ok (.iconst 0, 1) := by decide +kernel
theorem dX1_knownTicket_45 : decode cX1_knownTicket 45 = .ok (.iconst 4, 1) := by decide +kernel
theorem dX1_knownTicket_46 : decode cX1_knownTicket 46 = .ok (.invokevirtual 109, 3) := by decide +kernel
theorem dX1_knownTicket_49 : decode cX1_knownTicket 49 = .ok (.aload_n 0, 1) := by decide +kernel
theorem dX1_knownTicket_50 : decode cX1_knownTicket 50 = .ok (.invokevirtual 32, 3) := by decide +kernel
theorem dX1_knownTicket_53 : decode cX1_knownTicket 53 = .ok (.pop, 1) := by decide +kernel
theorem dX1_knownTicket_54 : decode cX1_knownTicket 54 = .ok (.iload_n 1, 1) := by decide +kernel
theorem dX1_knownTicket_55 : decode cX1_knownTicket 55 = .ok (.ireturn, 1) := by decide +kernel
theorem dX1_clockWord_0 : decode cX1_clockWord 0 = .ok (.aload_n 0, 1) := by decide +kernel
theorem dX1_clockWord_1 : decode cX1_clockWord 1 = .ok (.ldc 251, 2) := by decide +kernel
theorem dX1_clockWord_3 : decode cX1_clockWord 3 = .ok (.invokevirtual 47, 3) := by decide +kernel
theorem dX1_clockWord_6 : decode cX1_clockWord 6 = .ok (.istore_n 1, 1) := by decide +kernel
theorem dX1_clockWord_7 : decode cX1_clockWord 7 = .ok (.aload_n 0, 1) := by decide +kernel
theorem dX1_clockWord_8 : decode cX1_clockWord 8 = .ok (.ldc 253, 2) := by decide +kernel
theorem dX1_clockWord_10 : decode cX1_clockWord 10 = .ok (.invokevirtual 47, 3) := by decide +kernel
theorem dX1_clockWord_13 : decode cX1_clockWord 13 = .ok (.istore_n 2, 1) := by decide +kernel
theorem dX1_clockWord_14 : decode cX1_clockWord 14 = .ok (.aload_n 0, 1) := by decide +kernel
theorem dX1_clockWord_15 : decode cX1_clockWord 15 = .ok (.iload_n 1, 1) := by decide +kernel
theorem dX1_clockWord_16 : decode cX1_clockWord 16 = .ok (.ifCond .ne 16, 3) := by decide +kernel
theorem dX1_clockWord_19 : decode cX1_clockWord 19 = .ok (.iload_n 2, 1) := by decide +kernel
theorem dX1_clockWord_20 : decode cX1_clockWord 20 = .ok (.ifCond .ne 12, 3) := by decide +kernel
theorem dX1_clockWord_23 : decode cX1_clockWord 23 = .ok (.aload_n 0, 1) := by decide +kernel
theorem dX1_clockWord_24 : decode cX1_clockWord 24 = .ok (.ldc 255, 2) := by decide +kernel
theorem dX1_clockWord_26 : decode cX1_clockWord 26 = .ok (.invokevirtual 47, 3) := by decide +kernel
theorem dX1_clockWord_29 : decode cX1_clockWord 29 = .ok (.ifCond .eq 7, 3) := by decide +kernel
theorem dX1_clockWord_32 : decode cX1_clockWord 32 = .ok (.iconst 1, 1) := by decide +kernel
theorem dX1_clockWord_33 : decode cX1_clockWord 33 = .ok (.goto 4, 3) := by decide +kernel
theorem dX1_clockWord_36 : decode cX1_clockWord 36 = .ok (.iconst 0, 1) := by decide +kernel
theorem dX1_clockWord_37 : decode cX1_clockWord 37 = .ok (.iconst 1, 1) := by decide +kernel
theorem dX1_clockWord_38 : decode cX1_clockWord 38 = .ok (.invokevirtual 109, 3) := by decide +kernel
theorem dX1_clockWord_41 : decode cX1_clockWord 41 = .ok (.aload_n 0, 1) := by decide +kernel
theorem dX1_clockWord_42 : decode cX1_clockWord 42 = .ok (.invokevirtual 32, 3) := by decide +kernel
theorem dX1_clockWord_45 : decode cX1_clockWord 45 = .ok (.pop, 1) := by decide +kernel
theorem dX1_clockWord_46 : decode cX1_clockWord 46 = .ok (.iload_n 2, 1) := by decide +kernel
theorem dX1_clockWord_47 : decode cX1_clockWord 47 = .ok (.ifCond .eq 5, 3) := by decide +kernel
theorem dX1_clockWord_50 : decode cX1_clockWord 50 = .ok (.iconst 0, 1) := by decide +kernel
theorem dX1_clockWord_51 : decode cX1_clockWord 51 = .ok (.ireturn, 1) := by decide +kernel
theorem dX1_clockWord_52 : decode cX1_clockWord 52 = .ok (.iload_n 1, 1) := by decide +kernel
theorem dX1_clockWord_53 : decode cX1_clockWord 53 = .ok (.ifCond .eq 7, 3) := by decide +kernel
theorem dX1_clockWord_56 : decode cX1_clockWord 56 = .ok (.iconst 1, 1) := by decide +kernel
theorem dX1_clockWord_57 : decode cX1_clockWord 57 = .ok (.goto 4, 3) := by decide +kernel
theorem dX1_clockWord_60 : decode cX1_clockWord 60 = .ok (.iconst (-1), 1) := by decide +kernel
theorem dX1_clockWord_61 : decode cX1_clockWord 61 = .ok (.ireturn, 1) := by decide +kernel
theorem dX1_semicolon_0 : decode cX1_semicolon 0 = .ok (.aload_n 0, 1) := by decide +kernel
theorem dX1_semicolon_1 : decode cX1_semicolon 1 = .ok (.aload_n 0, 1) := by decide +kernel
theorem dX1_semicolon_2 : decode cX1_semicolon 2 = .ok (.getfield 39, 3) := by decide +kernel
theorem dX1_semicolon_5 : decode cX1_semicolon 5 = .ok (.iconst 3, 1) := by decide +kernel
theorem dX1_semicolon_6 : decode cX1_semicolon 6 = .ok (.if_icmp .ne 16, 3) := by decide +kernel
theorem dX1_semicolon_9 : decode cX1_semicolon 9 = .ok (.aload_n 0, 1) := by decide +kernel
theorem dX1_semicolon_10 : decode cX1_semicolon 10 = .ok (.getfield 151, 3) := by decide +kernel
theorem dX1_semicolon_13 : decode cX1_semicolon 13 = .ok (.bipush 59, 2) := by decide +kernel
theorem dX1_semicolon_15 : decode cX1_semicolon 15 = .ok (.if_icmp .ne 7, 3) := by decide +kernel
theorem dX1_semicolon_18 : decode cX1_semicolon 18 = .ok (.iconst 1, 1) := by decide +kernel
theorem dX1_semicolon_19 : decode cX1_semicolon 19 = .ok (.goto 4, 3) := by decide +kernel
theorem dX1_semicolon_22 : decode cX1_semicolon 22 = .ok (.iconst 0, 1) := by decide +kernel
theorem dX1_semicolon_23 : decode cX1_semicolon 23 = .ok (.iconst 1, 1) := by decide +kernel
theorem dX1_semicolon_24 : decode cX1_semicolon 24 = .ok (.invokevirtual 109, 3) := by decide +kernel
theorem dX1_semicolon_27 : decode cX1_semicolon 27 = .ok (.aload_n 0, 1) := by decide +kernel
theorem dX1_semicolon_28 : decode cX1_semicolon 28 = .ok (.iload_n 1, 1) := by decide +kernel
theorem dX1_semicolon_29 : decode cX1_semicolon 29 = .ok (.bipush 6, 2) := by decide +kernel
theorem dX1_semicolon_31 : decode cX1_semicolon 31 = .ok (.invokevirtual 109, 3) := by decide +kernel
theorem dX1_semicolon_34 : decode cX1_semicolon 34 = .ok (.aload_n 0, 1) := by decide +kernel
theorem dX1_semicolon_35 : decode cX1_semicolon 35 = .ok (.invokevirtual 32, 3) := by decide +kernel
theorem dX1_semicolon_38 : decode cX1_semicolon 38 = .ok (.pop, 1) := by decide +kernel
theorem dX1_semicolon_39 : decode cX1_semicolon 39 = .ok (.aload_n 0, 1) := by decide +kernel
theorem dX1_semicolon_40 : decode cX1_semicolon 40 = .ok (.getfield 29, 3) := by decide +kernel
theorem dX1_semicolon_43 : decode cX1_semicolon 43 = .ok (.ifCond .ne 7, 3) := by decide +kernel
theorem dX1_semicolon_46 : decode cX1_semicolon 46 = .ok (.iconst 1, 1) := by decide +kernel
theorem dX1_semicolon_47 : decode cX1_semicolon 47 = .ok (.goto 4, 3) := by decide +kernel
theorem dX1_semicolon_50 : decode cX1_semicolon 50 = .ok (.iconst 0, 1) := by decide +kernel
theorem dX1_semicolon_51 : decode cX1_semicolon 51 = .ok (.ireturn, 1) := by decide +kernel
theorem dX1_isWord_0 : decode cX1_isWord 0 = .ok (.aload_n 0, 1) := by decide +kernel
theorem dX1_isWord_1 : decode cX1_isWord 1 = .ok (.getfield 39, 3) := by decide +kernel
theorem dX1_isWord_4 : decode cX1_isWord 4 = .ok (.iconst 1, 1) := by decide +kernel
theorem dX1_isWord_5 : decode cX1_isWord 5 = .ok (.if_icmp .ne 26, 3) := by decide +kernel
theorem dX1_isWord_8 : decode cX1_isWord 8 = .ok (.aload_n 0, 1) := by decide +kernel
theorem dX1_isWord_9 : decode cX1_isWord 9 = .ok (.getfield 22, 3) := by decide +kernel
theorem dX1_isWord_12 : decode cX1_isWord 12 = .ok (.aload_n 0, 1) := by decide +kernel
theorem dX1_isWord_13 : decode cX1_isWord 13 = .ok (.getfield 257, 3) := by decide +kernel
theorem dX1_isWord_16 : decode cX1_isWord 16 = .ok (.aload_n 0, 1) := by decide +kernel
theorem dX1_isWord_17 : decode cX1_isWord 17 = .ok (.getfield 26, 3) := by decide +kernel
theorem dX1_isWord_20 : decode cX1_isWord 20 = .ok (.aload_n 1, 1) := by decide +kernel
theorem dX1_isWord_21 : decode cX1_isWord 21 = .ok (.invokevirtual 260, 3) := by decide +kernel
theorem dX1_isWord_24 : decode cX1_isWord 24 = .ok (.ifCond .eq 7, 3) := by decide +kernel
theorem dX1_isWord_27 : decode cX1_isWord 27 = .ok (.iconst 1, 1) := by decide +kernel
theorem dX1_isWord_28 : decode cX1_isWord 28 = .ok (.goto 4, 3) := by decide +kernel
theorem dX1_isWord_31 : decode cX1_isWord 31 = .ok (.iconst 0, 1) := by decide +kernel
theorem dX1_isWord_32 : decode cX1_isWord 32 = .ok (.ireturn, 1) := by decide +kernel
theorem dX1_require_0 : decode cX1_require 0 = .ok (.aload_n 0, 1) := by decide +kernel
theorem dX1_require_1 : decode cX1_require 1 = .ok (.getfield 29, 3) := by decide +kernel
theorem dX1_require_4 : decode cX1_require 4 = .ok (.ifCond .ne 20, 3) := by decide +kernel
theorem dX1_require_7 : decode cX1_require 7 = .ok (.iload_n 1, 1) := by decide +kernel
theorem dX1_require_8 : decode cX1_require 8 = .ok (.ifCond .ne 16, 3) := by decide +kernel
theorem dX1_require_11 : decode cX1_require 11 = .ok (.aload_n 0, 1) := by decide +kernel
theorem dX1_require_12 : decode cX1_require 12 = .ok (.iload_n 2, 1) := by decide +kernel
theorem dX1_require_13 : decode cX1_require 13 = .ok (.putfield 29, 3) := by decide +kernel
theorem dX1_require_16 : decode cX1_require 16 = .ok (.aload_n 0, 1) := by decide +kernel
theorem dX1_require_17 : decode cX1_require 17 = .ok (.aload_n 0, 1) := by decide +kernel
theorem dX1_require_18 : decode cX1_require 18 = .ok (.getfield 257, 3) := by decide +kernel
theorem dX1_require_21 : decode cX1_require 21 = .ok (.putfield 18, 3) := by decide +kernel
theorem dX1_require_24 : decode cX1_require 24 = .ok (.return_, 1) := by decide +kernel
theorem dX1_take_0 : decode cX1_take 0 = .ok (.aload_n 0, 1) := by decide +kernel
theorem dX1_take_1 : decode cX1_take 1 = .ok (.getfield 151, 3) := by decide +kernel
theorem dX1_take_4 : decode cX1_take 4 = .ok (.istore_n 1, 1) := by decide +kernel
theorem dX1_take_5 : decode cX1_take 5 = .ok (.aload_n 0, 1) := by decide +kernel
theorem dX1_take_6 : decode cX1_take 6 = .ok (.getfield 29, 3) := by decide +kernel
theorem dX1_take_9 : decode cX1_take 9 = .ok (.ifCond .eq 5, 3) := by decide +kernel
theorem dX1_take_12 : decode cX1_take 12 = .ok (.iload_n 1, 1) := by decide +kernel
theorem dX1_take_13 : decode cX1_take 13 = .ok (.ireturn, 1) := by decide +kernel
theorem dX1_take_14 : decode cX1_take 14 = .ok (.aload_n 0, 1) := by decide +kernel
theorem dX1_take_15 : decode cX1_take 15 = .ok (.aload_n 0, 1) := by decide +kernel
theorem dX1_take_16 : decode cX1_take 16 = .ok (.getfield 22, 3) := by decide +kernel
theorem dX1_take_19 : decode cX1_take 19 = .ok (.aload_n 0, 1) := by decide +kernel
theorem dX1_take_20 : decode cX1_take 20 = .ok (.getfield 26, 3) := by decide +kernel
theorem dX1_take_23 : decode cX1_take 23 = .ok (.invokevirtual 266, 3) := by decide +kernel
theorem dX1_take_26 : decode cX1_take 26 = .ok (.putfield 257, 3) := by decide +kernel
theorem dX1_take_29 : decode cX1_take 29 = .ok (.aload_n 0, 1) := by decide +kernel
theorem dX1_take_30 : decode cX1_take 30 = .ok (.getfield 22, 3) := by decide +kernel
theorem dX1_take_33 : decode cX1_take 33 = .ok (.aload_n 0, 1) := by decide +kernel
theorem dX1_take_34 : decode cX1_take 34 = .ok (.getfield 257, 3) := by decide +kernel
theorem dX1_take_37 : decode cX1_take 37 = .ok (.invokevirtual 269, 3) := by decide +kernel
theorem dX1_take_40 : decode cX1_take 40 = .ok (.istore_n 2, 1) := by decide +kernel
theorem dX1_take_41 : decode cX1_take 41 = .ok (.iload_n 2, 1) := by decide +kernel
theorem dX1_take_42 : decode cX1_take 42 = .ok (.iconst (-1), 1) := by decide +kernel
theorem dX1_take_43 : decode cX1_take 43 = .ok (.if_icmp .ne 24, 3) := by decide +kernel
theorem dX1_take_46 : decode cX1_take 46 = .ok (.aload_n 0, 1) := by decide +kernel
theorem dX1_take_47 : decode cX1_take 47 = .ok (.iconst 0, 1) := by decide +kernel
theorem dX1_take_48 : decode cX1_take 48 = .ok (.putfield 39, 3) := by decide +kernel
theorem dX1_take_51 : decode cX1_take 51 = .ok (.aload_n 0, 1) := by decide +kernel
theorem dX1_take_52 : decode cX1_take 52 = .ok (.aload_n 0, 1) := by decide +kernel
theorem dX1_take_53 : decode cX1_take 53 = .ok (.getfield 257, 3) := by decide +kernel
theorem dX1_take_56 : decode cX1_take 56 = .ok (.putfield 26, 3) := by decide +kernel
theorem dX1_take_59 : decode cX1_take 59 = .ok (.aload_n 0, 1) := by decide +kernel
theorem dX1_take_60 : decode cX1_take 60 = .ok (.iconst 0, 1) := by decide +kernel
theorem dX1_take_61 : decode cX1_take 61 = .ok (.putfield 151, 3) := by decide +kernel
theorem dX1_take_64 : decode cX1_take 64 = .ok (.goto 139, 3) := by decide +kernel
theorem dX1_take_67 : decode cX1_take 67 = .ok (.iload_n 2, 1) := by decide +kernel
theorem dX1_take_68 : decode cX1_take 68 = .ok (.bipush 97, 2) := by decide +kernel
theorem dX1_take_70 : decode cX1_take 70 = .ok (.if_icmp .lt 55, 3) := by decide +kernel
theorem dX1_take_73 : decode cX1_take 73 = .ok (.iload_n 2, 1) := by decide +kernel
theorem dX1_take_74 : decode cX1_take 74 = .ok (.bipush 122, 2) := by decide +kernel
theorem dX1_take_76 : decode cX1_take 76 = .ok (.if_icmp .gt 49, 3) := by decide +kernel
theorem dX1_take_79 : decode cX1_take 79 = .ok (.aload_n 0, 1) := by decide +kernel
theorem dX1_take_80 : decode cX1_take 80 = .ok (.iconst 1, 1) := by decide +kernel
theorem dX1_take_81 : decode cX1_take 81 = .ok (.putfield 39, 3) := by decide +kernel
theorem dX1_take_84 : decode cX1_take 84 = .ok (.aload_n 0, 1) := by decide +kernel
theorem dX1_take_85 : decode cX1_take 85 = .ok (.aload_n 0, 1) := by decide +kernel
theorem dX1_take_86 : decode cX1_take 86 = .ok (.getfield 22, 3) := by decide +kernel
theorem dX1_take_89 : decode cX1_take 89 = .ok (.aload_n 0, 1) := by decide +kernel
theorem dX1_take_90 : decode cX1_take 90 = .ok (.getfield 257, 3) := by decide +kernel
theorem dX1_take_93 : decode cX1_take 93 = .ok (.bipush 97, 2) := by decide +kernel
theorem dX1_take_95 : decode cX1_take 95 = .ok (.bipush 122, 2) := by decide +kernel
theorem dX1_take_97 : decode cX1_take 97 = .ok (.invokevirtual 272, 3) := by decide +kernel
theorem dX1_take_100 : decode cX1_take 100 = .ok (.putfield 26, 3) := by decide +kernel
theorem dX1_take_103 : decode cX1_take 103 = .ok (.aload_n 0, 1) := by decide +kernel
theorem dX1_take_104 : decode cX1_take 104 = .ok (.aload_n 0, 1) := by decide +kernel
theorem dX1_take_105 : decode cX1_take 105 = .ok (.getfield 22, 3) := by decide +kernel
theorem dX1_take_108 : decode cX1_take 108 = .ok (.aload_n 0, 1) := by decide +kernel
theorem dX1_take_109 : decode cX1_take 109 = .ok (.getfield 257, 3) := by decide +kernel
theorem dX1_take_112 : decode cX1_take 112 = .ok (.aload_n 0, 1) := by decide +kernel
theorem dX1_take_113 : decode cX1_take 113 = .ok (.getfield 26, 3) := by decide +kernel
theorem dX1_take_116 : decode cX1_take 116 = .ok (.invokevirtual 276, 3) := by decide +kernel
theorem dX1_take_119 : decode cX1_take 119 = .ok (.putfield 151, 3) := by decide +kernel
theorem dX1_take_122 : decode cX1_take 122 = .ok (.goto 81, 3) := by decide +kernel
theorem dX1_take_125 : decode cX1_take 125 = .ok (.iload_n 2, 1) := by decide +kernel
theorem dX1_take_126 : decode cX1_take 126 = .ok (.bipush 48, 2) := by decide +kernel
theorem dX1_take_128 : decode cX1_take 128 = .ok (.if_icmp .lt 55, 3) := by decide +kernel
theorem dX1_take_131 : decode cX1_take 131 = .ok (.iload_n 2, 1) := by decide +kernel
theorem dX1_take_132 : decode cX1_take 132 = .ok (.bipush 57, 2) := by decide +kernel
theorem dX1_take_134 : decode cX1_take 134 = .ok (.if_icmp .gt 49, 3) := by decide +kernel
theorem dX1_take_137 : decode cX1_take 137 = .ok (.aload_n 0, 1) := by decide +kernel
theorem dX1_take_138 : decode cX1_take 138 = .ok (.iconst 2, 1) := by decide +kernel
theorem dX1_take_139 : decode cX1_take 139 = .ok (.putfield 39, 3) := by decide +kernel
theorem dX1_take_142 : decode cX1_take 142 = .ok (.aload_n 0, 1) := by decide +kernel
theorem dX1_take_143 : decode cX1_take 143 = .ok (.aload_n 0, 1) := by decide +kernel
theorem dX1_take_144 : decode cX1_take 144 = .ok (.getfield 22, 3) := by decide +kernel
theorem dX1_take_147 : decode cX1_take 147 = .ok (.aload_n 0, 1) := by decide +kernel
theorem dX1_take_148 : decode cX1_take 148 = .ok (.getfield 257, 3) := by decide +kernel
theorem dX1_take_151 : decode cX1_take 151 = .ok (.bipush 48, 2) := by decide +kernel
theorem dX1_take_153 : decode cX1_take 153 = .ok (.bipush 57, 2) := by decide +kernel
theorem dX1_take_155 : decode cX1_take 155 = .ok (.invokevirtual 272, 3) := by decide +kernel
theorem dX1_take_158 : decode cX1_take 158 = .ok (.putfield 26, 3) := by decide +kernel
theorem dX1_take_161 : decode cX1_take 161 = .ok (.aload_n 0, 1) := by decide +kernel
theorem dX1_take_162 : decode cX1_take 162 = .ok (.aload_n 0, 1) := by decide +kernel
theorem dX1_take_163 : decode cX1_take 163 = .ok (.getfield 22, 3) := by decide +kernel
theorem dX1_take_166 : decode cX1_take 166 = .ok (.aload_n 0, 1) := by decide +kernel
theorem dX1_take_167 : decode cX1_take 167 = .ok (.getfield 257, 3) := by decide +kernel
theorem dX1_take_170 : decode cX1_take 170 = .ok (.aload_n 0, 1) := by decide +kernel
theorem dX1_take_171 : decode cX1_take 171 = .ok (.getfield 26, 3) := by decide +kernel
theorem dX1_take_174 : decode cX1_take 174 = .ok (.invokevirtual 279, 3) := by decide +kernel
theorem dX1_take_177 : decode cX1_take 177 = .ok (.putfield 151, 3) := by decide +kernel
theorem dX1_take_180 : decode cX1_take 180 = .ok (.goto 23, 3) := by decide +kernel
theorem dX1_take_183 : decode cX1_take 183 = .ok (.aload_n 0, 1) := by decide +kernel
theorem dX1_take_184 : decode cX1_take 184 = .ok (.iconst 3, 1) := by decide +kernel
theorem dX1_take_185 : decode cX1_take 185 = .ok (.putfield 39, 3) := by decide +kernel
theorem dX1_take_188 : decode cX1_take 188 = .ok (.aload_n 0, 1) := by decide +kernel
theorem dX1_take_189 : decode cX1_take 189 = .ok (.aload_n 0, 1) := by decide +kernel
theorem dX1_take_190 : decode cX1_take 190 = .ok (.getfield 257, 3) := by decide +kernel
theorem dX1_take_193 : decode cX1_take 193 = .ok (.iconst 1, 1) := by decide +kernel
theorem dX1_take_194 : decode cX1_take 194 = .ok (.iadd, 1) := by decide +kernel
theorem dX1_take_195 : decode cX1_take 195 = .ok (.putfield 26, 3) := by decide +kernel
theorem dX1_take_198 : decode cX1_take 198 = .ok (.aload_n 0, 1) := by decide +kernel
theorem dX1_take_199 : decode cX1_take 199 = .ok (.iload_n 2, 1) := by decide +kernel
theorem dX1_take_200 : decode cX1_take 200 = .ok (.putfield 151, 3) := by decide +kernel
theorem dX1_take_203 : decode cX1_take 203 = .ok (.iload_n 1, 1) := by decide +kernel
theorem dX1_take_204 : decode cX1_take 204 = .ok (.ireturn, 1) := by decide +kernel
theorem dX2_init_0 : decode cX2_init 0 = .ok (.aload_n 0, 1) := by decide +kernel
theorem dX2_init_1 : decode cX2_init 1 = .ok (.iconst 5, 1) := by decide +kernel
theorem dX2_init_2 : decode cX2_init 2 = .ok (.iconst 5, 1) := by decide +kernel
theorem dX2_init_3 : decode cX2_init 3 = .ok (.invokespecial 5, 3) := by decide +kernel
theorem dX2_init_6 : decode cX2_init 6 = .ok (.return_, 1) := by decide +kernel
theorem dX2_addRealm_0 : decode cX2_addRealm 0 = .ok (.aload_n 0, 1) := by decide +kernel
theorem dX2_addRealm_1 : decode cX2_addRealm 1 = .ok (.invokevirtual 11, 3) := by decide +kernel
theorem dX2_addRealm_4 : decode cX2_addRealm 4 = .ok (.istore 5, 2) := by decide +kernel
theorem dX2_addRealm_6 : decode cX2_addRealm 6 = .ok (.aload_n 0, 1) := by decide +kernel
theorem dX2_addRealm_7 : decode cX2_addRealm 7 = .ok (.iload 5, 2) := by decide +kernel
theorem dX2_addRealm_9 : decode cX2_addRealm 9 = .ok (.iconst 0, 1) := by decide +kernel
theorem dX2_addRealm_10 : decode cX2_addRealm 10 = .ok (.iload_n 1, 1) := by decide +kernel
theorem dX2_addRealm_11 : decode cX2_addRealm 11 = .ok (.invokevirtual 15, 3) := by decide +kernel
theorem dX2_addRealm_14 : decode cX2_addRealm 14 = .ok (.aload_n 0, 1) := by decide +kernel
theorem dX2_addRealm_15 : decode cX2_addRealm 15 = .ok (.iload 5, 2) := by decide +kernel
theorem dX2_addRealm_17 : decode cX2_addRealm 17 = .ok (.iconst 1, 1) := by decide +kernel
theorem dX2_addRealm_18 : decode cX2_addRealm 18 = .ok (.iload_n 2, 1) := by decide +kernel
theorem dX2_addRealm_19 : decode cX2_addRealm 19 = .ok (.invokevirtual 15, 3) := by decide +kernel
theorem dX2_addRealm_22 : decode cX2_addRealm 22 = .ok (.aload_n 0, 1) := by decide +kernel
theorem dX2_addRealm_23 : decode cX2_addRealm 23 = .ok (.iload 5, 2) := by decide +kernel
theorem dX2_addRealm_25 : decode cX2_addRealm 25 = .ok (.iconst 2, 1) := by decide +kernel
theorem dX2_addRealm_26 : decode cX2_addRealm 26 = .ok (.iload_n 3, 1) := by decide +kernel
theorem dX2_addRealm_27 : decode cX2_addRealm 27 = .ok (.invokevirtual 15, 3) := by decide +kernel
theorem dX2_addRealm_30 : decode cX2_addRealm 30 = .ok (.aload_n 0, 1) := by decide +kernel
theorem dX2_addRealm_31 : decode cX2_addRealm 31 = .ok (.iload 5, 2) := by decide +kernel
theorem dX2_addRealm_33 : decode cX2_addRealm 33 = .ok (.iconst 3, 1) := by decide +kernel
theorem dX2_addRealm_34 : decode cX2_addRealm 34 = .ok (.iload 4, 2) := by decide +kernel
theorem dX2_addRealm_36 : decode cX2_addRealm 36 = .ok (.invokevirtual 15, 3) := by decide +kernel
theorem dX2_addRealm_39 : decode cX2_addRealm 39 = .ok (.aload_n 0, 1) := by decide +kernel
theorem dX2_addRealm_40 : decode cX2_addRealm 40 = .ok (.iload 5, 2) := by decide +kernel
theorem dX2_addRealm_42 : decode cX2_addRealm 42 = .ok (.iconst 4, 1) := by decide +kernel
theorem dX2_addRealm_43 : decode cX2_addRealm 43 = .ok (.iconst 0, 1) := by decide +kernel
theorem dX2_addRealm_44 : decode cX2_addRealm 44 = .ok (.invokevirtual 15, 3) := by decide +kernel
theorem dX2_addRealm_47 : decode cX2_addRealm 47 = .ok (.return_, 1) := by decide +kernel
theorem dX2_addTrust_0 : decode cX2_addTrust 0 = .ok (.aload_n 0, 1) := by decide +kernel
theorem dX2_addTrust_1 : decode cX2_addTrust 1 = .ok (.iload_n 1, 1) := by decide +kernel
theorem dX2_addTrust_2 : decode cX2_addTrust 2 = .ok (.iconst 4, 1) := by decide +kernel
theorem dX2_addTrust_3 : decode cX2_addTrust 3 = .ok (.aload_n 0, 1) := by decide +kernel
theorem dX2_addTrust_4 : decode cX2_addTrust 4 = .ok (.iload_n 1, 1) := by decide +kernel
theorem dX2_addTrust_5 : decode cX2_addTrust 5 = .ok (.iconst 4, 1) := by decide +kernel
theorem dX2_addTrust_6 : decode cX2_addTrust 6 = .ok (.invokevirtual 19, 3) := by decide +kernel
theorem dX2_addTrust_9 : decode cX2_addTrust 9 = .ok (.iconst 1, 1) := by decide +kernel
theorem dX2_addTrust_10 : decode cX2_addTrust 10 = .ok (.iload_n 2, 1) := by decide +kernel
theorem dX2_addTrust_11 : decode cX2_addTrust 11 = .ok (.ishl, 1) := by decide +kernel
theorem dX2_addTrust_12 : decode cX2_addTrust 12 = .ok (.ior, 1) := by decide +kernel
theorem dX2_addTrust_13 : decode cX2_addTrust 13 = .ok (.invokevirtual 15, 3) := by decide +kernel
theorem dX2_addTrust_16 : decode cX2_addTrust 16 = .ok (.return_, 1) := by decide +kernel
theorem dX2_hasTrust_0 : decode cX2_hasTrust 0 = .ok (.aload_n 0, 1) := by decide +kernel
theorem dX2_hasTrust_1 : decode cX2_hasTrust 1 = .ok (.iload_n 1, 1) := by decide +kernel
theorem dX2_hasTrust_2 : decode cX2_hasTrust 2 = .ok (.iconst 4, 1) := by decide +kernel
theorem dX2_hasTrust_3 : decode cX2_hasTrust 3 = .ok (.invokevirtual 19, 3) := by decide +kernel
theorem dX2_hasTrust_6 : decode cX2_hasTrust 6 = .ok (.iload_n 2, 1) := by decide +kernel
theorem dX2_hasTrust_7 : decode cX2_hasTrust 7 = .ok (.ishr, 1) := by decide +kernel
theorem dX2_hasTrust_8 : decode cX2_hasTrust 8 = .ok (.iconst 1, 1) := by decide +kernel
theorem dX2_hasTrust_9 : decode cX2_hasTrust 9 = .ok (.iand, 1) := by decide +kernel
theorem dX2_hasTrust_10 : decode cX2_hasTrust 10 = .ok (.iconst 1, 1) := by decide +kernel
theorem dX2_hasTrust_11 : decode cX2_hasTrust 11 = .ok (.if_icmp .ne 7, 3) := by decide +kernel
theorem dX2_hasTrust_14 : decode cX2_hasTrust 14 = .ok (.iconst 1, 1) := by decide +kernel
theorem dX2_hasTrust_15 : decode cX2_hasTrust 15 = .ok (.goto 4, 3) := by decide +kernel
theorem dX2_hasTrust_18 : decode cX2_hasTrust 18 = .ok (.iconst 0, 1) := by decide +kernel
theorem dX2_hasTrust_19 : decode cX2_hasTrust 19 = .ok (.ireturn, 1) := by decide +kernel
theorem dX2_referrals_0 : decode cX2_referrals 0 = .ok (.iconst 1, 1) := by decide +kernel
theorem dX2_referrals_1 : decode cX2_referrals 1 = .ok (.iload_n 1, 1) := by decide +kernel
theorem dX2_referrals_2 : decode cX2_referrals 2 = .ok (.ishl, 1) := by decide +kernel
theorem dX2_referrals_3 : decode cX2_referrals 3 = .ok (.istore_n 3, 1) := by decide +kernel
theorem dX2_referrals_4 : decode cX2_referrals 4 = .ok (.iconst 0, 1) := by decide +kernel
theorem dX2_referrals_5 : decode cX2_referrals 5 = .ok (.istore 4, 2) := by decide +kernel
theorem dX2_referrals_7 : decode cX2_referrals 7 = .ok (.iload 4, 2) := by decide +kernel
theorem dX2_referrals_9 : decode cX2_referrals 9 = .ok (.iconst 5, 1) := by decide +kernel
theorem dX2_referrals_10 : decode cX2_referrals 10 = .ok (.if_icmp .ge 29, 3) := by decide +kernel
theorem dX2_referrals_13 : decode cX2_referrals 13 = .ok (.iload_n 3, 1) := by decide +kernel
theorem dX2_referrals_14 : decode cX2_referrals 14 = .ok (.iload_n 2, 1) := by decide +kernel
theorem dX2_referrals_15 : decode cX2_referrals 15 = .ok (.ishr, 1) := by decide +kernel
theorem dX2_referrals_16 : decode cX2_referrals 16 = .ok (.iconst 1, 1) := by decide +kernel
theorem dX2_referrals_17 : decode cX2_referrals 17 = .ok (.iand, 1) := by decide +kernel
theorem dX2_referrals_18 : decode cX2_referrals 18 = .ok (.iconst 1, 1) := by decide +kernel
theorem dX2_referrals_19 : decode cX2_referrals 19 = .ok (.if_icmp .ne 6, 3) := by decide +kernel
theorem dX2_referrals_22 : decode cX2_referrals 22 = .ok (.iload 4, 2) := by decide +kernel
theorem dX2_referrals_24 : decode cX2_referrals 24 = .ok (.ireturn, 1) := by decide +kernel
theorem dX2_referrals_25 : decode cX2_referrals 25 = .ok (.iload_n 3, 1) := by decide +kernel
theorem dX2_referrals_26 : decode cX2_referrals 26 = .ok (.aload_n 0, 1) := by decide +kernel
theorem dX2_referrals_27 : decode cX2_referrals 27 = .ok (.iload_n 3, 1) := by decide +kernel
theorem dX2_referrals_28 : decode cX2_referrals 28 = .ok (.invokevirtual 23, 3) := by decide +kernel
theorem dX2_referrals_31 : decode cX2_referrals 31 = .ok (.ior, 1) := by decide +kernel
theorem dX2_referrals_32 : decode cX2_referrals 32 = .ok (.istore_n 3, 1) := by decide +kernel
theorem dX2_referrals_33 : decode cX2_referrals 33 = .ok (.iinc 4 1, 3) := by decide +kernel
theorem dX2_referrals_36 : decode cX2_referrals 36 = .ok (.goto (-29), 3) := by decide +kernel
theorem dX2_referrals_39 : decode cX2_referrals 39 = .ok (.iconst (-1), 1) := by decide +kernel
theorem dX2_referrals_40 : decode cX2_referrals 40 = .ok (.ireturn, 1) := by decide +kernel
theorem dX2_trustedBySome_0 : decode cX2_trustedBySome 0 = .ok (.iconst 0, 1) := by decide +kernel
theorem dX2_trustedBySome_1 : decode cX2_trustedBySome 1 = .ok (.istore_n 2, 1) := by decide +kernel
theorem dX2_trustedBySome_2 : decode cX2_trustedBySome 2 = .ok (.iconst 0, 1) := by decide +kernel
theorem dX2_trustedBySome_3 : decode cX2_trustedBySome 3 = .ok (.istore_n 3, 1) := by decide +kernel
theorem dX2_trustedBySome_4 : decode cX2_trustedBySome 4 = .ok (.iload_n 3, 1) := by decide +kernel
theorem dX2_trustedBySome_5 : decode cX2_trustedBySome 5 = .ok (.aload_n 0, 1) := by decide +kernel
theorem dX2_trustedBySome_6 : decode cX2_trustedBySome 6 = .ok (.invokevirtual 27, 3) := by decide +kernel
theorem dX2_trustedBySome_9 : decode cX2_trustedBySome 9 = .ok (.if_icmp .ge 27, 3) := by decide +kernel
theorem dX2_trustedBySome_12 : decode cX2_trustedBySome 12 = .ok (.iload_n 1, 1) := by decide +kernel
theorem dX2_trustedBySome_13 : decode cX2_trustedBySome 13 = .ok (.iload_n 3, 1) := by decide +kernel
theorem dX2_trustedBySome_14 : decode cX2_trustedBySome 14 = .ok (.ishr, 1) := by decide +kernel
theorem dX2_trustedBySome_15 : decode cX2_trustedBySome 15 = .ok (.iconst 1, 1) := by decide +kernel
theorem dX2_trustedBySome_16 : decode cX2_trustedBySome 16 = .ok (.iand, 1) := by decide +kernel
theorem dX2_trustedBySome_17 : decode cX2_trustedBySome 17 = .ok (.iconst 1, 1) := by decide +kernel
theorem dX2_trustedBySome_18 : decode cX2_trustedBySome 18 = .ok (.if_icmp .ne 12, 3) := by decide +kernel
theorem dX2_trustedBySome_21 : decode cX2_trustedBySome 21 = .ok (.iload_n 2, 1) := by decide +kernel
theorem dX2_trustedBySome_22 : decode cX2_trustedBySome 22 = .ok (.aload_n 0, 1) := by decide +kernel
theorem dX2_trustedBySome_23 : decode cX2_trustedBySome 23 = .ok (.iload_n 3, 1) := by decide +kernel
theorem dX2_trustedBySome_24 : decode cX2_trustedBySome 24 = .ok (.iconst 4, 1) := by decide +kernel
theorem dX2_trustedBySome_25 : decode cX2_trustedBySome 25 = .ok (.invokevirtual 19, 3) := by decide +kernel
theorem dX2_trustedBySome_28 : decode cX2_trustedBySome 28 = .ok (.ior, 1) := by decide +kernel
theorem dX2_trustedBySome_29 : decode cX2_trustedBySome 29 = .ok (.istore_n 2, 1) := by decide +kernel
theorem dX2_trustedBySome_30 : decode cX2_trustedBySome 30 = .ok (.iinc 3 1, 3) := by decide +kernel
theorem dX2_trustedBySome_33 : decode cX2_trustedBySome 33 = .ok (.goto (-29), 3) := by decide +kernel
theorem dX2_trustedBySome_36 : decode cX2_trustedBySome 36 = .ok (.iload_n 2, 1) := by decide +kernel
theorem dX2_trustedBySome_37 : decode cX2_trustedBySome 37 = .ok (.ireturn, 1) := by decide +kernel
theorem dX2_countDistanceErrors_0 : decode cX2_countDistanceErrors 0 = .ok (.new 37, 3) := by decide +kernel
theorem dX2_countDistanceErrors_3 : decode cX2_countDistanceErrors 3 = .ok (.dup, 1) := by decide +kernel
theorem dX2_countDistanceErrors_4 : decode cX2_countDistanceErrors 4 = .ok (.invokespecial 39, 3) := by decide +kernel
theorem dX2_countDistanceErrors_7 : decode cX2_countDistanceErrors 7 = .ok (.astore_n 1, 1) := by decide +kernel
theorem dX2_countDistanceErrors_8 : decode cX2_countDistanceErrors 8 = .ok (.aload_n 1, 1) := by decide +kernel
theorem dX2_countDistanceErrors_9 : decode cX2_countDistanceErrors 9 = .ok (.aload_n 0, 1) := by decide +kernel
theorem dX2_countDistanceErrors_10 : decode cX2_countDistanceErrors 10 = .ok (.invokevirtual 42, 3) := by decide +kernel
theorem dX2_countDistanceErrors_13 : decode cX2_countDistanceErrors 13 = .ok (.iconst 0, 1) := by decide +kernel
theorem dX2_countDistanceErrors_14 : decode cX2_countDistanceErrors 14 = .ok (.istore_n 2, 1) := by decide +kernel
theorem dX2_countDistanceErrors_15 : decode cX2_countDistanceErrors 15 = .ok (.iload_n 2, 1) := by decide +kernel
theorem dX2_countDistanceErrors_16 : decode cX2_countDistanceErrors 16 = .ok (.aload_n 0, 1) := by decide +kernel
theorem dX2_countDistanceErrors_17 : decode cX2_countDistanceErrors 17 = .ok (.invokevirtual 27, 3) := by decide +kernel
theorem dX2_countDistanceErrors_20 : decode cX2_countDistanceErrors 20 = .ok (.if_icmp .ge 14, 3) := by decide +kernel
theorem dX2_countDistanceErrors_23 : decode cX2_countDistanceErrors 23 = .ok (.aload_n 1, 1) := by decide +kernel
theorem dX2_countDistanceErrors_24 : decode cX2_countDistanceErrors 24 = .ok (.iload_n 2, 1) := by decide +kernel
theorem dX2_countDistanceErrors_25 : decode cX2_countDistanceErrors 25 = .ok (.invokevirtual 46, 3) := by decide +kernel
theorem dX2_countDistanceErrors_28 : decode cX2_countDistanceErrors 28 = .ok (.iinc 2 1, 3) := by decide +kernel
theorem dX2_countDistanceErrors_31 : decode cX2_countDistanceErrors 31 = .ok (.goto (-16), 3) := by decide +kernel
theorem dX2_countDistanceErrors_34 : decode cX2_countDistanceErrors 34 = .ok (.iconst 0, 1) := by decide +kernel
theorem dX2_countDistanceErrors_35 : decode cX2_countDistanceErrors 35 = .ok (.istore_n 2, 1) := by decide +kernel
theorem dX2_countDistanceErrors_36 : decode cX2_countDistanceErrors 36 = .ok (.iconst 0, 1) := by decide +kernel
theorem dX2_countDistanceErrors_37 : decode cX2_countDistanceErrors 37 = .ok (.istore_n 3, 1) := by decide +kernel
theorem dX2_countDistanceErrors_38 : decode cX2_countDistanceErrors 38 = .ok (.iload_n 3, 1) := by decide +kernel
theorem dX2_countDistanceErrors_39 : decode cX2_countDistanceErrors 39 = .ok (.aload_n 0, 1) := by decide +kernel
theorem dX2_countDistanceErrors_40 : decode cX2_countDistanceErrors 40 = .ok (.invokevirtual 27, 3) := by decide +kernel
theorem dX2_countDistanceErrors_43 : decode cX2_countDistanceErrors 43 = .ok (.if_icmp .ge 52, 3) := by decide +kernel
theorem dX2_countDistanceErrors_46 : decode cX2_countDistanceErrors 46 = .ok (.iconst 0, 1) := by decide +kernel
theorem dX2_countDistanceErrors_47 : decode cX2_countDistanceErrors 47 = .ok (.istore 4, 2) := by decide +kernel
theorem dX2_countDistanceErrors_49 : decode cX2_countDistanceErrors 49 = .ok (.iload 4, 2) := by decide +kernel
theorem dX2_countDistanceErrors_51 : decode cX2_countDistanceErrors 51 = .ok (.aload_n 0, 1) := by decide +kernel
theorem dX2_countDistanceErrors_52 : decode cX2_countDistanceErrors 52 = .ok (.invokevirtual 27, 3) := by decide +kernel
theorem dX2_countDistanceErrors_55 : decode cX2_countDistanceErrors 55 = .ok (.if_icmp .ge 34, 3) := by decide +kernel
theorem dX2_countDistanceErrors_58 : decode cX2_countDistanceErrors 58 = .ok (.iload_n 2, 1) := by decide +kernel
theorem dX2_countDistanceErrors_59 : decode cX2_countDistanceErrors 59 = .ok (.aload_n 1, 1) := by decide +kernel
theorem dX2_countDistanceErrors_60 : decode cX2_countDistanceErrors 60 = .ok (.iload_n 3, 1) := by decide +kernel
theorem dX2_countDistanceErrors_61 : decode cX2_countDistanceErrors 61 = .ok (.iload 4, 2) := by decide +kernel
theorem dX2_countDistanceErrors_63 : decode cX2_countDistanceErrors 63 = .ok (.invokevirtual 50, 3) := by decide +kernel
theorem dX2_countDistanceErrors_66 : decode cX2_countDistanceErrors 66 = .ok (.aload_n 0, 1) := by decide +kernel
theorem dX2_countDistanceErrors_67 : decode cX2_countDistanceErrors 67 = .ok (.iload_n 3, 1) := by decide +kernel
theorem dX2_countDistanceErrors_68 : decode cX2_countDistanceErrors 68 = .ok (.iload 4, 2) := by decide +kernel
theorem dX2_countDistanceErrors_70 : decode cX2_countDistanceErrors 70 = .ok (.invokevirtual 30, 3) := by decide +kernel
theorem dX2_countDistanceErrors_73 : decode cX2_countDistanceErrors 73 = .ok (.if_icmp .ne 7, 3) := by decide +kernel
theorem dX2_countDistanceErrors_76 : decode cX2_countDistanceErrors 76 = .ok (.iconst 0, 1) := by decide +kernel
theorem dX2_countDistanceErrors_77 : decode cX2_countDistanceErrors 77 = .ok (.goto 4, 3) := by decide +kernel
theorem dX2_countDistanceErrors_80 : decode cX2_countDistanceErrors 80 = .ok (.iconst 1, 1) := by decide +kernel
theorem dX2_countDistanceErrors_81 : decode cX2_countDistanceErrors 81 = .ok (.iadd, 1) := by decide +kernel
theorem dX2_countDistanceErrors_82 : decode cX2_countDistanceErrors 82 = .ok (.istore_n 2, 1) := by decide +kernel
theorem dX2_countDistanceErrors_83 : decode cX2_countDistanceErrors 83 = .ok (.iinc 4 1, 3) := by decide +kernel
theorem dX2_countDistanceErrors_86 : decode cX2_countDistanceErrors 86 = .ok (.goto (-37), 3) := by decide +kernel
theorem dX2_countDistanceErrors_89 : decode cX2_countDistanceErrors 89 = .ok (.iinc 3 1, 3) := by decide +kernel
theorem dX2_countDistanceErrors_92 : decode cX2_countDistanceErrors 92 = .ok (.goto (-54), 3) := by decide +kernel
theorem dX2_countDistanceErrors_95 : decode cX2_countDistanceErrors 95 = .ok (.iload_n 2, 1) := by decide +kernel
theorem dX2_countDistanceErrors_96 : decode cX2_countDistanceErrors 96 = .ok (.ireturn, 1) := by decide +kernel
theorem dX3_init_0 : decode cX3_init 0 = .ok (.aload_n 0, 1) := by decide +kernel
theorem dX3_init_1 : decode cX3_init 1 = .ok (.bipush 6, 2) := by decide +kernel
theorem dX3_init_3 : decode cX3_init 3 = .ok (.iconst 3, 1) := by decide +kernel
theorem dX3_init_4 : decode cX3_init 4 = .ok (.invokespecial 5, 3) := by decide +kernel
theorem dX3_init_7 : decode cX3_init 7 = .ok (.return_, 1) := by decide +kernel
theorem dX3_addService_0 : decode cX3_addService 0 = .ok (.aload_n 0, 1) := by decide +kernel
theorem dX3_addService_1 : decode cX3_addService 1 = .ok (.invokevirtual 11, 3) := by decide +kernel
theorem dX3_addService_4 : decode cX3_addService 4 = .ok (.istore 4, 2) := by decide +kernel
theorem dX3_addService_6 : decode cX3_addService 6 = .ok (.aload_n 0, 1) := by decide +kernel
theorem dX3_addService_7 : decode cX3_addService 7 = .ok (.iload 4, 2) := by decide +kernel
theorem dX3_addService_9 : decode cX3_addService 9 = .ok (.iconst 0, 1) := by decide +kernel
theorem dX3_addService_10 : decode cX3_addService 10 = .ok (.iload_n 1, 1) := by decide +kernel
theorem dX3_addService_11 : decode cX3_addService 11 = .ok (.invokevirtual 15, 3) := by decide +kernel
theorem dX3_addService_14 : decode cX3_addService 14 = .ok (.aload_n 0, 1) := by decide +kernel
theorem dX3_addService_15 : decode cX3_addService 15 = .ok (.iload 4, 2) := by decide +kernel
theorem dX3_addService_17 : decode cX3_addService 17 = .ok (.iconst 1, 1) := by decide +kernel
theorem dX3_addService_18 : decode cX3_addService 18 = .ok (.iload_n 2, 1) := by decide +kernel
theorem dX3_addService_19 : decode cX3_addService 19 = .ok (.invokevirtual 15, 3) := by decide +kernel
theorem dX3_addService_22 : decode cX3_addService 22 = .ok (.aload_n 0, 1) := by decide +kernel
theorem dX3_addService_23 : decode cX3_addService 23 = .ok (.iload 4, 2) := by decide +kernel
theorem dX3_addService_25 : decode cX3_addService 25 = .ok (.iconst 2, 1) := by decide +kernel
theorem dX3_addService_26 : decode cX3_addService 26 = .ok (.iload_n 3, 1) := by decide +kernel
theorem dX3_addService_27 : decode cX3_addService 27 = .ok (.invokevirtual 15, 3) := by decide +kernel
theorem dX3_addService_30 : decode cX3_addService 30 = .ok (.return_, 1) := by decide +kernel
theorem dX4_init_0 : decode cX4_init 0 = .ok (.aload_n 0, 1) := by decide +kernel
theorem dX4_init_1 : decode cX4_init 1 = .ok (.invokespecial 1, 3) := by decide +kernel
theorem dX4_init_4 : decode cX4_init 4 = .ok (.aload_n 0, 1) := by decide +kernel
theorem dX4_init_5 : decode cX4_init 5 = .ok (.iconst 0, 1) := by decide +kernel
theorem dX4_init_6 : decode cX4_init 6 = .ok (.iload_n 1, 1) := by decide +kernel
theorem dX4_init_7 : decode cX4_init 7 = .ok (.invokestatic 7, 3) := by decide +kernel
theorem dX4_init_10 : decode cX4_init 10 = .ok (.anewarray 13, 3) := by decide +kernel
theorem dX4_init_13 : decode cX4_init 13 = .ok (.putfield 15, 3) := by decide +kernel
theorem dX4_init_16 : decode cX4_init 16 = .ok (.return_, 1) := by decide +kernel
theorem dX4_put_0 : decode cX4_put 0 = .ok (.iload_n 1, 1) := by decide +kernel
theorem dX4_put_1 : decode cX4_put 1 = .ok (.ifCond .lt 12, 3) := by decide +kernel
theorem dX4_put_4 : decode cX4_put 4 = .ok (.iload_n 1, 1) := by decide +kernel
theorem dX4_put_5 : decode cX4_put 5 = .ok (.aload_n 0, 1) := by decide +kernel
theorem dX4_put_6 : decode cX4_put 6 = .ok (.getfield 15, 3) := by decide +kernel
theorem dX4_put_9 : decode cX4_put 9 = .ok (.arraylength, 1) := by decide +kernel
theorem dX4_put_10 : decode cX4_put 10 = .ok (.if_icmp .lt 4, 3) := by decide +kernel
theorem dX4_put_13 : decode cX4_put 13 = .ok (.return_, 1) := by decide +kernel
theorem dX4_put_14 : decode cX4_put 14 = .ok (.aload_n 0, 1) := by decide +kernel
theorem dX4_put_15 : decode cX4_put 15 = .ok (.getfield 15, 3) := by decide +kernel
theorem dX4_put_18 : decode cX4_put 18 = .ok (.iload_n 1, 1) := by decide +kernel
theorem dX4_put_19 : decode cX4_put 19 = .ok (.aaload, 1) := by decide +kernel
theorem dX4_put_20 : decode cX4_put 20 = .ok (.astore_n 3, 1) := by decide +kernel
theorem dX4_put_21 : decode cX4_put 21 = .ok (.aload_n 3, 1) := by decide +kernel
theorem dX4_put_22 : decode cX4_put 22 = .ok (.ifnonnull 18, 3) := by decide +kernel
theorem dX4_put_25 : decode cX4_put 25 = .ok (.new 13, 3) := by decide +kernel
theorem dX4_put_28 : decode cX4_put 28 = .ok (.dup, 1) := by decide +kernel
theorem dX4_put_29 : decode cX4_put 29 = .ok (.invokespecial 21, 3) := by decide +kernel
theorem dX4_put_32 : decode cX4_put 32 = .ok (.astore_n 3, 1) := by decide +kernel
theorem dX4_put_33 : decode cX4_put 33 = .ok (.aload_n 0, 1) := by decide +kernel
theorem dX4_put_34 : decode cX4_put 34 = .ok (.getfield 15, 3) := by decide +kernel
theorem dX4_put_37 : decode cX4_put 37 = .ok (.iload_n 1, 1) := by decide +kernel
theorem dX4_put_38 : decode cX4_put 38 = .ok (.aload_n 3, 1) := by decide +kernel
theorem dX4_put_39 : decode cX4_put 39 = .ok (.aastore, 1) := by decide +kernel
theorem dX4_put_40 : decode cX4_put 40 = .ok (.aload_n 3, 1) := by decide +kernel
theorem dX4_put_41 : decode cX4_put 41 = .ok (.aload_n 2, 1) := by decide +kernel
theorem dX4_put_42 : decode cX4_put 42 = .ok (.invokevirtual 22, 3) := by decide +kernel
theorem dX4_put_45 : decode cX4_put 45 = .ok (.return_, 1) := by decide +kernel
theorem dX5_init_0 : decode cX5_init 0 = .ok (.aload_n 0, 1) := by decide +kernel
theorem dX5_init_1 : decode cX5_init 1 = .ok (.invokespecial 3, 3) := by decide +kernel
theorem dX5_init_4 : decode cX5_init 4 = .ok (.aload_n 0, 1) := by decide +kernel
theorem dX5_init_5 : decode cX5_init 5 = .ok (.new 9, 3) := by decide +kernel
theorem dX5_init_8 : decode cX5_init 8 = .ok (.dup, 1) := by decide +kernel
theorem dX5_init_9 : decode cX5_init 9 = .ok (.invokespecial 11, 3) := by decide +kernel
theorem dX5_init_12 : decode cX5_init 12 = .ok (.putfield 12, 3) := by decide +kernel
theorem dX5_init_15 : decode cX5_init 15 = .ok (.aload_n 0, 1) := by decide +kernel
theorem dX5_init_16 : decode cX5_init 16 = .ok (.new 18, 3) := by decide +kernel
theorem dX5_init_19 : decode cX5_init 19 = .ok (.dup, 1) := by decide +kernel
theorem dX5_init_20 : decode cX5_init 20 = .ok (.invokespecial 20, 3) := by decide +kernel
theorem dX5_init_23 : decode cX5_init 23 = .ok (.putfield 21, 3) := by decide +kernel
theorem dX5_init_26 : decode cX5_init 26 = .ok (.aload_n 0, 1) := by decide +kernel
theorem dX5_init_27 : decode cX5_init 27 = .ok (.new 25, 3) := by decide +kernel
theorem dX5_init_30 : decode cX5_init 30 = .ok (.dup, 1) := by decide +kernel
theorem dX5_init_31 : decode cX5_init 31 = .ok (.invokespecial 27, 3) := by decide +kernel
theorem dX5_init_34 : decode cX5_init 34 = .ok (.putfield 28, 3) := by decide +kernel
theorem dX5_init_37 : decode cX5_init 37 = .ok (.aload_n 0, 1) := by decide +kernel
theorem dX5_init_38 : decode cX5_init 38 = .ok (.new 32, 3) := by decide +kernel
theorem dX5_init_41 : decode cX5_init 41 = .ok (.dup, 1) := by decide +kernel
theorem dX5_init_42 : decode cX5_init 42 = .ok (.invokespecial 34, 3) := by decide +kernel
theorem dX5_init_45 : decode cX5_init 45 = .ok (.putfield 35, 3) := by decide +kernel
theorem dX5_init_48 : decode cX5_init 48 = .ok (.aload_n 0, 1) := by decide +kernel
theorem dX5_init_49 : decode cX5_init 49 = .ok (.new 39, 3) := by decide +kernel
theorem dX5_init_52 : decode cX5_init 52 = .ok (.dup, 1) := by decide +kernel
theorem dX5_init_53 : decode cX5_init 53 = .ok (.invokespecial 41, 3) := by decide +kernel
theorem dX5_init_56 : decode cX5_init 56 = .ok (.putfield 42, 3) := by decide +kernel
theorem dX5_init_59 : decode cX5_init 59 = .ok (.return_, 1) := by decide +kernel
theorem dX5_begin_0 : decode cX5_begin 0 = .ok (.aload_n 0, 1) := by decide +kernel
theorem dX5_begin_1 : decode cX5_begin 1 = .ok (.getfield 12, 3) := by decide +kernel
theorem dX5_begin_4 : decode cX5_begin 4 = .ok (.invokevirtual 46, 3) := by decide +kernel
theorem dX5_begin_7 : decode cX5_begin 7 = .ok (.aload_n 0, 1) := by decide +kernel
theorem dX5_begin_8 : decode cX5_begin 8 = .ok (.getfield 21, 3) := by decide +kernel
theorem dX5_begin_11 : decode cX5_begin 11 = .ok (.invokevirtual 49, 3) := by decide +kernel
theorem dX5_begin_14 : decode cX5_begin 14 = .ok (.aload_n 0, 1) := by decide +kernel
theorem dX5_begin_15 : decode cX5_begin 15 = .ok (.getfield 28, 3) := by decide +kernel
theorem dX5_begin_18 : decode cX5_begin 18 = .ok (.invokevirtual 50, 3) := by decide +kernel
theorem dX5_begin_21 : decode cX5_begin 21 = .ok (.aload_n 0, 1) := by decide +kernel
theorem dX5_begin_22 : decode cX5_begin 22 = .ok (.getfield 35, 3) := by decide +kernel
theorem dX5_begin_25 : decode cX5_begin 25 = .ok (.invokevirtual 51, 3) := by decide +kernel
theorem dX5_begin_28 : decode cX5_begin 28 = .ok (.aload_n 0, 1) := by decide +kernel
theorem dX5_begin_29 : decode cX5_begin 29 = .ok (.getfield 42, 3) := by decide +kernel
theorem dX5_begin_32 : decode cX5_begin 32 = .ok (.invokevirtual 52, 3) := by decide +kernel
theorem dX5_begin_35 : decode cX5_begin 35 = .ok (.aload_n 0, 1) := by decide +kernel
theorem dX5_begin_36 : decode cX5_begin 36 = .ok (.iconst 0, 1) := by decide +kernel
theorem dX5_begin_37 : decode cX5_begin 37 = .ok (.putfield 53, 3) := by decide +kernel
theorem dX5_begin_40 : decode cX5_begin 40 = .ok (.aload_n 0, 1) := by decide +kernel
theorem dX5_begin_41 : decode cX5_begin 41 = .ok (.iload_n 1, 1) := by decide +kernel
theorem dX5_begin_42 : decode cX5_begin 42 = .ok (.putfield 57, 3) := by decide +kernel
theorem dX5_begin_45 : decode cX5_begin 45 = .ok (.aload_n 0, 1) := by decide +kernel
theorem dX5_begin_46 : decode cX5_begin 46 = .ok (.iload_n 2, 1) := by decide +kernel
theorem dX5_begin_47 : decode cX5_begin 47 = .ok (.putfield 60, 3) := by decide +kernel
theorem dX5_begin_50 : decode cX5_begin 50 = .ok (.aload_n 0, 1) := by decide +kernel
theorem dX5_begin_51 : decode cX5_begin 51 = .ok (.iconst 0, 1) := by decide +kernel
theorem dX5_begin_52 : decode cX5_begin 52 = .ok (.putfield 63, 3) := by decide +kernel
theorem dX5_begin_55 : decode cX5_begin 55 = .ok (.aload_n 0, 1) := by decide +kernel
theorem dX5_begin_56 : decode cX5_begin 56 = .ok (.iconst 0, 1) := by decide +kernel
theorem dX5_begin_57 : decode cX5_begin 57 = .ok (.putfield 66, 3) := by decide +kernel
theorem dX5_begin_60 : decode cX5_begin 60 = .ok (.return_, 1) := by decide +kernel
theorem dX5_copyFrom_0 : decode cX5_copyFrom 0 = .ok (.aload_n 0, 1) := by decide +kernel
theorem dX5_copyFrom_1 : decode cX5_copyFrom 1 = .ok (.getfield 12, 3) := by decide +kernel
theorem dX5_copyFrom_4 : decode cX5_copyFrom 4 = .ok (.aload_n 1, 1) := by decide +kernel
theorem dX5_copyFrom_5 : decode cX5_copyFrom 5 = .ok (.getfield 12, 3) := by decide +kernel
theorem dX5_copyFrom_8 : decode cX5_copyFrom 8 = .ok (.invokevirtual 69, 3) := by decide +kernel
theorem dX5_copyFrom_11 : decode cX5_copyFrom 11 = .ok (.aload_n 0, 1) := by decide +kernel
theorem dX5_copyFrom_12 : decode cX5_copyFrom 12 = .ok (.getfield 21, 3) := by decide +kernel
theorem dX5_copyFrom_15 : decode cX5_copyFrom 15 = .ok (.aload_n 1, 1) := by decide +kernel
theorem dX5_copyFrom_16 : decode cX5_copyFrom 16 = .ok (.getfield 21, 3) := by decide +kernel
theorem dX5_copyFrom_19 : decode cX5_copyFrom 19 = .ok (.invokevirtual 73, 3) := by decide +kernel
theorem dX5_copyFrom_22 : decode cX5_copyFrom 22 = .ok (.aload_n 0, 1) := by decide +kernel
theorem dX5_copyFrom_23 : decode cX5_copyFrom 23 = .ok (.getfield 28, 3) := by decide +kernel
theorem dX5_copyFrom_26 : decode cX5_copyFrom 26 = .ok (.aload_n 1, 1) := by decide +kernel
theorem dX5_copyFrom_27 : decode cX5_copyFrom 27 = .ok (.getfield 28, 3) := by decide +kernel
theorem dX5_copyFrom_30 : decode cX5_copyFrom 30 = .ok (.invokevirtual 74, 3) := by decide +kernel
theorem dX5_copyFrom_33 : decode cX5_copyFrom 33 = .ok (.aload_n 0, 1) := by decide +kernel
theorem dX5_copyFrom_34 : decode cX5_copyFrom 34 = .ok (.getfield 35, 3) := by decide +kernel
theorem dX5_copyFrom_37 : decode cX5_copyFrom 37 = .ok (.aload_n 1, 1) := by decide +kernel
theorem dX5_copyFrom_38 : decode cX5_copyFrom 38 = .ok (.getfield 35, 3) := by decide +kernel
theorem dX5_copyFrom_41 : decode cX5_copyFrom 41 = .ok (.invokevirtual 75, 3) := by decide +kernel
theorem dX5_copyFrom_44 : decode cX5_copyFrom 44 = .ok (.aload_n 0, 1) := by decide +kernel
theorem dX5_copyFrom_45 : decode cX5_copyFrom 45 = .ok (.getfield 42, 3) := by decide +kernel
theorem dX5_copyFrom_48 : decode cX5_copyFrom 48 = .ok (.aload_n 1, 1) := by decide +kernel
theorem dX5_copyFrom_49 : decode cX5_copyFrom 49 = .ok (.getfield 42, 3) := by decide +kernel
theorem dX5_copyFrom_52 : decode cX5_copyFrom 52 = .ok (.invokevirtual 76, 3) := by decide +kernel
theorem dX5_copyFrom_55 : decode cX5_copyFrom 55 = .ok (.aload_n 0, 1) := by decide +kernel
theorem dX5_copyFrom_56 : decode cX5_copyFrom 56 = .ok (.aload_n 1, 1) := by decide +kernel
theorem dX5_copyFrom_57 : decode cX5_copyFrom 57 = .ok (.getfield 53, 3) := by decide +kernel
theorem dX5_copyFrom_60 : decode cX5_copyFrom 60 = .ok (.putfield 53, 3) := by decide +kernel
theorem dX5_copyFrom_63 : decode cX5_copyFrom 63 = .ok (.aload_n 0, 1) := by decide +kernel
theorem dX5_copyFrom_64 : decode cX5_copyFrom 64 = .ok (.aload_n 1, 1) := by decide +kernel
theorem dX5_copyFrom_65 : decode cX5_copyFrom 65 = .ok (.getfield 57, 3) := by decide +kernel
theorem dX5_copyFrom_68 : decode cX5_copyFrom 68 = .ok (.putfield 57, 3) := by decide +kernel
theorem dX5_copyFrom_71 : decode cX5_copyFrom 71 = .ok (.aload_n 0, 1) := by decide +kernel
theorem dX5_copyFrom_72 : decode cX5_copyFrom 72 = .ok (.aload_n 1, 1) := by decide +kernel
theorem dX5_copyFrom_73 : decode cX5_copyFrom 73 = .ok (.getfield 60, 3) := by decide +kernel
theorem dX5_copyFrom_76 : decode cX5_copyFrom 76 = .ok (.putfield 60, 3) := by decide +kernel
theorem dX5_copyFrom_79 : decode cX5_copyFrom 79 = .ok (.aload_n 0, 1) := by decide +kernel
theorem dX5_copyFrom_80 : decode cX5_copyFrom 80 = .ok (.aload_n 1, 1) := by decide +kernel
theorem dX5_copyFrom_81 : decode cX5_copyFrom 81 = .ok (.getfield 63, 3) := by decide +kernel
theorem dX5_copyFrom_84 : decode cX5_copyFrom 84 = .ok (.putfield 63, 3) := by decide +kernel
theorem dX5_copyFrom_87 : decode cX5_copyFrom 87 = .ok (.aload_n 0, 1) := by decide +kernel
theorem dX5_copyFrom_88 : decode cX5_copyFrom 88 = .ok (.aload_n 1, 1) := by decide +kernel
theorem dX5_copyFrom_89 : decode cX5_copyFrom 89 = .ok (.getfield 66, 3) := by decide +kernel
theorem dX5_copyFrom_92 : decode cX5_copyFrom 92 = .ok (.putfield 66, 3) := by decide +kernel
theorem dX5_copyFrom_95 : decode cX5_copyFrom 95 = .ok (.return_, 1) := by decide +kernel
theorem dX5_codeOfName_0 : decode cX5_codeOfName 0 = .ok (.aload_n 0, 1) := by decide +kernel
theorem dX5_codeOfName_1 : decode cX5_codeOfName 1 = .ok (.getfield 12, 3) := by decide +kernel
theorem dX5_codeOfName_4 : decode cX5_codeOfName 4 = .ok (.iconst 0, 1) := by decide +kernel
theorem dX5_codeOfName_5 : decode cX5_codeOfName 5 = .ok (.iload_n 1, 1) := by decide +kernel
theorem dX5_codeOfName_6 : decode cX5_codeOfName 6 = .ok (.invokevirtual 77, 3) := by decide +kernel
theorem dX5_codeOfName_9 : decode cX5_codeOfName 9 = .ok (.istore_n 2, 1) := by decide +kernel
theorem dX5_codeOfName_10 : decode cX5_codeOfName 10 = .ok (.aload_n 0, 1) := by decide +kernel
theorem dX5_codeOfName_11 : decode cX5_codeOfName 11 = .ok (.getfield 21, 3) := by decide +kernel
theorem dX5_codeOfName_14 : decode cX5_codeOfName 14 = .ok (.iconst 0, 1) := by decide +kernel
theorem dX5_codeOfName_15 : decode cX5_codeOfName 15 = .ok (.iload_n 1, 1) := by decide +kernel
theorem dX5_codeOfName_16 : decode cX5_codeOfName 16 = .ok (.invokevirtual 81, 3) := by decide +kernel
theorem dX5_codeOfName_19 : decode cX5_codeOfName 19 = .ok (.istore_n 3, 1) := by decide +kernel
theorem dX5_codeOfName_20 : decode cX5_codeOfName 20 = .ok (.aload_n 0, 1) := by decide +kernel
theorem dX5_codeOfName_21 : decode cX5_codeOfName 21 = .ok (.getfield 28, 3) := by decide +kernel
theorem dX5_codeOfName_24 : decode cX5_codeOfName 24 = .ok (.iconst 0, 1) := by decide +kernel
theorem dX5_codeOfName_25 : decode cX5_codeOfName 25 = .ok (.iload_n 1, 1) := by decide +kernel
theorem dX5_codeOfName_26 : decode cX5_codeOfName 26 = .ok (.invokevirtual 82, 3) := by decide +kernel
theorem dX5_codeOfName_29 : decode cX5_codeOfName 29 = .ok (.istore 4, 2) := by decide +kernel
theorem dX5_codeOfName_31 : decode cX5_codeOfName 31 = .ok (.iload_n 2, 1) := by decide +kernel
theorem dX5_codeOfName_32 : decode cX5_codeOfName 32 = .ok (.iconst (-1), 1) := by decide +kernel
theorem dX5_codeOfName_33 : decode cX5_codeOfName 33 = .ok (.if_icmp .eq 5, 3) := by decide +kernel
theorem dX5_codeOfName_36 : decode cX5_codeOfName 36 = .ok (.iload_n 2, 1) := by decide +kernel
theorem dX5_codeOfName_37 : decode cX5_codeOfName 37 = .ok (.ireturn, 1) := by decide +kernel
theorem dX5_codeOfName_38 : decode cX5_codeOfName 38 = .ok (.iload_n 3, 1) := by decide +kernel
theorem dX5_codeOfName_39 : decode cX5_codeOfName 39 = .ok (.iconst (-1), 1) := by decide +kernel
theorem dX5_codeOfName_40 : decode cX5_codeOfName 40 = .ok (.if_icmp .eq 8, 3) := by decide +kernel
theorem dX5_codeOfName_43 : decode cX5_codeOfName 43 = .ok (.bipush 100, 2) := by decide +kernel
theorem dX5_codeOfName_45 : decode cX5_codeOfName 45 = .ok (.iload_n 3, 1) := by decide +kernel
theorem dX5_codeOfName_46 : decode cX5_codeOfName 46 = .ok (.iadd, 1) := by decide +kernel
theorem dX5_codeOfName_47 : decode cX5_codeOfName 47 = .ok (.ireturn, 1) := by decide +kernel
theorem dX5_codeOfName_48 : decode cX5_codeOfName 48 = .ok (.iload 4, 2) := by decide +kernel
theorem dX5_codeOfName_50 : decode cX5_codeOfName 50 = .ok (.iconst (-1), 1) := by decide +kernel
theorem dX5_codeOfName_51 : decode cX5_codeOfName 51 = .ok (.if_icmp .ne 7, 3) := by decide +kernel
theorem dX5_codeOfName_54 : decode cX5_codeOfName 54 = .ok (.iconst (-1), 1) := by decide +kernel
theorem dX5_codeOfName_55 : decode cX5_codeOfName 55 = .ok (.goto 9, 3) := by decide +kernel
theorem dX5_codeOfName_58 : decode cX5_codeOfName 58 = .ok (.sipush 200, 3) := by decide +kernel
theorem dX5_codeOfName_61 : decode cX5_codeOfName 61 = .ok (.iload 4, 2) := by decide +kernel
theorem dX5_codeOfName_63 : decode cX5_codeOfName 63 = .ok (.iadd, 1) := by decide +kernel
theorem dX5_codeOfName_64 : decode cX5_codeOfName 64 = .ok (.ireturn, 1) := by decide +kernel
theorem dX5_skewOf_0 : decode cX5_skewOf 0 = .ok (.aload_n 0, 1) := by decide +kernel
theorem dX5_skewOf_1 : decode cX5_skewOf 1 = .ok (.getfield 21, 3) := by decide +kernel
theorem dX5_skewOf_4 : decode cX5_skewOf 4 = .ok (.iload_n 1, 1) := by decide +kernel
theorem dX5_skewOf_5 : decode cX5_skewOf 5 = .ok (.iconst 3, 1) := by decide +kernel
theorem dX5_skewOf_6 : decode cX5_skewOf 6 = .ok (.invokevirtual 83, 3) := by decide +kernel
theorem dX5_skewOf_9 : decode cX5_skewOf 9 = .ok (.aload_n 0, 1) := by decide +kernel
theorem dX5_skewOf_10 : decode cX5_skewOf 10 = .ok (.getfield 12, 3) := by decide +kernel
theorem dX5_skewOf_13 : decode cX5_skewOf 13 = .ok (.iload_n 2, 1) := by decide +kernel
theorem dX5_skewOf_14 : decode cX5_skewOf 14 = .ok (.iconst 3, 1) := by decide +kernel
theorem dX5_skewOf_15 : decode cX5_skewOf 15 = .ok (.invokevirtual 86, 3) := by decide +kernel
theorem dX5_skewOf_18 : decode cX5_skewOf 18 = .ok (.isub, 1) := by decide +kernel
theorem dX5_skewOf_19 : decode cX5_skewOf 19 = .ok (.invokestatic 87, 3) := by decide +kernel
theorem dX5_skewOf_22 : decode cX5_skewOf 22 = .ok (.ireturn, 1) := by decide +kernel
theorem dX5_isSkewed_0 : decode cX5_isSkewed 0 = .ok (.aload_n 0, 1) := by decide +kernel
theorem dX5_isSkewed_1 : decode cX5_isSkewed 1 = .ok (.getfield 35, 3) := by decide +kernel
theorem dX5_isSkewed_4 : decode cX5_isSkewed 4 = .ok (.iload_n 1, 1) := by decide +kernel
theorem dX5_isSkewed_5 : decode cX5_isSkewed 5 = .ok (.iconst 2, 1) := by decide +kernel
theorem dX5_isSkewed_6 : decode cX5_isSkewed 6 = .ok (.invokevirtual 93, 3) := by decide +kernel
theorem dX5_isSkewed_9 : decode cX5_isSkewed 9 = .ok (.istore_n 2, 1) := by decide +kernel
theorem dX5_isSkewed_10 : decode cX5_isSkewed 10 = .ok (.aload_n 0, 1) := by decide +kernel
theorem dX5_isSkewed_11 : decode cX5_isSkewed 11 = .ok (.iload_n 2, 1) := by decide +kernel
theorem dX5_isSkewed_12 : decode cX5_isSkewed 12 = .ok (.aload_n 0, 1) := by decide +kernel
theorem dX5_isSkewed_13 : decode cX5_isSkewed 13 = .ok (.getfield 35, 3) := by decide +kernel
theorem dX5_isSkewed_16 : decode cX5_isSkewed 16 = .ok (.iload_n 1, 1) := by decide +kernel
theorem dX5_isSkewed_17 : decode cX5_isSkewed 17 = .ok (.iconst 3, 1) := by decide +kernel
theorem dX5_isSkewed_18 : decode cX5_isSkewed 18 = .ok (.invokevirtual 93, 3) := by decide +kernel
theorem dX5_isSkewed_21 : decode cX5_isSkewed 21 = .ok (.invokevirtual 94, 3) := by decide +kernel
theorem dX5_isSkewed_24 : decode cX5_isSkewed 24 = .ok (.aload_n 0, 1) := by decide +kernel
theorem dX5_isSkewed_25 : decode cX5_isSkewed 25 = .ok (.getfield 57, 3) := by decide +kernel
theorem dX5_isSkewed_28 : decode cX5_isSkewed 28 = .ok (.if_icmp .le 7, 3) := by decide +kernel
theorem dX5_isSkewed_31 : decode cX5_isSkewed 31 = .ok (.iconst 1, 1) := by decide +kernel
theorem dX5_isSkewed_32 : decode cX5_isSkewed 32 = .ok (.goto 4, 3) := by decide +kernel
theorem dX5_isSkewed_35 : decode cX5_isSkewed 35 = .ok (.iconst 0, 1) := by decide +kernel
theorem dX5_isSkewed_36 : decode cX5_isSkewed 36 = .ok (.ireturn, 1) := by decide +kernel
theorem dX5_whyNoLogin_0 : decode cX5_whyNoLogin 0 = .ok (.aload_n 0, 1) := by decide +kernel
theorem dX5_whyNoLogin_1 : decode cX5_whyNoLogin 1 = .ok (.getfield 21, 3) := by decide +kernel
theorem dX5_whyNoLogin_4 : decode cX5_whyNoLogin 4 = .ok (.iload_n 1, 1) := by decide +kernel
theorem dX5_whyNoLogin_5 : decode cX5_whyNoLogin 5 = .ok (.iconst 2, 1) := by decide +kernel
theorem dX5_whyNoLogin_6 : decode cX5_whyNoLogin 6 = .ok (.invokevirtual 83, 3) := by decide +kernel
theorem dX5_whyNoLogin_9 : decode cX5_whyNoLogin 9 = .ok (.iload_n 2, 1) := by decide +kernel
theorem dX5_whyNoLogin_10 : decode cX5_whyNoLogin 10 = .ok (.if_icmp .eq 5, 3) := by decide +kernel
theorem dX5_whyNoLogin_13 : decode cX5_whyNoLogin 13 = .ok (.iconst 1, 1) := by decide +kernel
theorem dX5_whyNoLogin_14 : decode cX5_whyNoLogin 14 = .ok (.ireturn, 1) := by decide +kernel
theorem dX5_whyNoLogin_15 : decode cX5_whyNoLogin 15 = .ok (.aload_n 0, 1) := by decide +kernel
theorem dX5_whyNoLogin_16 : decode cX5_whyNoLogin 16 = .ok (.iload_n 1, 1) := by decide +kernel
theorem dX5_whyNoLogin_17 : decode cX5_whyNoLogin 17 = .ok (.aload_n 0, 1) := by decide +kernel
theorem dX5_whyNoLogin_18 : decode cX5_whyNoLogin 18 = .ok (.getfield 21, 3) := by decide +kernel
theorem dX5_whyNoLogin_21 : decode cX5_whyNoLogin 21 = .ok (.iload_n 1, 1) := by decide +kernel
theorem dX5_whyNoLogin_22 : decode cX5_whyNoLogin 22 = .ok (.iconst 1, 1) := by decide +kernel
theorem dX5_whyNoLogin_23 : decode cX5_whyNoLogin 23 = .ok (.invokevirtual 83, 3) := by decide +kernel
theorem dX5_whyNoLogin_26 : decode cX5_whyNoLogin 26 = .ok (.invokevirtual 94, 3) := by decide +kernel
theorem dX5_whyNoLogin_29 : decode cX5_whyNoLogin 29 = .ok (.aload_n 0, 1) := by decide +kernel
theorem dX5_whyNoLogin_30 : decode cX5_whyNoLogin 30 = .ok (.getfield 57, 3) := by decide +kernel
theorem dX5_whyNoLogin_33 : decode cX5_whyNoLogin 33 = .ok (.if_icmp .le 5, 3) := by decide +kernel
theorem dX5_whyNoLogin_36 : decode cX5_whyNoLogin 36 = .ok (.iconst 2, 1) := by decide +kernel
theorem dX5_whyNoLogin_37 : decode cX5_whyNoLogin 37 = .ok (.ireturn, 1) := by decide +kernel
theorem dX5_whyNoLogin_38 : decode cX5_whyNoLogin 38 = .ok (.aload_n 0, 1) := by decide +kernel
theorem dX5_whyNoLogin_39 : decode cX5_whyNoLogin 39 = .ok (.getfield 35, 3) := by decide +kernel
theorem dX5_whyNoLogin_42 : decode cX5_whyNoLogin 42 = .ok (.invokevirtual 97, 3) := by decide +kernel
theorem dX5_whyNoLogin_45 : decode cX5_whyNoLogin 45 = .ok (.ifCond .eq 7, 3) := by decide +kernel
theorem dX5_whyNoLogin_48 : decode cX5_whyNoLogin 48 = .ok (.iconst 3, 1) := by decide +kernel
theorem dX5_whyNoLogin_49 : decode cX5_whyNoLogin 49 = .ok (.goto 4, 3) := by decide +kernel
theorem dX5_whyNoLogin_52 : decode cX5_whyNoLogin 52 = .ok (.iconst 0, 1) := by decide +kernel
theorem dX5_whyNoLogin_53 : decode cX5_whyNoLogin 53 = .ok (.ireturn, 1) := by decide +kernel
theorem dX5_whyNoReferral_0 : decode cX5_whyNoReferral 0 = .ok (.aload_n 0, 1) := by decide +kernel
theorem dX5_whyNoReferral_1 : decode cX5_whyNoReferral 1 = .ok (.getfield 35, 3) := by decide +kernel
theorem dX5_whyNoReferral_4 : decode cX5_whyNoReferral 4 = .ok (.iload_n 1, 1) := by decide +kernel
theorem dX5_whyNoReferral_5 : decode cX5_whyNoReferral 5 = .ok (.iconst 1, 1) := by decide +kernel
theorem dX5_whyNoReferral_6 : decode cX5_whyNoReferral 6 = .ok (.invokevirtual 93, 3) := by decide +kernel
theorem dX5_whyNoReferral_9 : decode cX5_whyNoReferral 9 = .ok (.ifCond .eq 5, 3) := by decide +kernel
theorem dX5_whyNoReferral_12 : decode cX5_whyNoReferral 12 = .ok (.iconst 1, 1) := by decide +kernel
theorem dX5_whyNoReferral_13 : decode cX5_whyNoReferral 13 = .ok (.ireturn, 1) := by decide +kernel
theorem dX5_whyNoReferral_14 : decode cX5_whyNoReferral 14 = .ok (.aload_n 0, 1) := by decide +kernel
theorem dX5_whyNoReferral_15 : decode cX5_whyNoReferral 15 = .ok (.getfield 35, 3) := by decide +kernel
theorem dX5_whyNoReferral_18 : decode cX5_whyNoReferral 18 = .ok (.iload_n 1, 1) := by decide +kernel
theorem dX5_whyNoReferral_19 : decode cX5_whyNoReferral 19 = .ok (.aload_n 0, 1) := by decide +kernel
theorem dX5_whyNoReferral_20 : decode cX5_whyNoReferral 20 = .ok (.getfield 53, 3) := by decide +kernel
theorem dX5_whyNoReferral_23 : decode cX5_whyNoReferral 23 = .ok (.invokevirtual 101, 3) := by decide +kernel
theorem dX5_whyNoReferral_26 : decode cX5_whyNoReferral 26 = .ok (.ifCond .ne 5, 3) := by decide +kernel
theorem dX5_whyNoReferral_29 : decode cX5_whyNoReferral 29 = .ok (.iconst 2, 1) := by decide +kernel
theorem dX5_whyNoReferral_30 : decode cX5_whyNoReferral 30 = .ok (.ireturn, 1) := by decide +kernel
theorem dX5_whyNoReferral_31 : decode cX5_whyNoReferral 31 = .ok (.aload_n 0, 1) := by decide +kernel
theorem dX5_whyNoReferral_32 : decode cX5_whyNoReferral 32 = .ok (.getfield 12, 3) := by decide +kernel
theorem dX5_whyNoReferral_35 : decode cX5_whyNoReferral 35 = .ok (.aload_n 0, 1) := by decide +kernel
theorem dX5_whyNoReferral_36 : decode cX5_whyNoReferral 36 = .ok (.getfield 35, 3) := by decide +kernel
theorem dX5_whyNoReferral_39 : decode cX5_whyNoReferral 39 = .ok (.iload_n 1, 1) := by decide +kernel
theorem dX5_whyNoReferral_40 : decode cX5_whyNoReferral 40 = .ok (.iconst 3, 1) := by decide +kernel
theorem dX5_whyNoReferral_41 : decode cX5_whyNoReferral 41 = .ok (.invokevirtual 93, 3) := by decide +kernel
theorem dX5_whyNoReferral_44 : decode cX5_whyNoReferral 44 = .ok (.iload_n 2, 1) := by decide +kernel
theorem dX5_whyNoReferral_45 : decode cX5_whyNoReferral 45 = .ok (.invokevirtual 105, 3) := by decide +kernel
theorem dX5_whyNoReferral_48 : decode cX5_whyNoReferral 48 = .ok (.ifCond .ne 5, 3) := by decide +kernel
theorem dX5_whyNoReferral_51 : decode cX5_whyNoReferral 51 = .ok (.iconst 3, 1) := by decide +kernel
theorem dX5_whyNoReferral_52 : decode cX5_whyNoReferral 52 = .ok (.ireturn, 1) := by decide +kernel
theorem dX5_whyNoReferral_53 : decode cX5_whyNoReferral 53 = .ok (.aload_n 0, 1) := by decide +kernel
theorem dX5_whyNoReferral_54 : decode cX5_whyNoReferral 54 = .ok (.iload_n 1, 1) := by decide +kernel
theorem dX5_whyNoReferral_55 : decode cX5_whyNoReferral 55 = .ok (.invokevirtual 108, 3) := by decide +kernel
theorem dX5_whyNoReferral_58 : decode cX5_whyNoReferral 58 = .ok (.ifCond .eq 5, 3) := by decide +kernel
theorem dX5_whyNoReferral_61 : decode cX5_whyNoReferral 61 = .ok (.iconst 4, 1) := by decide +kernel
theorem dX5_whyNoReferral_62 : decode cX5_whyNoReferral 62 = .ok (.ireturn, 1) := by decide +kernel
theorem dX5_whyNoReferral_63 : decode cX5_whyNoReferral 63 = .ok (.aload_n 0, 1) := by decide +kernel
theorem dX5_whyNoReferral_64 : decode cX5_whyNoReferral 64 = .ok (.getfield 35, 3) := by decide +kernel
theorem dX5_whyNoReferral_67 : decode cX5_whyNoReferral 67 = .ok (.invokevirtual 97, 3) := by decide +kernel
theorem dX5_whyNoReferral_70 : decode cX5_whyNoReferral 70 = .ok (.ifCond .eq 7, 3) := by decide +kernel
theorem dX5_whyNoReferral_73 : decode cX5_whyNoReferral 73 = .ok (.iconst 5, 1) := by decide +kernel
theorem dX5_whyNoReferral_74 : decode cX5_whyNoReferral 74 = .ok (.goto 4, 3) := by decide +kernel
theorem dX5_whyNoReferral_77 : decode cX5_whyNoReferral 77 = .ok (.iconst 0, 1) := by decide +kernel
theorem dX5_whyNoReferral_78 : decode cX5_whyNoReferral 78 = .ok (.ireturn, 1) := by decide +kernel
theorem dX5_whyNoRequest_0 : decode cX5_whyNoRequest 0 = .ok (.aload_n 0, 1) := by decide +kernel
theorem dX5_whyNoRequest_1 : decode cX5_whyNoRequest 1 = .ok (.getfield 35, 3) := by decide +kernel
theorem dX5_whyNoRequest_4 : decode cX5_whyNoRequest 4 = .ok (.iload_n 1, 1) := by decide +kernel
theorem dX5_whyNoRequest_5 : decode cX5_whyNoRequest 5 = .ok (.iconst 1, 1) := by decide +kernel
theorem dX5_whyNoRequest_6 : decode cX5_whyNoRequest 6 = .ok (.invokevirtual 93, 3) := by decide +kernel
theorem dX5_whyNoRequest_9 : decode cX5_whyNoRequest 9 = .ok (.ifCond .eq 5, 3) := by decide +kernel
theorem dX5_whyNoRequest_12 : decode cX5_whyNoRequest 12 = .ok (.iconst 1, 1) := by decide +kernel
theorem dX5_whyNoRequest_13 : decode cX5_whyNoRequest 13 = .ok (.ireturn, 1) := by decide +kernel
theorem dX5_whyNoRequest_14 : decode cX5_whyNoRequest 14 = .ok (.aload_n 0, 1) := by decide +kernel
theorem dX5_whyNoRequest_15 : decode cX5_whyNoRequest 15 = .ok (.getfield 35, 3) := by decide +kernel
theorem dX5_whyNoRequest_18 : decode cX5_whyNoRequest 18 = .ok (.iload_n 1, 1) := by decide +kernel
theorem dX5_whyNoRequest_19 : decode cX5_whyNoRequest 19 = .ok (.aload_n 0, 1) := by decide +kernel
theorem dX5_whyNoRequest_20 : decode cX5_whyNoRequest 20 = .ok (.getfield 53, 3) := by decide +kernel
theorem dX5_whyNoRequest_23 : decode cX5_whyNoRequest 23 = .ok (.invokevirtual 101, 3) := by decide +kernel
theorem dX5_whyNoRequest_26 : decode cX5_whyNoRequest 26 = .ok (.ifCond .ne 5, 3) := by decide +kernel
theorem dX5_whyNoRequest_29 : decode cX5_whyNoRequest 29 = .ok (.iconst 2, 1) := by decide +kernel
theorem dX5_whyNoRequest_30 : decode cX5_whyNoRequest 30 = .ok (.ireturn, 1) := by decide +kernel
theorem dX5_whyNoRequest_31 : decode cX5_whyNoRequest 31 = .ok (.aload_n 0, 1) := by decide +kernel
theorem dX5_whyNoRequest_32 : decode cX5_whyNoRequest 32 = .ok (.getfield 35, 3) := by decide +kernel
theorem dX5_whyNoRequest_35 : decode cX5_whyNoRequest 35 = .ok (.iload_n 1, 1) := by decide +kernel
theorem dX5_whyNoRequest_36 : decode cX5_whyNoRequest 36 = .ok (.iconst 3, 1) := by decide +kernel
theorem dX5_whyNoRequest_37 : decode cX5_whyNoRequest 37 = .ok (.invokevirtual 93, 3) := by decide +kernel
theorem dX5_whyNoRequest_40 : decode cX5_whyNoRequest 40 = .ok (.aload_n 0, 1) := by decide +kernel
theorem dX5_whyNoRequest_41 : decode cX5_whyNoRequest 41 = .ok (.getfield 28, 3) := by decide +kernel
theorem dX5_whyNoRequest_44 : decode cX5_whyNoRequest 44 = .ok (.iload_n 2, 1) := by decide +kernel
theorem dX5_whyNoRequest_45 : decode cX5_whyNoRequest 45 = .ok (.iconst 1, 1) := by decide +kernel
theorem dX5_whyNoRequest_46 : decode cX5_whyNoRequest 46 = .ok (.invokevirtual 112, 3) := by decide +kernel
theorem dX5_whyNoRequest_49 : decode cX5_whyNoRequest 49 = .ok (.if_icmp .eq 5, 3) := by decide +kernel
theorem dX5_whyNoRequest_52 : decode cX5_whyNoRequest 52 = .ok (.iconst 3, 1) := by decide +kernel
theorem dX5_whyNoRequest_53 : decode cX5_whyNoRequest 53 = .ok (.ireturn, 1) := by decide +kernel
theorem dX5_whyNoRequest_54 : decode cX5_whyNoRequest 54 = .ok (.aload_n 0, 1) := by decide +kernel
theorem dX5_whyNoRequest_55 : decode cX5_whyNoRequest 55 = .ok (.iload_n 1, 1) := by decide +kernel
theorem dX5_whyNoRequest_56 : decode cX5_whyNoRequest 56 = .ok (.invokevirtual 108, 3) := by decide +kernel
theorem dX5_whyNoRequest_59 : decode cX5_whyNoRequest 59 = .ok (.ifCond .eq 5, 3) := by decide +kernel
theorem dX5_whyNoRequest_62 : decode cX5_whyNoRequest 62 = .ok (.iconst 4, 1) := by decide +kernel
theorem dX5_whyNoRequest_63 : decode cX5_whyNoRequest 63 = .ok (.ireturn, 1) := by decide +kernel
theorem dX5_whyNoRequest_64 : decode cX5_whyNoRequest 64 = .ok (.aload_n 0, 1) := by decide +kernel
theorem dX5_whyNoRequest_65 : decode cX5_whyNoRequest 65 = .ok (.getfield 35, 3) := by decide +kernel
theorem dX5_whyNoRequest_68 : decode cX5_whyNoRequest 68 = .ok (.invokevirtual 97, 3) := by decide +kernel
theorem dX5_whyNoRequest_71 : decode cX5_whyNoRequest 71 = .ok (.ifCond .eq 7, 3) := by decide +kernel
theorem dX5_whyNoRequest_74 : decode cX5_whyNoRequest 74 = .ok (.iconst 5, 1) := by decide +kernel
theorem dX5_whyNoRequest_75 : decode cX5_whyNoRequest 75 = .ok (.goto 4, 3) := by decide +kernel
theorem dX5_whyNoRequest_78 : decode cX5_whyNoRequest 78 = .ok (.iconst 0, 1) := by decide +kernel
theorem dX5_whyNoRequest_79 : decode cX5_whyNoRequest 79 = .ok (.ireturn, 1) := by decide +kernel
theorem dX5_whyNoRenewal_0 : decode cX5_whyNoRenewal 0 = .ok (.aload_n 0, 1) := by decide +kernel
theorem dX5_whyNoRenewal_1 : decode cX5_whyNoRenewal 1 = .ok (.getfield 35, 3) := by decide +kernel
theorem dX5_whyNoRenewal_4 : decode cX5_whyNoRenewal 4 = .ok (.iload_n 1, 1) := by decide +kernel
theorem dX5_whyNoRenewal_5 : decode cX5_whyNoRenewal 5 = .ok (.invokevirtual 113, 3) := by decide +kernel
theorem dX5_whyNoRenewal_8 : decode cX5_whyNoRenewal 8 = .ok (.ifCond .ne 5, 3) := by decide +kernel
theorem dX5_whyNoRenewal_11 : decode cX5_whyNoRenewal 11 = .ok (.iconst 1, 1) := by decide +kernel
theorem dX5_whyNoRenewal_12 : decode cX5_whyNoRenewal 12 = .ok (.ireturn, 1) := by decide +kernel
theorem dX5_whyNoRenewal_13 : decode cX5_whyNoRenewal 13 = .ok (.aload_n 0, 1) := by decide +kernel
theorem dX5_whyNoRenewal_14 : decode cX5_whyNoRenewal 14 = .ok (.getfield 35, 3) := by decide +kernel
theorem dX5_whyNoRenewal_17 : decode cX5_whyNoRenewal 17 = .ok (.iload_n 1, 1) := by decide +kernel
theorem dX5_whyNoRenewal_18 : decode cX5_whyNoRenewal 18 = .ok (.aload_n 0, 1) := by decide +kernel
theorem dX5_whyNoRenewal_19 : decode cX5_whyNoRenewal 19 = .ok (.getfield 53, 3) := by decide +kernel
theorem dX5_whyNoRenewal_22 : decode cX5_whyNoRenewal 22 = .ok (.invokevirtual 101, 3) := by decide +kernel
theorem dX5_whyNoRenewal_25 : decode cX5_whyNoRenewal 25 = .ok (.ifCond .ne 5, 3) := by decide +kernel
theorem dX5_whyNoRenewal_28 : decode cX5_whyNoRenewal 28 = .ok (.iconst 2, 1) := by decide +kernel
theorem dX5_whyNoRenewal_29 : decode cX5_whyNoRenewal 29 = .ok (.ireturn, 1) := by decide +kernel
theorem dX5_whyNoRenewal_30 : decode cX5_whyNoRenewal 30 = .ok (.aload_n 0, 1) := by decide +kernel
theorem dX5_whyNoRenewal_31 : decode cX5_whyNoRenewal 31 = .ok (.iload_n 1, 1) := by decide +kernel
theorem dX5_whyNoRenewal_32 : decode cX5_whyNoRenewal 32 = .ok (.invokevirtual 116, 3) := by decide +kernel
theorem dX5_whyNoRenewal_35 : decode cX5_whyNoRenewal 35 = .ok (.aload_n 0, 1) := by decide +kernel
theorem dX5_whyNoRenewal_36 : decode cX5_whyNoRenewal 36 = .ok (.getfield 35, 3) := by decide +kernel
theorem dX5_whyNoRenewal_39 : decode cX5_whyNoRenewal 39 = .ok (.iload_n 1, 1) := by decide +kernel
theorem dX5_whyNoRenewal_40 : decode cX5_whyNoRenewal 40 = .ok (.bipush 6, 2) := by decide +kernel
theorem dX5_whyNoRenewal_42 : decode cX5_whyNoRenewal 42 = .ok (.invokevirtual 93, 3) := by decide +kernel
theorem dX5_whyNoRenewal_45 : decode cX5_whyNoRenewal 45 = .ok (.if_icmp .le 7, 3) := by decide +kernel
theorem dX5_whyNoRenewal_48 : decode cX5_whyNoRenewal 48 = .ok (.iconst 0, 1) := by decide +kernel
theorem dX5_whyNoRenewal_49 : decode cX5_whyNoRenewal 49 = .ok (.goto 4, 3) := by decide +kernel
theorem dX5_whyNoRenewal_52 : decode cX5_whyNoRenewal 52 = .ok (.iconst 3, 1) := by decide +kernel
theorem dX5_whyNoRenewal_53 : decode cX5_whyNoRenewal 53 = .ok (.ireturn, 1) := by decide +kernel
theorem dX5_whyNoCheese_0 : decode cX5_whyNoCheese 0 = .ok (.aload_n 0, 1) := by decide +kernel
theorem dX5_whyNoCheese_1 : decode cX5_whyNoCheese 1 = .ok (.getfield 53, 3) := by decide +kernel
theorem dX5_whyNoCheese_4 : decode cX5_whyNoCheese 4 = .ok (.iload_n 2, 1) := by decide +kernel
theorem dX5_whyNoCheese_5 : decode cX5_whyNoCheese 5 = .ok (.iadd, 1) := by decide +kernel
theorem dX5_whyNoCheese_6 : decode cX5_whyNoCheese 6 = .ok (.istore_n 3, 1) := by decide +kernel
theorem dX5_whyNoCheese_7 : decode cX5_whyNoCheese 7 = .ok (.aload_n 0, 1) := by decide +kernel
theorem dX5_whyNoCheese_8 : decode cX5_whyNoCheese 8 = .ok (.getfield 35, 3) := by decide +kernel
theorem dX5_whyNoCheese_11 : decode cX5_whyNoCheese 11 = .ok (.iload_n 1, 1) := by decide +kernel
theorem dX5_whyNoCheese_12 : decode cX5_whyNoCheese 12 = .ok (.iconst 2, 1) := by decide +kernel
theorem dX5_whyNoCheese_13 : decode cX5_whyNoCheese 13 = .ok (.invokevirtual 93, 3) := by decide +kernel
theorem dX5_whyNoCheese_16 : decode cX5_whyNoCheese 16 = .ok (.istore 4, 2) := by decide +kernel
theorem dX5_whyNoCheese_18 : decode cX5_whyNoCheese 18 = .ok (.aload_n 0, 1) := by decide +kernel
theorem dX5_whyNoCheese_19 : decode cX5_whyNoCheese 19 = .ok (.getfield 35, 3) := by decide +kernel
theorem dX5_whyNoCheese_22 : decode cX5_whyNoCheese 22 = .ok (.iload_n 1, 1) := by decide +kernel
theorem dX5_whyNoCheese_23 : decode cX5_whyNoCheese 23 = .ok (.iconst 4, 1) := by decide +kernel
theorem dX5_whyNoCheese_24 : decode cX5_whyNoCheese 24 = .ok (.invokevirtual 93, 3) := by decide +kernel
theorem dX5_whyNoCheese_27 : decode cX5_whyNoCheese 27 = .ok (.istore 5, 2) := by decide +kernel
theorem dX5_whyNoCheese_29 : decode cX5_whyNoCheese 29 = .ok (.aload_n 0, 1) := by decide +kernel
theorem dX5_whyNoCheese_30 : decode cX5_whyNoCheese 30 = .ok (.getfield 35, 3) := by decide +kernel
theorem dX5_whyNoCheese_33 : decode cX5_whyNoCheese 33 = .ok (.iload_n 1, 1) := by decide +kernel
theorem dX5_whyNoCheese_34 : decode cX5_whyNoCheese 34 = .ok (.iconst 1, 1) := by decide +kernel
theorem dX5_whyNoCheese_35 : decode cX5_whyNoCheese 35 = .ok (.invokevirtual 93, 3) := by decide +kernel
theorem dX5_whyNoCheese_38 : decode cX5_whyNoCheese 38 = .ok (.iconst 1, 1) := by decide +kernel
theorem dX5_whyNoCheese_39 : decode cX5_whyNoCheese 39 = .ok (.if_icmp .eq 5, 3) := by decide +kernel
theorem dX5_whyNoCheese_42 : decode cX5_whyNoCheese 42 = .ok (.iconst 1, 1) := by decide +kernel
theorem dX5_whyNoCheese_43 : decode cX5_whyNoCheese 43 = .ok (.ireturn, 1) := by decide +kernel
theorem dX5_whyNoCheese_44 : decode cX5_whyNoCheese 44 = .ok (.aload_n 0, 1) := by decide +kernel
theorem dX5_whyNoCheese_45 : decode cX5_whyNoCheese 45 = .ok (.getfield 35, 3) := by decide +kernel
theorem dX5_whyNoCheese_48 : decode cX5_whyNoCheese 48 = .ok (.iload_n 1, 1) := by decide +kernel
theorem dX5_whyNoCheese_49 : decode cX5_whyNoCheese 49 = .ok (.iload_n 3, 1) := by decide +kernel
theorem dX5_whyNoCheese_50 : decode cX5_whyNoCheese 50 = .ok (.invokevirtual 101, 3) := by decide +kernel
theorem dX5_whyNoCheese_53 : decode cX5_whyNoCheese 53 = .ok (.ifCond .ne 5, 3) := by decide +kernel
theorem dX5_whyNoCheese_56 : decode cX5_whyNoCheese 56 = .ok (.iconst 2, 1) := by decide +kernel
theorem dX5_whyNoCheese_57 : decode cX5_whyNoCheese 57 = .ok (.ireturn, 1) := by decide +kernel
theorem dX5_whyNoCheese_58 : decode cX5_whyNoCheese 58 = .ok (.aload_n 0, 1) := by decide +kernel
theorem dX5_whyNoCheese_59 : decode cX5_whyNoCheese 59 = .ok (.iload_n 1, 1) := by decide +kernel
theorem dX5_whyNoCheese_60 : decode cX5_whyNoCheese 60 = .ok (.invokevirtual 108, 3) := by decide +kernel
theorem dX5_whyNoCheese_63 : decode cX5_whyNoCheese 63 = .ok (.ifCond .eq 5, 3) := by decide +kernel
theorem dX5_whyNoCheese_66 : decode cX5_whyNoCheese 66 = .ok (.iconst 3, 1) := by decide +kernel
theorem dX5_whyNoCheese_67 : decode cX5_whyNoCheese 67 = .ok (.ireturn, 1) := by decide +kernel
theorem dX5_whyNoCheese_68 : decode cX5_whyNoCheese 68 = .ok (.aload_n 0, 1) := by decide +kernel
theorem dX5_whyNoCheese_69 : decode cX5_whyNoCheese 69 = .ok (.getfield 42, 3) := by decide +kernel
theorem dX5_whyNoCheese_72 : decode cX5_whyNoCheese 72 = .ok (.iload 4, 2) := by decide +kernel
theorem dX5_whyNoCheese_74 : decode cX5_whyNoCheese 74 = .ok (.iload 5, 2) := by decide +kernel
theorem dX5_whyNoCheese_76 : decode cX5_whyNoCheese 76 = .ok (.iload_n 3, 1) := by decide +kernel
theorem dX5_whyNoCheese_77 : decode cX5_whyNoCheese 77 = .ok (.aload_n 0, 1) := by decide +kernel
theorem dX5_whyNoCheese_78 : decode cX5_whyNoCheese 78 = .ok (.getfield 21, 3) := by decide +kernel
theorem dX5_whyNoCheese_81 : decode cX5_whyNoCheese 81 = .ok (.iload 4, 2) := by decide +kernel
theorem dX5_whyNoCheese_83 : decode cX5_whyNoCheese 83 = .ok (.iconst 3, 1) := by decide +kernel
theorem dX5_whyNoCheese_84 : decode cX5_whyNoCheese 84 = .ok (.invokevirtual 83, 3) := by decide +kernel
theorem dX5_whyNoCheese_87 : decode cX5_whyNoCheese 87 = .ok (.iadd, 1) := by decide +kernel
theorem dX5_whyNoCheese_88 : decode cX5_whyNoCheese 88 = .ok (.iload_n 3, 1) := by decide +kernel
theorem dX5_whyNoCheese_89 : decode cX5_whyNoCheese 89 = .ok (.aload_n 0, 1) := by decide +kernel
theorem dX5_whyNoCheese_90 : decode cX5_whyNoCheese 90 = .ok (.getfield 57, 3) := by decide +kernel
theorem dX5_whyNoCheese_93 : decode cX5_whyNoCheese 93 = .ok (.isub, 1) := by decide +kernel
theorem dX5_whyNoCheese_94 : decode cX5_whyNoCheese 94 = .ok (.invokevirtual 119, 3) := by decide +kernel
theorem dX5_whyNoCheese_97 : decode cX5_whyNoCheese 97 = .ok (.ifCond .eq 5, 3) := by decide +kernel
theorem dX5_whyNoCheese_100 : decode cX5_whyNoCheese 100 = .ok (.iconst 4, 1) := by decide +kernel
theorem dX5_whyNoCheese_101 : decode cX5_whyNoCheese 101 = .ok (.ireturn, 1) := by decide +kernel
theorem dX5_whyNoCheese_102 : decode cX5_whyNoCheese 102 = .ok (.aload_n 0, 1) := by decide +kernel
theorem dX5_whyNoCheese_103 : decode cX5_whyNoCheese 103 = .ok (.getfield 28, 3) := by decide +kernel
theorem dX5_whyNoCheese_106 : decode cX5_whyNoCheese 106 = .ok (.iload 5, 2) := by decide +kernel
theorem dX5_whyNoCheese_108 : decode cX5_whyNoCheese 108 = .ok (.iconst 2, 1) := by decide +kernel
theorem dX5_whyNoCheese_109 : decode cX5_whyNoCheese 109 = .ok (.invokevirtual 112, 3) := by decide +kernel
theorem dX5_whyNoCheese_112 : decode cX5_whyNoCheese 112 = .ok (.ifCond .ne 7, 3) := by decide +kernel
theorem dX5_whyNoCheese_115 : decode cX5_whyNoCheese 115 = .ok (.iconst 5, 1) := by decide +kernel
theorem dX5_whyNoCheese_116 : decode cX5_whyNoCheese 116 = .ok (.goto 4, 3) := by decide +kernel
theorem dX5_whyNoCheese_119 : decode cX5_whyNoCheese 119 = .ok (.iconst 0, 1) := by decide +kernel
theorem dX5_whyNoCheese_120 : decode cX5_whyNoCheese 120 = .ok (.ireturn, 1) := by decide +kernel
theorem dX5_makeLogin_0 : decode cX5_makeLogin 0 = .ok (.aload_n 0, 1) := by decide +kernel
theorem dX5_makeLogin_1 : decode cX5_makeLogin 1 = .ok (.iload_n 1, 1) := by decide +kernel
theorem dX5_makeLogin_2 : decode cX5_makeLogin 2 = .ok (.aload_n 0, 1) := by decide +kernel
theorem dX5_makeLogin_3 : decode cX5_makeLogin 3 = .ok (.getfield 21, 3) := by decide +kernel
theorem dX5_makeLogin_6 : decode cX5_makeLogin 6 = .ok (.iload_n 1, 1) := by decide +kernel
theorem dX5_makeLogin_7 : decode cX5_makeLogin 7 = .ok (.iconst 1, 1) := by decide +kernel
theorem dX5_makeLogin_8 : decode cX5_makeLogin 8 = .ok (.invokevirtual 83, 3) := by decide +kernel
theorem dX5_makeLogin_11 : decode cX5_makeLogin 11 = .ok (.iconst (-1), 1) := by decide +kernel
theorem dX5_makeLogin_12 : decode cX5_makeLogin 12 = .ok (.invokevirtual 123, 3) := by decide +kernel
theorem dX5_makeLogin_15 : decode cX5_makeLogin 15 = .ok (.istore_n 3, 1) := by decide +kernel
theorem dX5_makeLogin_16 : decode cX5_makeLogin 16 = .ok (.aload_n 0, 1) := by decide +kernel
theorem dX5_makeLogin_17 : decode cX5_makeLogin 17 = .ok (.iload_n 3, 1) := by decide +kernel
theorem dX5_makeLogin_18 : decode cX5_makeLogin 18 = .ok (.iload_n 2, 1) := by decide +kernel
theorem dX5_makeLogin_19 : decode cX5_makeLogin 19 = .ok (.ldc 127, 2) := by decide +kernel
theorem dX5_makeLogin_21 : decode cX5_makeLogin 21 = .ok (.ldc 127, 2) := by decide +kernel
theorem dX5_makeLogin_23 : decode cX5_makeLogin 23 = .ok (.invokevirtual 128, 3) := by decide +kernel
theorem dX5_makeLogin_26 : decode cX5_makeLogin 26 = .ok (.aload_n 0, 1) := by decide +kernel
theorem dX5_makeLogin_27 : decode cX5_makeLogin 27 = .ok (.getfield 35, 3) := by decide +kernel
theorem dX5_makeLogin_30 : decode cX5_makeLogin 30 = .ok (.iload_n 3, 1) := by decide +kernel
theorem dX5_makeLogin_31 : decode cX5_makeLogin 31 = .ok (.iconst 0, 1) := by decide +kernel
theorem dX5_makeLogin_32 : decode cX5_makeLogin 32 = .ok (.invokevirtual 93, 3) := by decide +kernel
theorem dX5_makeLogin_35 : decode cX5_makeLogin 35 = .ok (.ireturn, 1) := by decide +kernel
theorem dX5_makeReferral_0 : decode cX5_makeReferral 0 = .ok (.aload_n 0, 1) := by decide +kernel
theorem dX5_makeReferral_1 : decode cX5_makeReferral 1 = .ok (.aload_n 0, 1) := by decide +kernel
theorem dX5_makeReferral_2 : decode cX5_makeReferral 2 = .ok (.getfield 35, 3) := by decide +kernel
theorem dX5_makeReferral_5 : decode cX5_makeReferral 5 = .ok (.iload_n 1, 1) := by decide +kernel
theorem dX5_makeReferral_6 : decode cX5_makeReferral 6 = .ok (.iconst 2, 1) := by decide +kernel
theorem dX5_makeReferral_7 : decode cX5_makeReferral 7 = .ok (.invokevirtual 93, 3) := by decide +kernel
theorem dX5_makeReferral_10 : decode cX5_makeReferral 10 = .ok (.iload_n 2, 1) := by decide +kernel
theorem dX5_makeReferral_11 : decode cX5_makeReferral 11 = .ok (.iconst (-1), 1) := by decide +kernel
theorem dX5_makeReferral_12 : decode cX5_makeReferral 12 = .ok (.invokevirtual 123, 3) := by decide +kernel
theorem dX5_makeReferral_15 : decode cX5_makeReferral 15 = .ok (.istore_n 3, 1) := by decide +kernel
theorem dX5_makeReferral_16 : decode cX5_makeReferral 16 = .ok (.aload_n 0, 1) := by decide +kernel
theorem dX5_makeReferral_17 : decode cX5_makeReferral 17 = .ok (.iload_n 3, 1) := by decide +kernel
theorem dX5_makeReferral_18 : decode cX5_makeReferral 18 = .ok (.iload_n 1, 1) := by decide +kernel
theorem dX5_makeReferral_19 : decode cX5_makeReferral 19 = .ok (.invokevirtual 132, 3) := by decide +kernel
theorem dX5_makeReferral_22 : decode cX5_makeReferral 22 = .ok (.aload_n 0, 1) := by decide +kernel
theorem dX5_makeReferral_23 : decode cX5_makeReferral 23 = .ok (.getfield 35, 3) := by decide +kernel
theorem dX5_makeReferral_26 : decode cX5_makeReferral 26 = .ok (.iload_n 3, 1) := by decide +kernel
theorem dX5_makeReferral_27 : decode cX5_makeReferral 27 = .ok (.iconst 0, 1) := by decide +kernel
theorem dX5_makeReferral_28 : decode cX5_makeReferral 28 = .ok (.invokevirtual 93, 3) := by decide +kernel
theorem dX5_makeReferral_31 : decode cX5_makeReferral 31 = .ok (.ireturn, 1) := by decide +kernel
theorem dX5_makeRequest_0 : decode cX5_makeRequest 0 = .ok (.aload_n 0, 1) := by decide +kernel
theorem dX5_makeRequest_1 : decode cX5_makeRequest 1 = .ok (.getfield 35, 3) := by decide +kernel
theorem dX5_makeRequest_4 : decode cX5_makeRequest 4 = .ok (.iload_n 1, 1) := by decide +kernel
theorem dX5_makeRequest_5 : decode cX5_makeRequest 5 = .ok (.iconst 3, 1) := by decide +kernel
theorem dX5_makeRequest_6 : decode cX5_makeRequest 6 = .ok (.invokevirtual 93, 3) := by decide +kernel
theorem dX5_makeRequest_9 : decode cX5_makeRequest 9 = .ok (.istore_n 3, 1) := by decide +kernel
theorem dX5_makeRequest_10 : decode cX5_makeRequest 10 = .ok (.aload_n 0, 1) := by decide +kernel
theorem dX5_makeRequest_11 : decode cX5_makeRequest 11 = .ok (.aload_n 0, 1) := by decide +kernel
theorem dX5_makeRequest_12 : decode cX5_makeRequest 12 = .ok (.getfield 35, 3) := by decide +kernel
theorem dX5_makeRequest_15 : decode cX5_makeRequest 15 = .ok (.iload_n 1, 1) := by decide +kernel
theorem dX5_makeRequest_16 : decode cX5_makeRequest 16 = .ok (.iconst 2, 1) := by decide +kernel
theorem dX5_makeRequest_17 : decode cX5_makeRequest 17 = .ok (.invokevirtual 93, 3) := by decide +kernel
theorem dX5_makeRequest_20 : decode cX5_makeRequest 20 = .ok (.iload_n 3, 1) := by decide +kernel
theorem dX5_makeRequest_21 : decode cX5_makeRequest 21 = .ok (.iload_n 2, 1) := by decide +kernel
theorem dX5_makeRequest_22 : decode cX5_makeRequest 22 = .ok (.invokevirtual 123, 3) := by decide +kernel
theorem dX5_makeRequest_25 : decode cX5_makeRequest 25 = .ok (.istore 4, 2) := by decide +kernel
theorem dX5_makeRequest_27 : decode cX5_makeRequest 27 = .ok (.aload_n 0, 1) := by decide +kernel
theorem dX5_makeRequest_28 : decode cX5_makeRequest 28 = .ok (.iload 4, 2) := by decide +kernel
theorem dX5_makeRequest_30 : decode cX5_makeRequest 30 = .ok (.iload_n 1, 1) := by decide +kernel
theorem dX5_makeRequest_31 : decode cX5_makeRequest 31 = .ok (.invokevirtual 132, 3) := by decide +kernel
theorem dX5_makeRequest_34 : decode cX5_makeRequest 34 = .ok (.aload_n 0, 1) := by decide +kernel
theorem dX5_makeRequest_35 : decode cX5_makeRequest 35 = .ok (.getfield 35, 3) := by decide +kernel
theorem dX5_makeRequest_38 : decode cX5_makeRequest 38 = .ok (.iload 4, 2) := by decide +kernel
theorem dX5_makeRequest_40 : decode cX5_makeRequest 40 = .ok (.iconst 0, 1) := by decide +kernel
theorem dX5_makeRequest_41 : decode cX5_makeRequest 41 = .ok (.invokevirtual 93, 3) := by decide +kernel
theorem dX5_makeRequest_44 : decode cX5_makeRequest 44 = .ok (.ireturn, 1) := by decide +kernel
theorem dX5_makeRenewal_0 : decode cX5_makeRenewal 0 = .ok (.aload_n 0, 1) := by decide +kernel
theorem dX5_makeRenewal_1 : decode cX5_makeRenewal 1 = .ok (.iload_n 1, 1) := by decide +kernel
theorem dX5_makeRenewal_2 : decode cX5_makeRenewal 2 = .ok (.invokevirtual 116, 3) := by decide +kernel
theorem dX5_makeRenewal_5 : decode cX5_makeRenewal 5 = .ok (.istore_n 2, 1) := by decide +kernel
theorem dX5_makeRenewal_6 : decode cX5_makeRenewal 6 = .ok (.aload_n 0, 1) := by decide +kernel
theorem dX5_makeRenewal_7 : decode cX5_makeRenewal 7 = .ok (.getfield 35, 3) := by decide +kernel
theorem dX5_makeRenewal_10 : decode cX5_makeRenewal 10 = .ok (.iload_n 1, 1) := by decide +kernel
theorem dX5_makeRenewal_11 : decode cX5_makeRenewal 11 = .ok (.bipush 6, 2) := by decide +kernel
theorem dX5_makeRenewal_13 : decode cX5_makeRenewal 13 = .ok (.iload_n 2, 1) := by decide +kernel
theorem dX5_makeRenewal_14 : decode cX5_makeRenewal 14 = .ok (.invokevirtual 136, 3) := by decide +kernel
theorem dX5_makeRenewal_17 : decode cX5_makeRenewal 17 = .ok (.aload_n 0, 1) := by decide +kernel
theorem dX5_makeRenewal_18 : decode cX5_makeRenewal 18 = .ok (.getfield 35, 3) := by decide +kernel
theorem dX5_makeRenewal_21 : decode cX5_makeRenewal 21 = .ok (.iload_n 1, 1) := by decide +kernel
theorem dX5_makeRenewal_22 : decode cX5_makeRenewal 22 = .ok (.bipush 8, 2) := by decide +kernel
theorem dX5_makeRenewal_24 : decode cX5_makeRenewal 24 = .ok (.aload_n 0, 1) := by decide +kernel
theorem dX5_makeRenewal_25 : decode cX5_makeRenewal 25 = .ok (.invokevirtual 140, 3) := by decide +kernel
theorem dX5_makeRenewal_28 : decode cX5_makeRenewal 28 = .ok (.invokevirtual 136, 3) := by decide +kernel
theorem dX5_makeRenewal_31 : decode cX5_makeRenewal 31 = .ok (.iload_n 2, 1) := by decide +kernel
theorem dX5_makeRenewal_32 : decode cX5_makeRenewal 32 = .ok (.ireturn, 1) := by decide +kernel
theorem dX5_giveCheese_0 : decode cX5_giveCheese 0 = .ok (.aload_n 0, 1) := by decide +kernel
theorem dX5_giveCheese_1 : decode cX5_giveCheese 1 = .ok (.getfield 35, 3) := by decide +kernel
theorem dX5_giveCheese_4 : decode cX5_giveCheese 4 = .ok (.iload_n 1, 1) := by decide +kernel
theorem dX5_giveCheese_5 : decode cX5_giveCheese 5 = .ok (.iconst 2, 1) := by decide +kernel
theorem dX5_giveCheese_6 : decode cX5_giveCheese 6 = .ok (.invokevirtual 93, 3) := by decide +kernel
theorem dX5_giveCheese_9 : decode cX5_giveCheese 9 = .ok (.istore_n 2, 1) := by decide +kernel
theorem dX5_giveCheese_10 : decode cX5_giveCheese 10 = .ok (.aload_n 0, 1) := by decide +kernel
theorem dX5_giveCheese_11 : decode cX5_giveCheese 11 = .ok (.getfield 35, 3) := by decide +kernel
theorem dX5_giveCheese_14 : decode cX5_giveCheese 14 = .ok (.iload_n 1, 1) := by decide +kernel
theorem dX5_giveCheese_15 : decode cX5_giveCheese 15 = .ok (.iconst 4, 1) := by decide +kernel
theorem dX5_giveCheese_16 : decode cX5_giveCheese 16 = .ok (.invokevirtual 93, 3) := by decide +kernel
theorem dX5_giveCheese_19 : decode cX5_giveCheese 19 = .ok (.istore_n 3, 1) := by decide +kernel
theorem dX5_giveCheese_20 : decode cX5_giveCheese 20 = .ok (.aload_n 0, 1) := by decide +kernel
theorem dX5_giveCheese_21 : decode cX5_giveCheese 21 = .ok (.getfield 21, 3) := by decide +kernel
theorem dX5_giveCheese_24 : decode cX5_giveCheese 24 = .ok (.iload_n 2, 1) := by decide +kernel
theorem dX5_giveCheese_25 : decode cX5_giveCheese 25 = .ok (.iconst 4, 1) := by decide +kernel
theorem dX5_giveCheese_26 : decode cX5_giveCheese 26 = .ok (.invokevirtual 83, 3) := by decide +kernel
theorem dX5_giveCheese_29 : decode cX5_giveCheese 29 = .ok (.iconst 1, 1) := by decide +kernel
theorem dX5_giveCheese_30 : decode cX5_giveCheese 30 = .ok (.iadd, 1) := by decide +kernel
theorem dX5_giveCheese_31 : decode cX5_giveCheese 31 = .ok (.istore 4, 2) := by decide +kernel
theorem dX5_giveCheese_33 : decode cX5_giveCheese 33 = .ok (.aload_n 0, 1) := by decide +kernel
theorem dX5_giveCheese_34 : decode cX5_giveCheese 34 = .ok (.getfield 42, 3) := by decide +kernel
theorem dX5_giveCheese_37 : decode cX5_giveCheese 37 = .ok (.iload_n 2, 1) := by decide +kernel
theorem dX5_giveCheese_38 : decode cX5_giveCheese 38 = .ok (.iload_n 3, 1) := by decide +kernel
theorem dX5_giveCheese_39 : decode cX5_giveCheese 39 = .ok (.aload_n 0, 1) := by decide +kernel
theorem dX5_giveCheese_40 : decode cX5_giveCheese 40 = .ok (.getfield 53, 3) := by decide +kernel
theorem dX5_giveCheese_43 : decode cX5_giveCheese 43 = .ok (.aload_n 0, 1) := by decide +kernel
theorem dX5_giveCheese_44 : decode cX5_giveCheese 44 = .ok (.getfield 21, 3) := by decide +kernel
theorem dX5_giveCheese_47 : decode cX5_giveCheese 47 = .ok (.iload_n 2, 1) := by decide +kernel
theorem dX5_giveCheese_48 : decode cX5_giveCheese 48 = .ok (.iconst 3, 1) := by decide +kernel
theorem dX5_giveCheese_49 : decode cX5_giveCheese 49 = .ok (.invokevirtual 83, 3) := by decide +kernel
theorem dX5_giveCheese_52 : decode cX5_giveCheese 52 = .ok (.iadd, 1) := by decide +kernel
theorem dX5_giveCheese_53 : decode cX5_giveCheese 53 = .ok (.aload_n 0, 1) := by decide +kernel
theorem dX5_giveCheese_54 : decode cX5_giveCheese 54 = .ok (.getfield 53, 3) := by decide +kernel
theorem dX5_giveCheese_57 : decode cX5_giveCheese 57 = .ok (.invokevirtual 144, 3) := by decide +kernel
theorem dX5_giveCheese_60 : decode cX5_giveCheese 60 = .ok (.aload_n 0, 1) := by decide +kernel
theorem dX5_giveCheese_61 : decode cX5_giveCheese 61 = .ok (.getfield 28, 3) := by decide +kernel
theorem dX5_giveCheese_64 : decode cX5_giveCheese 64 = .ok (.iload_n 3, 1) := by decide +kernel
theorem dX5_giveCheese_65 : decode cX5_giveCheese 65 = .ok (.iconst 2, 1) := by decide +kernel
theorem dX5_giveCheese_66 : decode cX5_giveCheese 66 = .ok (.aload_n 0, 1) := by decide +kernel
theorem dX5_giveCheese_67 : decode cX5_giveCheese 67 = .ok (.getfield 28, 3) := by decide +kernel
theorem dX5_giveCheese_70 : decode cX5_giveCheese 70 = .ok (.iload_n 3, 1) := by decide +kernel
theorem dX5_giveCheese_71 : decode cX5_giveCheese 71 = .ok (.iconst 2, 1) := by decide +kernel
theorem dX5_giveCheese_72 : decode cX5_giveCheese 72 = .ok (.invokevirtual 112, 3) := by decide +kernel
theorem dX5_giveCheese_75 : decode cX5_giveCheese 75 = .ok (.iconst 1, 1) := by decide +kernel
theorem dX5_giveCheese_76 : decode cX5_giveCheese 76 = .ok (.isub, 1) := by decide +kernel
theorem dX5_giveCheese_77 : decode cX5_giveCheese 77 = .ok (.invokevirtual 148, 3) := by decide +kernel
theorem dX5_giveCheese_80 : decode cX5_giveCheese 80 = .ok (.aload_n 0, 1) := by decide +kernel
theorem dX5_giveCheese_81 : decode cX5_giveCheese 81 = .ok (.getfield 21, 3) := by decide +kernel
theorem dX5_giveCheese_84 : decode cX5_giveCheese 84 = .ok (.iload_n 2, 1) := by decide +kernel
theorem dX5_giveCheese_85 : decode cX5_giveCheese 85 = .ok (.iconst 4, 1) := by decide +kernel
theorem dX5_giveCheese_86 : decode cX5_giveCheese 86 = .ok (.iload 4, 2) := by decide +kernel
theorem dX5_giveCheese_88 : decode cX5_giveCheese 88 = .ok (.invokevirtual 149, 3) := by decide +kernel
theorem dX5_giveCheese_91 : decode cX5_giveCheese 91 = .ok (.iload 4, 2) := by decide +kernel
theorem dX5_giveCheese_93 : decode cX5_giveCheese 93 = .ok (.ireturn, 1) := by decide +kernel
theorem dX5_letPass_0 : decode cX5_letPass 0 = .ok (.aload_n 0, 1) := by decide +kernel
theorem dX5_letPass_1 : decode cX5_letPass 1 = .ok (.dup, 1) := by decide +kernel
theorem dX5_letPass_2 : decode cX5_letPass 2 = .ok (.getfield 53, 3) := by decide +kernel
theorem dX5_letPass_5 : decode cX5_letPass 5 = .ok (.iload_n 1, 1) := by decide +kernel
theorem dX5_letPass_6 : decode cX5_letPass 6 = .ok (.iadd, 1) := by decide +kernel
theorem dX5_letPass_7 : decode cX5_letPass 7 = .ok (.putfield 53, 3) := by decide +kernel
theorem dX5_letPass_10 : decode cX5_letPass 10 = .ok (.aload_n 0, 1) := by decide +kernel
theorem dX5_letPass_11 : decode cX5_letPass 11 = .ok (.getfield 42, 3) := by decide +kernel
theorem dX5_letPass_14 : decode cX5_letPass 14 = .ok (.aload_n 0, 1) := by decide +kernel
theorem dX5_letPass_15 : decode cX5_letPass 15 = .ok (.getfield 53, 3) := by decide +kernel
theorem dX5_letPass_18 : decode cX5_letPass 18 = .ok (.aload_n 0, 1) := by decide +kernel
theorem dX5_letPass_19 : decode cX5_letPass 19 = .ok (.getfield 57, 3) := by decide +kernel
theorem dX5_letPass_22 : decode cX5_letPass 22 = .ok (.isub, 1) := by decide +kernel
theorem dX5_letPass_23 : decode cX5_letPass 23 = .ok (.invokevirtual 150, 3) := by decide +kernel
theorem dX5_letPass_26 : decode cX5_letPass 26 = .ok (.return_, 1) := by decide +kernel
theorem dX5_renewedEnd_0 : decode cX5_renewedEnd 0 = .ok (.aload_n 0, 1) := by decide +kernel
theorem dX5_renewedEnd_1 : decode cX5_renewedEnd 1 = .ok (.getfield 35, 3) := by decide +kernel
theorem dX5_renewedEnd_4 : decode cX5_renewedEnd 4 = .ok (.iload_n 1, 1) := by decide +kernel
theorem dX5_renewedEnd_5 : decode cX5_renewedEnd 5 = .ok (.iconst 3, 1) := by decide +kernel
theorem dX5_renewedEnd_6 : decode cX5_renewedEnd 6 = .ok (.invokevirtual 93, 3) := by decide +kernel
theorem dX5_renewedEnd_9 : decode cX5_renewedEnd 9 = .ok (.istore_n 2, 1) := by decide +kernel
theorem dX5_renewedEnd_10 : decode cX5_renewedEnd 10 = .ok (.aload_n 0, 1) := by decide +kernel
theorem dX5_renewedEnd_11 : decode cX5_renewedEnd 11 = .ok (.getfield 53, 3) := by decide +kernel
theorem dX5_renewedEnd_14 : decode cX5_renewedEnd 14 = .ok (.aload_n 0, 1) := by decide +kernel
theorem dX5_renewedEnd_15 : decode cX5_renewedEnd 15 = .ok (.getfield 12, 3) := by decide +kernel
theorem dX5_renewedEnd_18 : decode cX5_renewedEnd 18 = .ok (.iload_n 2, 1) := by decide +kernel
theorem dX5_renewedEnd_19 : decode cX5_renewedEnd 19 = .ok (.iconst 1, 1) := by decide +kernel
theorem dX5_renewedEnd_20 : decode cX5_renewedEnd 20 = .ok (.invokevirtual 86, 3) := by decide +kernel
theorem dX5_renewedEnd_23 : decode cX5_renewedEnd 23 = .ok (.iadd, 1) := by decide +kernel
theorem dX5_renewedEnd_24 : decode cX5_renewedEnd 24 = .ok (.istore_n 3, 1) := by decide +kernel
theorem dX5_renewedEnd_25 : decode cX5_renewedEnd 25 = .ok (.iload_n 3, 1) := by decide +kernel
theorem dX5_renewedEnd_26 : decode cX5_renewedEnd 26 = .ok (.aload_n 0, 1) := by decide +kernel
theorem dX5_renewedEnd_27 : decode cX5_renewedEnd 27 = .ok (.getfield 35, 3) := by decide +kernel
theorem dX5_renewedEnd_30 : decode cX5_renewedEnd 30 = .ok (.iload_n 1, 1) := by decide +kernel
theorem dX5_renewedEnd_31 : decode cX5_renewedEnd 31 = .ok (.bipush 7, 2) := by decide +kernel
theorem dX5_renewedEnd_33 : decode cX5_renewedEnd 33 = .ok (.invokevirtual 93, 3) := by decide +kernel
theorem dX5_renewedEnd_36 : decode cX5_renewedEnd 36 = .ok (.invokestatic 154, 3) := by decide +kernel
theorem dX5_renewedEnd_39 : decode cX5_renewedEnd 39 = .ok (.ireturn, 1) := by decide +kernel
theorem dX5_drawKey_0 : decode cX5_drawKey 0 = .ok (.aload_n 0, 1) := by decide +kernel
theorem dX5_drawKey_1 : decode cX5_drawKey 1 = .ok (.bipush 21, 2) := by decide +kernel
theorem dX5_drawKey_3 : decode cX5_drawKey 3 = .ok (.aload_n 0, 1) := by decide +kernel
theorem dX5_drawKey_4 : decode cX5_drawKey 4 = .ok (.getfield 60, 3) := by decide +kernel
theorem dX5_drawKey_7 : decode cX5_drawKey 7 = .ok (.imul, 1) := by decide +kernel
theorem dX5_drawKey_8 : decode cX5_drawKey 8 = .ok (.bipush 7, 2) := by decide +kernel
theorem dX5_drawKey_10 : decode cX5_drawKey 10 = .ok (.iadd, 1) := by decide +kernel
theorem dX5_drawKey_11 : decode cX5_drawKey 11 = .ok (.sipush 1024, 3) := by decide +kernel
theorem dX5_drawKey_14 : decode cX5_drawKey 14 = .ok (.irem, 1) := by decide +kernel
theorem dX5_drawKey_15 : decode cX5_drawKey 15 = .ok (.putfield 60, 3) := by decide +kernel
theorem dX5_drawKey_18 : decode cX5_drawKey 18 = .ok (.aload_n 0, 1) := by decide +kernel
theorem dX5_drawKey_19 : decode cX5_drawKey 19 = .ok (.getfield 60, 3) := by decide +kernel
theorem dX5_drawKey_22 : decode cX5_drawKey 22 = .ok (.ireturn, 1) := by decide +kernel
theorem dX5_makeTicket_0 : decode cX5_makeTicket 0 = .ok (.aload_n 0, 1) := by decide +kernel
theorem dX5_makeTicket_1 : decode cX5_makeTicket 1 = .ok (.getfield 35, 3) := by decide +kernel
theorem dX5_makeTicket_4 : decode cX5_makeTicket 4 = .ok (.invokevirtual 157, 3) := by decide +kernel
theorem dX5_makeTicket_7 : decode cX5_makeTicket 7 = .ok (.istore 4, 2) := by decide +kernel
theorem dX5_makeTicket_9 : decode cX5_makeTicket 9 = .ok (.aload_n 0, 1) := by decide +kernel
theorem dX5_makeTicket_10 : decode cX5_makeTicket 10 = .ok (.getfield 35, 3) := by decide +kernel
theorem dX5_makeTicket_13 : decode cX5_makeTicket 13 = .ok (.iload 4, 2) := by decide +kernel
theorem dX5_makeTicket_15 : decode cX5_makeTicket 15 = .ok (.iconst 0, 1) := by decide +kernel
theorem dX5_makeTicket_16 : decode cX5_makeTicket 16 = .ok (.aload_n 0, 1) := by decide +kernel
theorem dX5_makeTicket_17 : decode cX5_makeTicket 17 = .ok (.getfield 63, 3) := by decide +kernel
theorem dX5_makeTicket_20 : decode cX5_makeTicket 20 = .ok (.invokevirtual 136, 3) := by decide +kernel
theorem dX5_makeTicket_23 : decode cX5_makeTicket 23 = .ok (.aload_n 0, 1) := by decide +kernel
theorem dX5_makeTicket_24 : decode cX5_makeTicket 24 = .ok (.getfield 35, 3) := by decide +kernel
theorem dX5_makeTicket_27 : decode cX5_makeTicket 27 = .ok (.iload 4, 2) := by decide +kernel
theorem dX5_makeTicket_29 : decode cX5_makeTicket 29 = .ok (.iconst 1, 1) := by decide +kernel
theorem dX5_makeTicket_30 : decode cX5_makeTicket 30 = .ok (.iload_n 3, 1) := by decide +kernel
theorem dX5_makeTicket_31 : decode cX5_makeTicket 31 = .ok (.iconst (-1), 1) := by decide +kernel
theorem dX5_makeTicket_32 : decode cX5_makeTicket 32 = .ok (.if_icmp .ne 7, 3) := by decide +kernel
theorem dX5_makeTicket_35 : decode cX5_makeTicket 35 = .ok (.iconst 0, 1) := by decide +kernel
theorem dX5_makeTicket_36 : decode cX5_makeTicket 36 = .ok (.goto 4, 3) := by decide +kernel
theorem dX5_makeTicket_39 : decode cX5_makeTicket 39 = .ok (.iconst 1, 1) := by decide +kernel
theorem dX5_makeTicket_40 : decode cX5_makeTicket 40 = .ok (.invokevirtual 136, 3) := by decide +kernel
theorem dX5_makeTicket_43 : decode cX5_makeTicket 43 = .ok (.aload_n 0, 1) := by decide +kernel
theorem dX5_makeTicket_44 : decode cX5_makeTicket 44 = .ok (.getfield 35, 3) := by decide +kernel
theorem dX5_makeTicket_47 : decode cX5_makeTicket 47 = .ok (.iload 4, 2) := by decide +kernel
theorem dX5_makeTicket_49 : decode cX5_makeTicket 49 = .ok (.iconst 2, 1) := by decide +kernel
theorem dX5_makeTicket_50 : decode cX5_makeTicket 50 = .ok (.iload_n 1, 1) := by decide +kernel
theorem dX5_makeTicket_51 : decode cX5_makeTicket 51 = .ok (.invokevirtual 136, 3) := by decide +kernel
theorem dX5_makeTicket_54 : decode cX5_makeTicket 54 = .ok (.aload_n 0, 1) := by decide +kernel
theorem dX5_makeTicket_55 : decode cX5_makeTicket 55 = .ok (.getfield 35, 3) := by decide +kernel
theorem dX5_makeTicket_58 : decode cX5_makeTicket 58 = .ok (.iload 4, 2) := by decide +kernel
theorem dX5_makeTicket_60 : decode cX5_makeTicket 60 = .ok (.iconst 3, 1) := by decide +kernel
theorem dX5_makeTicket_61 : decode cX5_makeTicket 61 = .ok (.iload_n 2, 1) := by decide +kernel
theorem dX5_makeTicket_62 : decode cX5_makeTicket 62 = .ok (.invokevirtual 136, 3) := by decide +kernel
theorem dX5_makeTicket_65 : decode cX5_makeTicket 65 = .ok (.aload_n 0, 1) := by decide +kernel
theorem dX5_makeTicket_66 : decode cX5_makeTicket 66 = .ok (.getfield 35, 3) := by decide +kernel
theorem dX5_makeTicket_69 : decode cX5_makeTicket 69 = .ok (.iload 4, 2) := by decide +kernel
theorem dX5_makeTicket_71 : decode cX5_makeTicket 71 = .ok (.iconst 4, 1) := by decide +kernel
theorem dX5_makeTicket_72 : decode cX5_makeTicket 72 = .ok (.iload_n 3, 1) := by decide +kernel
theorem dX5_makeTicket_73 : decode cX5_makeTicket 73 = .ok (.invokevirtual 136, 3) := by decide +kernel
theorem dX5_makeTicket_76 : decode cX5_makeTicket 76 = .ok (.aload_n 0, 1) := by decide +kernel
theorem dX5_makeTicket_77 : decode cX5_makeTicket 77 = .ok (.getfield 35, 3) := by decide +kernel
theorem dX5_makeTicket_80 : decode cX5_makeTicket 80 = .ok (.iload 4, 2) := by decide +kernel
theorem dX5_makeTicket_82 : decode cX5_makeTicket 82 = .ok (.iconst 5, 1) := by decide +kernel
theorem dX5_makeTicket_83 : decode cX5_makeTicket 83 = .ok (.aload_n 0, 1) := by decide +kernel
theorem dX5_makeTicket_84 : decode cX5_makeTicket 84 = .ok (.getfield 53, 3) := by decide +kernel
theorem dX5_makeTicket_87 : decode cX5_makeTicket 87 = .ok (.invokevirtual 136, 3) := by decide +kernel
theorem dX5_makeTicket_90 : decode cX5_makeTicket 90 = .ok (.aload_n 0, 1) := by decide +kernel
theorem dX5_makeTicket_91 : decode cX5_makeTicket 91 = .ok (.getfield 35, 3) := by decide +kernel
theorem dX5_makeTicket_94 : decode cX5_makeTicket 94 = .ok (.iload 4, 2) := by decide +kernel
theorem dX5_makeTicket_96 : decode cX5_makeTicket 96 = .ok (.bipush 8, 2) := by decide +kernel
theorem dX5_makeTicket_98 : decode cX5_makeTicket 98 = .ok (.aload_n 0, 1) := by decide +kernel
theorem dX5_makeTicket_99 : decode cX5_makeTicket 99 = .ok (.invokevirtual 140, 3) := by decide +kernel
theorem dX5_makeTicket_102 : decode cX5_makeTicket 102 = .ok (.invokevirtual 136, 3) := by decide +kernel
theorem dX5_makeTicket_105 : decode cX5_makeTicket 105 = .ok (.aload_n 0, 1) := by decide +kernel
theorem dX5_makeTicket_106 : decode cX5_makeTicket 106 = .ok (.dup, 1) := by decide +kernel
theorem dX5_makeTicket_107 : decode cX5_makeTicket 107 = .ok (.getfield 63, 3) := by decide +kernel
theorem dX5_makeTicket_110 : decode cX5_makeTicket 110 = .ok (.iconst 1, 1) := by decide +kernel
theorem dX5_makeTicket_111 : decode cX5_makeTicket 111 = .ok (.iadd, 1) := by decide +kernel
theorem dX5_makeTicket_112 : decode cX5_makeTicket 112 = .ok (.putfield 63, 3) := by decide +kernel
theorem dX5_makeTicket_115 : decode cX5_makeTicket 115 = .ok (.iload 4, 2) := by decide +kernel
theorem dX5_makeTicket_117 : decode cX5_makeTicket 117 = .ok (.ireturn, 1) := by decide +kernel
theorem dX5_inheritLife_0 : decode cX5_inheritLife 0 = .ok (.aload_n 0, 1) := by decide +kernel
theorem dX5_inheritLife_1 : decode cX5_inheritLife 1 = .ok (.getfield 35, 3) := by decide +kernel
theorem dX5_inheritLife_4 : decode cX5_inheritLife 4 = .ok (.iload_n 2, 1) := by decide +kernel
theorem dX5_inheritLife_5 : decode cX5_inheritLife 5 = .ok (.bipush 6, 2) := by decide +kernel
theorem dX5_inheritLife_7 : decode cX5_inheritLife 7 = .ok (.invokevirtual 93, 3) := by decide +kernel
theorem dX5_inheritLife_10 : decode cX5_inheritLife 10 = .ok (.istore_n 3, 1) := by decide +kernel
theorem dX5_inheritLife_11 : decode cX5_inheritLife 11 = .ok (.aload_n 0, 1) := by decide +kernel
theorem dX5_inheritLife_12 : decode cX5_inheritLife 12 = .ok (.iload_n 1, 1) := by decide +kernel
theorem dX5_inheritLife_13 : decode cX5_inheritLife 13 = .ok (.aload_n 0, 1) := by decide +kernel
theorem dX5_inheritLife_14 : decode cX5_inheritLife 14 = .ok (.getfield 35, 3) := by decide +kernel
theorem dX5_inheritLife_17 : decode cX5_inheritLife 17 = .ok (.iload_n 2, 1) := by decide +kernel
theorem dX5_inheritLife_18 : decode cX5_inheritLife 18 = .ok (.invokevirtual 113, 3) := by decide +kernel
theorem dX5_inheritLife_21 : decode cX5_inheritLife 21 = .ok (.iload_n 3, 1) := by decide +kernel
theorem dX5_inheritLife_22 : decode cX5_inheritLife 22 = .ok (.aload_n 0, 1) := by decide +kernel
theorem dX5_inheritLife_23 : decode cX5_inheritLife 23 = .ok (.getfield 35, 3) := by decide +kernel
theorem dX5_inheritLife_26 : decode cX5_inheritLife 26 = .ok (.iload_n 2, 1) := by decide +kernel
theorem dX5_inheritLife_27 : decode cX5_inheritLife 27 = .ok (.bipush 7, 2) := by decide +kernel
theorem dX5_inheritLife_29 : decode cX5_inheritLife 29 = .ok (.invokevirtual 93, 3) := by decide +kernel
theorem dX5_inheritLife_32 : decode cX5_inheritLife 32 = .ok (.invokevirtual 128, 3) := by decide +kernel
theorem dX5_inheritLife_35 : decode cX5_inheritLife 35 = .ok (.return_, 1) := by decide +kernel
theorem dX5_setLife_0 : decode cX5_setLife 0 = .ok (.aload_n 0, 1) := by decide +kernel
theorem dX5_setLife_1 : decode cX5_setLife 1 = .ok (.getfield 35, 3) := by decide +kernel
theorem dX5_setLife_4 : decode cX5_setLife 4 = .ok (.iload_n 1, 1) := by decide +kernel
theorem dX5_setLife_5 : decode cX5_setLife 5 = .ok (.iconst 3, 1) := by decide +kernel
theorem dX5_setLife_6 : decode cX5_setLife 6 = .ok (.invokevirtual 93, 3) := by decide +kernel
theorem dX5_setLife_9 : decode cX5_setLife 9 = .ok (.istore 5, 2) := by decide +kernel
theorem dX5_setLife_11 : decode cX5_setLife 11 = .ok (.aload_n 0, 1) := by decide +kernel
theorem dX5_setLife_12 : decode cX5_setLife 12 = .ok (.getfield 53, 3) := by decide +kernel
theorem dX5_setLife_15 : decode cX5_setLife 15 = .ok (.aload_n 0, 1) := by decide +kernel
theorem dX5_setLife_16 : decode cX5_setLife 16 = .ok (.getfield 12, 3) := by decide +kernel
theorem dX5_setLife_19 : decode cX5_setLife 19 = .ok (.iload 5, 2) := by decide +kernel
theorem dX5_setLife_21 : decode cX5_setLife 21 = .ok (.iconst 1, 1) := by decide +kernel
theorem dX5_setLife_22 : decode cX5_setLife 22 = .ok (.invokevirtual 86, 3) := by decide +kernel
theorem dX5_setLife_25 : decode cX5_setLife 25 = .ok (.iadd, 1) := by decide +kernel
theorem dX5_setLife_26 : decode cX5_setLife 26 = .ok (.iload_n 3, 1) := by decide +kernel
theorem dX5_setLife_27 : decode cX5_setLife 27 = .ok (.invokestatic 154, 3) := by decide +kernel
theorem dX5_setLife_30 : decode cX5_setLife 30 = .ok (.istore 6, 2) := by decide +kernel
theorem dX5_setLife_32 : decode cX5_setLife 32 = .ok (.aload_n 0, 1) := by decide +kernel
theorem dX5_setLife_33 : decode cX5_setLife 33 = .ok (.getfield 53, 3) := by decide +kernel
theorem dX5_setLife_36 : decode cX5_setLife 36 = .ok (.aload_n 0, 1) := by decide +kernel
theorem dX5_setLife_37 : decode cX5_setLife 37 = .ok (.getfield 12, 3) := by decide +kernel
theorem dX5_setLife_40 : decode cX5_setLife 40 = .ok (.iload 5, 2) := by decide +kernel
theorem dX5_setLife_42 : decode cX5_setLife 42 = .ok (.iconst 2, 1) := by decide +kernel
theorem dX5_setLife_43 : decode cX5_setLife 43 = .ok (.invokevirtual 86, 3) := by decide +kernel
theorem dX5_setLife_46 : decode cX5_setLife 46 = .ok (.iadd, 1) := by decide +kernel
theorem dX5_setLife_47 : decode cX5_setLife 47 = .ok (.iload 4, 2) := by decide +kernel
theorem dX5_setLife_49 : decode cX5_setLife 49 = .ok (.invokestatic 154, 3) := by decide +kernel
theorem dX5_setLife_52 : decode cX5_setLife 52 = .ok (.istore 7, 2) := by decide +kernel
theorem dX5_setLife_54 : decode cX5_setLife 54 = .ok (.aload_n 0, 1) := by decide +kernel
theorem dX5_setLife_55 : decode cX5_setLife 55 = .ok (.getfield 35, 3) := by decide +kernel
theorem dX5_setLife_58 : decode cX5_setLife 58 = .ok (.iload_n 1, 1) := by decide +kernel
theorem dX5_setLife_59 : decode cX5_setLife 59 = .ok (.bipush 6, 2) := by decide +kernel
theorem dX5_setLife_61 : decode cX5_setLife 61 = .ok (.iload 6, 2) := by decide +kernel
theorem dX5_setLife_63 : decode cX5_setLife 63 = .ok (.invokevirtual 136, 3) := by decide +kernel
theorem dX5_setLife_66 : decode cX5_setLife 66 = .ok (.aload_n 0, 1) := by decide +kernel
theorem dX5_setLife_67 : decode cX5_setLife 67 = .ok (.getfield 35, 3) := by decide +kernel
theorem dX5_setLife_70 : decode cX5_setLife 70 = .ok (.iload_n 1, 1) := by decide +kernel
theorem dX5_setLife_71 : decode cX5_setLife 71 = .ok (.bipush 7, 2) := by decide +kernel
theorem dX5_setLife_73 : decode cX5_setLife 73 = .ok (.iload_n 2, 1) := by decide +kernel
theorem dX5_setLife_74 : decode cX5_setLife 74 = .ok (.ifCond .eq 13, 3) := by decide +kernel
theorem dX5_setLife_77 : decode cX5_setLife 77 = .ok (.iload 6, 2) := by decide +kernel
theorem dX5_setLife_79 : decode cX5_setLife 79 = .ok (.iload 7, 2) := by decide +kernel
theorem dX5_setLife_81 : decode cX5_setLife 81 = .ok (.invokestatic 160, 3) := by decide +kernel
theorem dX5_setLife_84 : decode cX5_setLife 84 = .ok (.goto 5, 3) := by decide +kernel
theorem dX5_setLife_87 : decode cX5_setLife 87 = .ok (.iload 6, 2) := by decide +kernel
theorem dX5_setLife_89 : decode cX5_setLife 89 = .ok (.invokevirtual 136, 3) := by decide +kernel
theorem dX5_setLife_92 : decode cX5_setLife 92 = .ok (.aload_n 0, 1) := by decide +kernel
theorem dX5_setLife_93 : decode cX5_setLife 93 = .ok (.getfield 35, 3) := by decide +kernel
theorem dX5_setLife_96 : decode cX5_setLife 96 = .ok (.iload_n 1, 1) := by decide +kernel
theorem dX5_setLife_97 : decode cX5_setLife 97 = .ok (.bipush 9, 2) := by decide +kernel
theorem dX5_setLife_99 : decode cX5_setLife 99 = .ok (.iload_n 2, 1) := by decide +kernel
theorem dX5_setLife_100 : decode cX5_setLife 100 = .ok (.ifCond .eq 7, 3) := by decide +kernel
theorem dX5_setLife_103 : decode cX5_setLife 103 = .ok (.iconst 1, 1) := by decide +kernel
theorem dX5_setLife_104 : decode cX5_setLife 104 = .ok (.goto 4, 3) := by decide +kernel
theorem dX5_setLife_107 : decode cX5_setLife 107 = .ok (.iconst 0, 1) := by decide +kernel
theorem dX5_setLife_108 : decode cX5_setLife 108 = .ok (.invokevirtual 136, 3) := by decide +kernel
theorem dX5_setLife_111 : decode cX5_setLife 111 = .ok (.return_, 1) := by decide +kernel
theorem dX6_init_0 : decode cX6_init 0 = .ok (.aload_n 0, 1) := by decide +kernel
theorem dX6_init_1 : decode cX6_init 1 = .ok (.invokespecial 3, 3) := by decide +kernel
theorem dX6_init_4 : decode cX6_init 4 = .ok (.aload_n 0, 1) := by decide +kernel
theorem dX6_init_5 : decode cX6_init 5 = .ok (.iload_n 1, 1) := by decide +kernel
theorem dX6_init_6 : decode cX6_init 6 = .ok (.putfield 9, 3) := by decide +kernel
theorem dX6_init_9 : decode cX6_init 9 = .ok (.aload_n 0, 1) := by decide +kernel
theorem dX6_init_10 : decode cX6_init 10 = .ok (.iload_n 2, 1) := by decide +kernel
theorem dX6_init_11 : decode cX6_init 11 = .ok (.putfield 15, 3) := by decide +kernel
theorem dX6_init_14 : decode cX6_init 14 = .ok (.aload_n 0, 1) := by decide +kernel
theorem dX6_init_15 : decode cX6_init 15 = .ok (.iconst 0, 1) := by decide +kernel
theorem dX6_init_16 : decode cX6_init 16 = .ok (.iload_n 1, 1) := by decide +kernel
theorem dX6_init_17 : decode cX6_init 17 = .ok (.iload_n 2, 1) := by decide +kernel
theorem dX6_init_18 : decode cX6_init 18 = .ok (.imul, 1) := by decide +kernel
theorem dX6_init_19 : decode cX6_init 19 = .ok (.invokestatic 18, 3) := by decide +kernel
theorem dX6_init_22 : decode cX6_init 22 = .ok (.newarray .int, 2) := by decide +kernel
theorem dX6_init_24 : decode cX6_init 24 = .ok (.putfield 24, 3) := by decide +kernel
theorem dX6_init_27 : decode cX6_init 27 = .ok (.return_, 1) := by decide +kernel
theorem dX6_size_0 : decode cX6_size 0 = .ok (.aload_n 0, 1) := by decide +kernel
theorem dX6_size_1 : decode cX6_size 1 = .ok (.getfield 28, 3) := by decide +kernel
theorem dX6_size_4 : decode cX6_size 4 = .ok (.ireturn, 1) := by decide +kernel
theorem dX6_isFull_0 : decode cX6_isFull 0 = .ok (.aload_n 0, 1) := by decide +kernel
theorem dX6_isFull_1 : decode cX6_isFull 1 = .ok (.getfield 28, 3) := by decide +kernel
theorem dX6_isFull_4 : decode cX6_isFull 4 = .ok (.aload_n 0, 1) := by decide +kernel
theorem dX6_isFull_5 : decode cX6_isFull 5 = .ok (.getfield 9, 3) := by decide +kernel
theorem dX6_isFull_8 : decode cX6_isFull 8 = .ok (.if_icmp .lt 7, 3) := by decide +kernel
theorem dX6_isFull_11 : decode cX6_isFull 11 = .ok (.iconst 1, 1) := by decide +kernel
theorem dX6_isFull_12 : decode cX6_isFull 12 = .ok (.goto 4, 3) := by decide +kernel
theorem dX6_isFull_15 : decode cX6_isFull 15 = .ok (.iconst 0, 1) := by decide +kernel
theorem dX6_isFull_16 : decode cX6_isFull 16 = .ok (.ireturn, 1) := by decide +kernel
theorem dX6_has_0 : decode cX6_has 0 = .ok (.iload_n 1, 1) := by decide +kernel
theorem dX6_has_1 : decode cX6_has 1 = .ok (.ifCond .lt 15, 3) := by decide +kernel
theorem dX6_has_4 : decode cX6_has 4 = .ok (.iload_n 1, 1) := by decide +kernel
theorem dX6_has_5 : decode cX6_has 5 = .ok (.aload_n 0, 1) := by decide +kernel
theorem dX6_has_6 : decode cX6_has 6 = .ok (.getfield 28, 3) := by decide +kernel
theorem dX6_has_9 : decode cX6_has 9 = .ok (.if_icmp .ge 7, 3) := by decide +kernel
theorem dX6_has_12 : decode cX6_has 12 = .ok (.iconst 1, 1) := by decide +kernel
theorem dX6_has_13 : decode cX6_has 13 = .ok (.goto 4, 3) := by decide +kernel
theorem dX6_has_16 : decode cX6_has 16 = .ok (.iconst 0, 1) := by decide +kernel
theorem dX6_has_17 : decode cX6_has 17 = .ok (.ireturn, 1) := by decide +kernel
theorem dX6_get_0 : decode cX6_get 0 = .ok (.iload_n 1, 1) := by decide +kernel
theorem dX6_get_1 : decode cX6_get 1 = .ok (.aload_n 0, 1) := by decide +kernel
theorem dX6_get_2 : decode cX6_get 2 = .ok (.getfield 15, 3) := by decide +kernel
theorem dX6_get_5 : decode cX6_get 5 = .ok (.imul, 1) := by decide +kernel
theorem dX6_get_6 : decode cX6_get 6 = .ok (.iload_n 2, 1) := by decide +kernel
theorem dX6_get_7 : decode cX6_get 7 = .ok (.iadd, 1) := by decide +kernel
theorem dX6_get_8 : decode cX6_get 8 = .ok (.istore_n 3, 1) := by decide +kernel
theorem dX6_get_9 : decode cX6_get 9 = .ok (.iload_n 1, 1) := by decide +kernel
theorem dX6_get_10 : decode cX6_get 10 = .ok (.ifCond .lt 28, 3) := by decide +kernel
theorem dX6_get_13 : decode cX6_get 13 = .ok (.iload_n 1, 1) := by decide +kernel
theorem dX6_get_14 : decode cX6_get 14 = .ok (.aload_n 0, 1) := by decide +kernel
theorem dX6_get_15 : decode cX6_get 15 = .ok (.getfield 28, 3) := by decide +kernel
theorem dX6_get_18 : decode cX6_get 18 = .ok (.if_icmp .ge 20, 3) := by decide +kernel
theorem dX6_get_21 : decode cX6_get 21 = .ok (.iload_n 3, 1) := by decide +kernel
theorem dX6_get_22 : decode cX6_get 22 = .ok (.ifCond .lt 16, 3) := by decide +kernel
theorem dX6_get_25 : decode cX6_get 25 = .ok (.iload_n 3, 1) := by decide +kernel
theorem dX6_get_26 : decode cX6_get 26 = .ok (.aload_n 0, 1) := by decide +kernel
theorem dX6_get_27 : decode cX6_get 27 = .ok (.getfield 24, 3) := by decide +kernel
theorem dX6_get_30 : decode cX6_get 30 = .ok (.arraylength, 1) := by decide +kernel
theorem dX6_get_31 : decode cX6_get 31 = .ok (.if_icmp .ge 7, 3) := by decide +kernel
theorem dX6_get_34 : decode cX6_get 34 = .ok (.iconst 1, 1) := by decide +kernel
theorem dX6_get_35 : decode cX6_get 35 = .ok (.goto 4, 3) := by decide +kernel
theorem dX6_get_38 : decode cX6_get 38 = .ok (.iconst 0, 1) := by decide +kernel
theorem dX6_get_39 : decode cX6_get 39 = .ok (.istore 4, 2) := by decide +kernel
theorem dX6_get_41 : decode cX6_get 41 = .ok (.iload 4, 2) := by decide +kernel
theorem dX6_get_43 : decode cX6_get 43 = .ok (.ifCond .eq 12, 3) := by decide +kernel
theorem dX6_get_46 : decode cX6_get 46 = .ok (.aload_n 0, 1) := by decide +kernel
theorem dX6_get_47 : decode cX6_get 47 = .ok (.getfield 24, 3) := by decide +kernel
theorem dX6_get_50 : decode cX6_get 50 = .ok (.iload_n 3, 1) := by decide +kernel
theorem dX6_get_51 : decode cX6_get 51 = .ok (.iaload, 1) := by decide +kernel
theorem dX6_get_52 : decode cX6_get 52 = .ok (.goto 4, 3) := by decide +kernel
theorem dX6_get_55 : decode cX6_get 55 = .ok (.iconst 0, 1) := by decide +kernel
theorem dX6_get_56 : decode cX6_get 56 = .ok (.ireturn, 1) := by decide +kernel
theorem dX6_set_0 : decode cX6_set 0 = .ok (.iload_n 1, 1) := by decide +kernel
theorem dX6_set_1 : decode cX6_set 1 = .ok (.aload_n 0, 1) := by decide +kernel
theorem dX6_set_2 : decode cX6_set 2 = .ok (.getfield 15, 3) := by decide +kernel
theorem dX6_set_5 : decode cX6_set 5 = .ok (.imul, 1) := by decide +kernel
theorem dX6_set_6 : decode cX6_set 6 = .ok (.iload_n 2, 1) := by decide +kernel
theorem dX6_set_7 : decode cX6_set 7 = .ok (.iadd, 1) := by decide +kernel
theorem dX6_set_8 : decode cX6_set 8 = .ok (.istore 4, 2) := by decide +kernel
theorem dX6_set_10 : decode cX6_set 10 = .ok (.iload_n 1, 1) := by decide +kernel
theorem dX6_set_11 : decode cX6_set 11 = .ok (.ifCond .lt 34, 3) := by decide +kernel
theorem dX6_set_14 : decode cX6_set 14 = .ok (.iload_n 1, 1) := by decide +kernel
theorem dX6_set_15 : decode cX6_set 15 = .ok (.aload_n 0, 1) := by decide +kernel
theorem dX6_set_16 : decode cX6_set 16 = .ok (.getfield 28, 3) := by decide +kernel
theorem dX6_set_19 : decode cX6_set 19 = .ok (.if_icmp .ge 26, 3) := by decide +kernel
theorem dX6_set_22 : decode cX6_set 22 = .ok (.iload 4, 2) := by decide +kernel
theorem dX6_set_24 : decode cX6_set 24 = .ok (.ifCond .lt 21, 3) := by decide +kernel
theorem dX6_set_27 : decode cX6_set 27 = .ok (.iload 4, 2) := by decide +kernel
theorem dX6_set_29 : decode cX6_set 29 = .ok (.aload_n 0, 1) := by decide +kernel
theorem dX6_set_30 : decode cX6_set 30 = .ok (.getfield 24, 3) := by decide +kernel
theorem dX6_set_33 : decode cX6_set 33 = .ok (.arraylength, 1) := by decide +kernel
theorem dX6_set_34 : decode cX6_set 34 = .ok (.if_icmp .ge 11, 3) := by decide +kernel
theorem dX6_set_37 : decode cX6_set 37 = .ok (.aload_n 0, 1) := by decide +kernel
theorem dX6_set_38 : decode cX6_set 38 = .ok (.getfield 24, 3) := by decide +kernel
theorem dX6_set_41 : decode cX6_set 41 = .ok (.iload 4, 2) := by decide +kernel
theorem dX6_set_43 : decode cX6_set 43 = .ok (.iload_n 3, 1) := by decide +kernel
theorem dX6_set_44 : decode cX6_set 44 = .ok (.iastore, 1) := by decide +kernel
theorem dX6_set_45 : decode cX6_set 45 = .ok (.return_, 1) := by decide +kernel
theorem dX6_addRow_0 : decode cX6_addRow 0 = .ok (.aload_n 0, 1) := by decide +kernel
theorem dX6_addRow_1 : decode cX6_addRow 1 = .ok (.getfield 28, 3) := by decide +kernel
theorem dX6_addRow_4 : decode cX6_addRow 4 = .ok (.aload_n 0, 1) := by decide +kernel
theorem dX6_addRow_5 : decode cX6_addRow 5 = .ok (.getfield 9, 3) := by decide +kernel
theorem dX6_addRow_8 : decode cX6_addRow 8 = .ok (.if_icmp .lt 5, 3) := by decide +kernel
theorem dX6_addRow_11 : decode cX6_addRow 11 = .ok (.iconst (-1), 1) := by decide +kernel
theorem dX6_addRow_12 : decode cX6_addRow 12 = .ok (.ireturn, 1) := by decide +kernel
theorem dX6_addRow_13 : decode cX6_addRow 13 = .ok (.aload_n 0, 1) := by decide +kernel
theorem dX6_addRow_14 : decode cX6_addRow 14 = .ok (.dup, 1) := by decide +kernel
theorem dX6_addRow_15 : decode cX6_addRow 15 = .ok (.getfield 28, 3) := by decide +kernel
theorem dX6_addRow_18 : decode cX6_addRow 18 = .ok (.iconst 1, 1) := by decide +kernel
theorem dX6_addRow_19 : decode cX6_addRow 19 = .ok (.iadd, 1) := by decide +kernel
theorem dX6_addRow_20 : decode cX6_addRow 20 = .ok (.putfield 28, 3) := by decide +kernel
theorem dX6_addRow_23 : decode cX6_addRow 23 = .ok (.aload_n 0, 1) := by decide +kernel
theorem dX6_addRow_24 : decode cX6_addRow 24 = .ok (.getfield 28, 3) := by decide +kernel
theorem dX6_addRow_27 : decode cX6_addRow 27 = .ok (.iconst 1, 1) := by decide +kernel
theorem dX6_addRow_28 : decode cX6_addRow 28 = .ok (.isub, 1) := by decide +kernel
theorem dX6_addRow_29 : decode cX6_addRow 29 = .ok (.ireturn, 1) := by decide +kernel
theorem dX6_removeRow_0 : decode cX6_removeRow 0 = .ok (.iload_n 1, 1) := by decide +kernel
theorem dX6_removeRow_1 : decode cX6_removeRow 1 = .ok (.ifCond .lt 11, 3) := by decide +kernel
theorem dX6_removeRow_4 : decode cX6_removeRow 4 = .ok (.iload_n 1, 1) := by decide +kernel
theorem dX6_removeRow_5 : decode cX6_removeRow 5 = .ok (.aload_n 0, 1) := by decide +kernel
theorem dX6_removeRow_6 : decode cX6_removeRow 6 = .ok (.getfield 28, 3) := by decide +kernel
theorem dX6_removeRow_9 : decode cX6_removeRow 9 = .ok (.if_icmp .lt 4, 3) := by decide +kernel
theorem dX6_removeRow_12 : decode cX6_removeRow 12 = .ok (.return_, 1) := by decide +kernel
theorem dX6_removeRow_13 : decode cX6_removeRow 13 = .ok (.iload_n 1, 1) := by decide +kernel
theorem dX6_removeRow_14 : decode cX6_removeRow 14 = .ok (.aload_n 0, 1) := by decide +kernel
theorem dX6_removeRow_15 : decode cX6_removeRow 15 = .ok (.getfield 15, 3) := by decide +kernel
theorem dX6_removeRow_18 : decode cX6_removeRow 18 = .ok (.imul, 1) := by decide +kernel
theorem dX6_removeRow_19 : decode cX6_removeRow 19 = .ok (.istore_n 2, 1) := by decide +kernel
theorem dX6_removeRow_20 : decode cX6_removeRow 20 = .ok (.iload_n 2, 1) := by decide +kernel
theorem dX6_removeRow_21 : decode cX6_removeRow 21 = .ok (.aload_n 0, 1) := by decide +kernel
theorem dX6_removeRow_22 : decode cX6_removeRow 22 = .ok (.getfield 28, 3) := by decide +kernel
theorem dX6_removeRow_25 : decode cX6_removeRow 25 = .ok (.iconst 1, 1) := by decide +kernel
theorem dX6_removeRow_26 : decode cX6_removeRow 26 = .ok (.isub, 1) := by decide +kernel
theorem dX6_removeRow_27 : decode cX6_removeRow 27 = .ok (.aload_n 0, 1) := by decide +kernel
theorem dX6_removeRow_28 : decode cX6_removeRow 28 = .ok (.getfield 15, 3) := by decide +kernel
theorem dX6_removeRow_31 : decode cX6_removeRow 31 = .ok (.imul, 1) := by decide +kernel
theorem dX6_removeRow_32 : decode cX6_removeRow 32 = .ok (.if_icmp .ge 54, 3) := by decide +kernel
theorem dX6_removeRow_35 : decode cX6_removeRow 35 = .ok (.iload_n 2, 1) := by decide +kernel
theorem dX6_removeRow_36 : decode cX6_removeRow 36 = .ok (.aload_n 0, 1) := by decide +kernel
theorem dX6_removeRow_37 : decode cX6_removeRow 37 = .ok (.getfield 15, 3) := by decide +kernel
theorem dX6_removeRow_40 : decode cX6_removeRow 40 = .ok (.iadd, 1) := by decide +kernel
theorem dX6_removeRow_41 : decode cX6_removeRow 41 = .ok (.istore_n 3, 1) := by decide +kernel
theorem dX6_removeRow_42 : decode cX6_removeRow 42 = .ok (.iload_n 2, 1) := by decide +kernel
theorem dX6_removeRow_43 : decode cX6_removeRow 43 = .ok (.ifCond .lt 37, 3) := by decide +kernel
theorem dX6_removeRow_46 : decode cX6_removeRow 46 = .ok (.iload_n 2, 1) := by decide +kernel
theorem dX6_removeRow_47 : decode cX6_removeRow 47 = .ok (.aload_n 0, 1) := by decide +kernel
theorem dX6_removeRow_48 : decode cX6_removeRow 48 = .ok (.getfield 24, 3) := by decide +kernel
theorem dX6_removeRow_51 : decode cX6_removeRow 51 = .ok (.arraylength, 1) := by decide +kernel
theorem dX6_removeRow_52 : decode cX6_removeRow 52 = .ok (.if_icmp .ge 28, 3) := by decide +kernel
theorem dX6_removeRow_55 : decode cX6_removeRow 55 = .ok (.iload_n 3, 1) := by decide +kernel
theorem dX6_removeRow_56 : decode cX6_removeRow 56 = .ok (.ifCond .lt 24, 3) := by decide +kernel
theorem dX6_removeRow_59 : decode cX6_removeRow 59 = .ok (.iload_n 3, 1) := by decide +kernel
theorem dX6_removeRow_60 : decode cX6_removeRow 60 = .ok (.aload_n 0, 1) := by decide +kernel
theorem dX6_removeRow_61 : decode cX6_removeRow 61 = .ok (.getfield 24, 3) := by decide +kernel
theorem dX6_removeRow_64 : decode cX6_removeRow 64 = .ok (.arraylength, 1) := by decide +kernel
theorem dX6_removeRow_65 : decode cX6_removeRow 65 = .ok (.if_icmp .ge 15, 3) := by decide +kernel
theorem dX6_removeRow_68 : decode cX6_removeRow 68 = .ok (.aload_n 0, 1) := by decide +kernel
theorem dX6_removeRow_69 : decode cX6_removeRow 69 = .ok (.getfield 24, 3) := by decide +kernel
theorem dX6_removeRow_72 : decode cX6_removeRow 72 = .ok (.iload_n 2, 1) := by decide +kernel
theorem dX6_removeRow_73 : decode cX6_removeRow 73 = .ok (.aload_n 0, 1) := by decide +kernel
theorem dX6_removeRow_74 : decode cX6_removeRow 74 = .ok (.getfield 24, 3) := by decide +kernel
theorem dX6_removeRow_77 : decode cX6_removeRow 77 = .ok (.iload_n 3, 1) := by decide +kernel
theorem dX6_removeRow_78 : decode cX6_removeRow 78 = .ok (.iaload, 1) := by decide +kernel
theorem dX6_removeRow_79 : decode cX6_removeRow 79 = .ok (.iastore, 1) := by decide +kernel
theorem dX6_removeRow_80 : decode cX6_removeRow 80 = .ok (.iinc 2 1, 3) := by decide +kernel
theorem dX6_removeRow_83 : decode cX6_removeRow 83 = .ok (.goto (-63), 3) := by decide +kernel
theorem dX6_removeRow_86 : decode cX6_removeRow 86 = .ok (.aload_n 0, 1) := by decide +kernel
theorem dX6_removeRow_87 : decode cX6_removeRow 87 = .ok (.dup, 1) := by decide +kernel
theorem dX6_removeRow_88 : decode cX6_removeRow 88 = .ok (.getfield 28, 3) := by decide +kernel
theorem dX6_removeRow_91 : decode cX6_removeRow 91 = .ok (.iconst 1, 1) := by decide +kernel
theorem dX6_removeRow_92 : decode cX6_removeRow 92 = .ok (.isub, 1) := by decide +kernel
theorem dX6_removeRow_93 : decode cX6_removeRow 93 = .ok (.putfield 28, 3) := by decide +kernel
theorem dX6_removeRow_96 : decode cX6_removeRow 96 = .ok (.return_, 1) := by decide +kernel
theorem dX6_removeAll_0 : decode cX6_removeAll 0 = .ok (.aload_n 0, 1) := by decide +kernel
theorem dX6_removeAll_1 : decode cX6_removeAll 1 = .ok (.iconst 0, 1) := by decide +kernel
theorem dX6_removeAll_2 : decode cX6_removeAll 2 = .ok (.putfield 28, 3) := by decide +kernel
theorem dX6_removeAll_5 : decode cX6_removeAll 5 = .ok (.return_, 1) := by decide +kernel
theorem dX6_rowWith_0 : decode cX6_rowWith 0 = .ok (.iconst 0, 1) := by decide +kernel
theorem dX6_rowWith_1 : decode cX6_rowWith 1 = .ok (.istore_n 3, 1) := by decide +kernel
theorem dX6_rowWith_2 : decode cX6_rowWith 2 = .ok (.iload_n 3, 1) := by decide +kernel
theorem dX6_rowWith_3 : decode cX6_rowWith 3 = .ok (.aload_n 0, 1) := by decide +kernel
theorem dX6_rowWith_4 : decode cX6_rowWith 4 = .ok (.getfield 28, 3) := by decide +kernel
theorem dX6_rowWith_7 : decode cX6_rowWith 7 = .ok (.if_icmp .ge 21, 3) := by decide +kernel
theorem dX6_rowWith_10 : decode cX6_rowWith 10 = .ok (.aload_n 0, 1) := by decide +kernel
theorem dX6_rowWith_11 : decode cX6_rowWith 11 = .ok (.iload_n 3, 1) := by decide +kernel
theorem dX6_rowWith_12 : decode cX6_rowWith 12 = .ok (.iload_n 1, 1) := by decide +kernel
theorem dX6_rowWith_13 : decode cX6_rowWith 13 = .ok (.invokevirtual 31, 3) := by decide +kernel
theorem dX6_rowWith_16 : decode cX6_rowWith 16 = .ok (.iload_n 2, 1) := by decide +kernel
theorem dX6_rowWith_17 : decode cX6_rowWith 17 = .ok (.if_icmp .ne 5, 3) := by decide +kernel
theorem dX6_rowWith_20 : decode cX6_rowWith 20 = .ok (.iload_n 3, 1) := by decide +kernel
theorem dX6_rowWith_21 : decode cX6_rowWith 21 = .ok (.ireturn, 1) := by decide +kernel
theorem dX6_rowWith_22 : decode cX6_rowWith 22 = .ok (.iinc 3 1, 3) := by decide +kernel
theorem dX6_rowWith_25 : decode cX6_rowWith 25 = .ok (.goto (-23), 3) := by decide +kernel
theorem dX6_rowWith_28 : decode cX6_rowWith 28 = .ok (.iconst (-1), 1) := by decide +kernel
theorem dX6_rowWith_29 : decode cX6_rowWith 29 = .ok (.ireturn, 1) := by decide +kernel
theorem dX6_sumOf_0 : decode cX6_sumOf 0 = .ok (.iconst 0, 1) := by decide +kernel
theorem dX6_sumOf_1 : decode cX6_sumOf 1 = .ok (.istore_n 2, 1) := by decide +kernel
theorem dX6_sumOf_2 : decode cX6_sumOf 2 = .ok (.iconst 0, 1) := by decide +kernel
theorem dX6_sumOf_3 : decode cX6_sumOf 3 = .ok (.istore_n 3, 1) := by decide +kernel
theorem dX6_sumOf_4 : decode cX6_sumOf 4 = .ok (.iload_n 3, 1) := by decide +kernel
theorem dX6_sumOf_5 : decode cX6_sumOf 5 = .ok (.aload_n 0, 1) := by decide +kernel
theorem dX6_sumOf_6 : decode cX6_sumOf 6 = .ok (.getfield 28, 3) := by decide +kernel
theorem dX6_sumOf_9 : decode cX6_sumOf 9 = .ok (.if_icmp .ge 18, 3) := by decide +kernel
theorem dX6_sumOf_12 : decode cX6_sumOf 12 = .ok (.iload_n 2, 1) := by decide +kernel
theorem dX6_sumOf_13 : decode cX6_sumOf 13 = .ok (.aload_n 0, 1) := by decide +kernel
theorem dX6_sumOf_14 : decode cX6_sumOf 14 = .ok (.iload_n 3, 1) := by decide +kernel
theorem dX6_sumOf_15 : decode cX6_sumOf 15 = .ok (.iload_n 1, 1) := by decide +kernel
theorem dX6_sumOf_16 : decode cX6_sumOf 16 = .ok (.invokevirtual 31, 3) := by decide +kernel
theorem dX6_sumOf_19 : decode cX6_sumOf 19 = .ok (.iadd, 1) := by decide +kernel
theorem dX6_sumOf_20 : decode cX6_sumOf 20 = .ok (.istore_n 2, 1) := by decide +kernel
theorem dX6_sumOf_21 : decode cX6_sumOf 21 = .ok (.iinc 3 1, 3) := by decide +kernel
theorem dX6_sumOf_24 : decode cX6_sumOf 24 = .ok (.goto (-20), 3) := by decide +kernel
theorem dX6_sumOf_27 : decode cX6_sumOf 27 = .ok (.iload_n 2, 1) := by decide +kernel
theorem dX6_sumOf_28 : decode cX6_sumOf 28 = .ok (.ireturn, 1) := by decide +kernel
theorem dX6_copyFrom_0 : decode cX6_copyFrom 0 = .ok (.aload_n 0, 1) := by decide +kernel
theorem dX6_copyFrom_1 : decode cX6_copyFrom 1 = .ok (.getfield 24, 3) := by decide +kernel
theorem dX6_copyFrom_4 : decode cX6_copyFrom 4 = .ok (.arraylength, 1) := by decide +kernel
theorem dX6_copyFrom_5 : decode cX6_copyFrom 5 = .ok (.aload_n 1, 1) := by decide +kernel
theorem dX6_copyFrom_6 : decode cX6_copyFrom 6 = .ok (.getfield 24, 3) := by decide +kernel
theorem dX6_copyFrom_9 : decode cX6_copyFrom 9 = .ok (.arraylength, 1) := by decide +kernel
theorem dX6_copyFrom_10 : decode cX6_copyFrom 10 = .ok (.invokestatic 34, 3) := by decide +kernel
theorem dX6_copyFrom_13 : decode cX6_copyFrom 13 = .ok (.istore_n 2, 1) := by decide +kernel
theorem dX6_copyFrom_14 : decode cX6_copyFrom 14 = .ok (.aload_n 1, 1) := by decide +kernel
theorem dX6_copyFrom_15 : decode cX6_copyFrom 15 = .ok (.getfield 24, 3) := by decide +kernel
theorem dX6_copyFrom_18 : decode cX6_copyFrom 18 = .ok (.iconst 0, 1) := by decide +kernel
theorem dX6_copyFrom_19 : decode cX6_copyFrom 19 = .ok (.aload_n 0, 1) := by decide +kernel
theorem dX6_copyFrom_20 : decode cX6_copyFrom 20 = .ok (.getfield 24, 3) := by decide +kernel
theorem dX6_copyFrom_23 : decode cX6_copyFrom 23 = .ok (.iconst 0, 1) := by decide +kernel
theorem dX6_copyFrom_24 : decode cX6_copyFrom 24 = .ok (.iload_n 2, 1) := by decide +kernel
theorem dX6_copyFrom_25 : decode cX6_copyFrom 25 = .ok (.invokestatic 37, 3) := by decide +kernel
theorem dX6_copyFrom_28 : decode cX6_copyFrom 28 = .ok (.aload_n 0, 1) := by decide +kernel
theorem dX6_copyFrom_29 : decode cX6_copyFrom 29 = .ok (.aload_n 1, 1) := by decide +kernel
theorem dX6_copyFrom_30 : decode cX6_copyFrom 30 = .ok (.getfield 28, 3) := by decide +kernel
theorem dX6_copyFrom_33 : decode cX6_copyFrom 33 = .ok (.putfield 28, 3) := by decide +kernel
theorem dX6_copyFrom_36 : decode cX6_copyFrom 36 = .ok (.return_, 1) := by decide +kernel
theorem dX7_init_0 : decode cX7_init 0 = .ok (.aload_n 0, 1) := by decide +kernel
theorem dX7_init_1 : decode cX7_init 1 = .ok (.bipush 24, 2) := by decide +kernel
theorem dX7_init_3 : decode cX7_init 3 = .ok (.bipush 10, 2) := by decide +kernel
theorem dX7_init_5 : decode cX7_init 5 = .ok (.invokespecial 5, 3) := by decide +kernel
theorem dX7_init_8 : decode cX7_init 8 = .ok (.return_, 1) := by decide +kernel
theorem dX7_canBeRenewed_0 : decode cX7_canBeRenewed 0 = .ok (.aload_n 0, 1) := by decide +kernel
theorem dX7_canBeRenewed_1 : decode cX7_canBeRenewed 1 = .ok (.iload_n 1, 1) := by decide +kernel
theorem dX7_canBeRenewed_2 : decode cX7_canBeRenewed 2 = .ok (.bipush 9, 2) := by decide +kernel
theorem dX7_canBeRenewed_4 : decode cX7_canBeRenewed 4 = .ok (.invokevirtual 11, 3) := by decide +kernel
theorem dX7_canBeRenewed_7 : decode cX7_canBeRenewed 7 = .ok (.iconst 1, 1) := by decide +kernel
theorem dX7_canBeRenewed_8 : decode cX7_canBeRenewed 8 = .ok (.if_icmp .ne 7, 3) := by decide +kernel
theorem dX7_canBeRenewed_11 : decode cX7_canBeRenewed 11 = .ok (.iconst 1, 1) := by decide +kernel
theorem dX7_canBeRenewed_12 : decode cX7_canBeRenewed 12 = .ok (.goto 4, 3) := by decide +kernel
theorem dX7_canBeRenewed_15 : decode cX7_canBeRenewed 15 = .ok (.iconst 0, 1) := by decide +kernel
theorem dX7_canBeRenewed_16 : decode cX7_canBeRenewed 16 = .ok (.ireturn, 1) := by decide +kernel
theorem dX7_isAlive_0 : decode cX7_isAlive 0 = .ok (.iload_n 2, 1) := by decide +kernel
theorem dX7_isAlive_1 : decode cX7_isAlive 1 = .ok (.aload_n 0, 1) := by decide +kernel
theorem dX7_isAlive_2 : decode cX7_isAlive 2 = .ok (.iload_n 1, 1) := by decide +kernel
theorem dX7_isAlive_3 : decode cX7_isAlive 3 = .ok (.bipush 6, 2) := by decide +kernel
theorem dX7_isAlive_5 : decode cX7_isAlive 5 = .ok (.invokevirtual 11, 3) := by decide +kernel
theorem dX7_isAlive_8 : decode cX7_isAlive 8 = .ok (.if_icmp .ge 7, 3) := by decide +kernel
theorem dX7_isAlive_11 : decode cX7_isAlive 11 = .ok (.iconst 1, 1) := by decide +kernel
theorem dX7_isAlive_12 : decode cX7_isAlive 12 = .ok (.goto 4, 3) := by decide +kernel
theorem dX7_isAlive_15 : decode cX7_isAlive 15 = .ok (.iconst 0, 1) := by decide +kernel
theorem dX7_isAlive_16 : decode cX7_isAlive 16 = .ok (.ireturn, 1) := by decide +kernel
theorem dX7_countAlive_0 : decode cX7_countAlive 0 = .ok (.iconst 0, 1) := by decide +kernel
theorem dX7_countAlive_1 : decode cX7_countAlive 1 = .ok (.istore_n 2, 1) := by decide +kernel
theorem dX7_countAlive_2 : decode cX7_countAlive 2 = .ok (.iconst 0, 1) := by decide +kernel
theorem dX7_countAlive_3 : decode cX7_countAlive 3 = .ok (.istore_n 3, 1) := by decide +kernel
theorem dX7_countAlive_4 : decode cX7_countAlive 4 = .ok (.iload_n 3, 1) := by decide +kernel
theorem dX7_countAlive_5 : decode cX7_countAlive 5 = .ok (.aload_n 0, 1) := by decide +kernel
theorem dX7_countAlive_6 : decode cX7_countAlive 6 = .ok (.invokevirtual 15, 3) := by decide +kernel
theorem dX7_countAlive_9 : decode cX7_countAlive 9 = .ok (.if_icmp .ge 26, 3) := by decide +kernel
theorem dX7_countAlive_12 : decode cX7_countAlive 12 = .ok (.iload_n 2, 1) := by decide +kernel
theorem dX7_countAlive_13 : decode cX7_countAlive 13 = .ok (.aload_n 0, 1) := by decide +kernel
theorem dX7_countAlive_14 : decode cX7_countAlive 14 = .ok (.iload_n 3, 1) := by decide +kernel
theorem dX7_countAlive_15 : decode cX7_countAlive 15 = .ok (.iload_n 1, 1) := by decide +kernel
theorem dX7_countAlive_16 : decode cX7_countAlive 16 = .ok (.invokevirtual 19, 3) := by decide +kernel
theorem dX7_countAlive_19 : decode cX7_countAlive 19 = .ok (.ifCond .eq 7, 3) := by decide +kernel
theorem dX7_countAlive_22 : decode cX7_countAlive 22 = .ok (.iconst 1, 1) := by decide +kernel
theorem dX7_countAlive_23 : decode cX7_countAlive 23 = .ok (.goto 4, 3) := by decide +kernel
theorem dX7_countAlive_26 : decode cX7_countAlive 26 = .ok (.iconst 0, 1) := by decide +kernel
theorem dX7_countAlive_27 : decode cX7_countAlive 27 = .ok (.iadd, 1) := by decide +kernel
theorem dX7_countAlive_28 : decode cX7_countAlive 28 = .ok (.istore_n 2, 1) := by decide +kernel
theorem dX7_countAlive_29 : decode cX7_countAlive 29 = .ok (.iinc 3 1, 3) := by decide +kernel
theorem dX7_countAlive_32 : decode cX7_countAlive 32 = .ok (.goto (-28), 3) := by decide +kernel
theorem dX7_countAlive_35 : decode cX7_countAlive 35 = .ok (.iload_n 2, 1) := by decide +kernel
theorem dX7_countAlive_36 : decode cX7_countAlive 36 = .ok (.ireturn, 1) := by decide +kernel
theorem dX7_countLifeErrors_0 : decode cX7_countLifeErrors 0 = .ok (.iconst 0, 1) := by decide +kernel
theorem dX7_countLifeErrors_1 : decode cX7_countLifeErrors 1 = .ok (.istore_n 1, 1) := by decide +kernel
theorem dX7_countLifeErrors_2 : decode cX7_countLifeErrors 2 = .ok (.iconst 0, 1) := by decide +kernel
theorem dX7_countLifeErrors_3 : decode cX7_countLifeErrors 3 = .ok (.istore_n 2, 1) := by decide +kernel
theorem dX7_countLifeErrors_4 : decode cX7_countLifeErrors 4 = .ok (.iload_n 2, 1) := by decide +kernel
theorem dX7_countLifeErrors_5 : decode cX7_countLifeErrors 5 = .ok (.aload_n 0, 1) := by decide +kernel
theorem dX7_countLifeErrors_6 : decode cX7_countLifeErrors 6 = .ok (.invokevirtual 15, 3) := by decide +kernel
theorem dX7_countLifeErrors_9 : decode cX7_countLifeErrors 9 = .ok (.if_icmp .ge 46, 3) := by decide +kernel
theorem dX7_countLifeErrors_12 : decode cX7_countLifeErrors 12 = .ok (.aload_n 0, 1) := by decide +kernel
theorem dX7_countLifeErrors_13 : decode cX7_countLifeErrors 13 = .ok (.iload_n 2, 1) := by decide +kernel
theorem dX7_countLifeErrors_14 : decode cX7_countLifeErrors 14 = .ok (.bipush 6, 2) := by decide +kernel
theorem dX7_countLifeErrors_16 : decode cX7_countLifeErrors 16 = .ok (.invokevirtual 11, 3) := by decide +kernel
theorem dX7_countLifeErrors_19 : decode cX7_countLifeErrors 19 = .ok (.istore_n 3, 1) := by decide +kernel
theorem dX7_countLifeErrors_20 : decode cX7_countLifeErrors 20 = .ok (.iload_n 1, 1) := by decide +kernel
theorem dX7_countLifeErrors_21 : decode cX7_countLifeErrors 21 = .ok (.aload_n 0, 1) := by decide +kernel
theorem dX7_countLifeErrors_22 : decode cX7_countLifeErrors 22 = .ok (.iload_n 2, 1) := by decide +kernel
theorem dX7_countLifeErrors_23 : decode cX7_countLifeErrors 23 = .ok (.iconst 5, 1) := by decide +kernel
theorem dX7_countLifeErrors_24 : decode cX7_countLifeErrors 24 = .ok (.invokevirtual 11, 3) := by decide +kernel
theorem dX7_countLifeErrors_27 : decode cX7_countLifeErrors 27 = .ok (.iload_n 3, 1) := by decide +kernel
theorem dX7_countLifeErrors_28 : decode cX7_countLifeErrors 28 = .ok (.if_icmp .ge 14, 3) := by decide +kernel
theorem dX7_countLifeErrors_31 : decode cX7_countLifeErrors 31 = .ok (.iload_n 3, 1) := by decide +kernel
theorem dX7_countLifeErrors_32 : decode cX7_countLifeErrors 32 = .ok (.aload_n 0, 1) := by decide +kernel
theorem dX7_countLifeErrors_33 : decode cX7_countLifeErrors 33 = .ok (.iload_n 2, 1) := by decide +kernel
theorem dX7_countLifeErrors_34 : decode cX7_countLifeErrors 34 = .ok (.bipush 7, 2) := by decide +kernel
theorem dX7_countLifeErrors_36 : decode cX7_countLifeErrors 36 = .ok (.invokevirtual 11, 3) := by decide +kernel
theorem dX7_countLifeErrors_39 : decode cX7_countLifeErrors 39 = .ok (.if_icmp .le 7, 3) := by decide +kernel
theorem dX7_countLifeErrors_42 : decode cX7_countLifeErrors 42 = .ok (.iconst 1, 1) := by decide +kernel
theorem dX7_countLifeErrors_43 : decode cX7_countLifeErrors 43 = .ok (.goto 4, 3) := by decide +kernel
theorem dX7_countLifeErrors_46 : decode cX7_countLifeErrors 46 = .ok (.iconst 0, 1) := by decide +kernel
theorem dX7_countLifeErrors_47 : decode cX7_countLifeErrors 47 = .ok (.iadd, 1) := by decide +kernel
theorem dX7_countLifeErrors_48 : decode cX7_countLifeErrors 48 = .ok (.istore_n 1, 1) := by decide +kernel
theorem dX7_countLifeErrors_49 : decode cX7_countLifeErrors 49 = .ok (.iinc 2 1, 3) := by decide +kernel
theorem dX7_countLifeErrors_52 : decode cX7_countLifeErrors 52 = .ok (.goto (-48), 3) := by decide +kernel
theorem dX7_countLifeErrors_55 : decode cX7_countLifeErrors 55 = .ok (.iload_n 1, 1) := by decide +kernel
theorem dX7_countLifeErrors_56 : decode cX7_countLifeErrors 56 = .ok (.ireturn, 1) := by decide +kernel
theorem dX7_removeDead_0 : decode cX7_removeDead 0 = .ok (.aload_n 0, 1) := by decide +kernel
theorem dX7_removeDead_1 : decode cX7_removeDead 1 = .ok (.invokevirtual 15, 3) := by decide +kernel
theorem dX7_removeDead_4 : decode cX7_removeDead 4 = .ok (.istore_n 2, 1) := by decide +kernel
theorem dX7_removeDead_5 : decode cX7_removeDead 5 = .ok (.iload_n 2, 1) := by decide +kernel
theorem dX7_removeDead_6 : decode cX7_removeDead 6 = .ok (.iconst 1, 1) := by decide +kernel
theorem dX7_removeDead_7 : decode cX7_removeDead 7 = .ok (.isub, 1) := by decide +kernel
theorem dX7_removeDead_8 : decode cX7_removeDead 8 = .ok (.istore_n 3, 1) := by decide +kernel
theorem dX7_removeDead_9 : decode cX7_removeDead 9 = .ok (.iload_n 3, 1) := by decide +kernel
theorem dX7_removeDead_10 : decode cX7_removeDead 10 = .ok (.ifCond .lt 23, 3) := by decide +kernel
theorem dX7_removeDead_13 : decode cX7_removeDead 13 = .ok (.aload_n 0, 1) := by decide +kernel
theorem dX7_removeDead_14 : decode cX7_removeDead 14 = .ok (.iload_n 3, 1) := by decide +kernel
theorem dX7_removeDead_15 : decode cX7_removeDead 15 = .ok (.iload_n 1, 1) := by decide +kernel
theorem dX7_removeDead_16 : decode cX7_removeDead 16 = .ok (.invokevirtual 19, 3) := by decide +kernel
theorem dX7_removeDead_19 : decode cX7_removeDead 19 = .ok (.ifCond .ne 8, 3) := by decide +kernel
theorem dX7_removeDead_22 : decode cX7_removeDead 22 = .ok (.aload_n 0, 1) := by decide +kernel
theorem dX7_removeDead_23 : decode cX7_removeDead 23 = .ok (.iload_n 3, 1) := by decide +kernel
theorem dX7_removeDead_24 : decode cX7_removeDead 24 = .ok (.invokevirtual 23, 3) := by decide +kernel
theorem dX7_removeDead_27 : decode cX7_removeDead 27 = .ok (.iinc 3 (-1), 3) := by decide +kernel
theorem dX7_removeDead_30 : decode cX7_removeDead 30 = .ok (.goto (-21), 3) := by decide +kernel
theorem dX7_removeDead_33 : decode cX7_removeDead 33 = .ok (.iload_n 2, 1) := by decide +kernel
theorem dX7_removeDead_34 : decode cX7_removeDead 34 = .ok (.aload_n 0, 1) := by decide +kernel
theorem dX7_removeDead_35 : decode cX7_removeDead 35 = .ok (.invokevirtual 15, 3) := by decide +kernel
theorem dX7_removeDead_38 : decode cX7_removeDead 38 = .ok (.isub, 1) := by decide +kernel
theorem dX7_removeDead_39 : decode cX7_removeDead 39 = .ok (.ireturn, 1) := by decide +kernel
theorem dX8_init_0 : decode cX8_init 0 = .ok (.aload_n 0, 1) := by decide +kernel
theorem dX8_init_1 : decode cX8_init 1 = .ok (.bipush 6, 2) := by decide +kernel
theorem dX8_init_3 : decode cX8_init 3 = .ok (.iconst 5, 1) := by decide +kernel
theorem dX8_init_4 : decode cX8_init 4 = .ok (.invokespecial 5, 3) := by decide +kernel
theorem dX8_init_7 : decode cX8_init 7 = .ok (.return_, 1) := by decide +kernel
theorem dX8_addUser_0 : decode cX8_addUser 0 = .ok (.aload_n 0, 1) := by decide +kernel
theorem dX8_addUser_1 : decode cX8_addUser 1 = .ok (.invokevirtual 11, 3) := by decide +kernel
theorem dX8_addUser_4 : decode cX8_addUser 4 = .ok (.istore 5, 2) := by decide +kernel
theorem dX8_addUser_6 : decode cX8_addUser 6 = .ok (.aload_n 0, 1) := by decide +kernel
theorem dX8_addUser_7 : decode cX8_addUser 7 = .ok (.iload 5, 2) := by decide +kernel
theorem dX8_addUser_9 : decode cX8_addUser 9 = .ok (.iconst 0, 1) := by decide +kernel
theorem dX8_addUser_10 : decode cX8_addUser 10 = .ok (.iload_n 1, 1) := by decide +kernel
theorem dX8_addUser_11 : decode cX8_addUser 11 = .ok (.invokevirtual 15, 3) := by decide +kernel
theorem dX8_addUser_14 : decode cX8_addUser 14 = .ok (.aload_n 0, 1) := by decide +kernel
theorem dX8_addUser_15 : decode cX8_addUser 15 = .ok (.iload 5, 2) := by decide +kernel
theorem dX8_addUser_17 : decode cX8_addUser 17 = .ok (.iconst 1, 1) := by decide +kernel
theorem dX8_addUser_18 : decode cX8_addUser 18 = .ok (.iload_n 2, 1) := by decide +kernel
theorem dX8_addUser_19 : decode cX8_addUser 19 = .ok (.invokevirtual 15, 3) := by decide +kernel
theorem dX8_addUser_22 : decode cX8_addUser 22 = .ok (.aload_n 0, 1) := by decide +kernel
theorem dX8_addUser_23 : decode cX8_addUser 23 = .ok (.iload 5, 2) := by decide +kernel
theorem dX8_addUser_25 : decode cX8_addUser 25 = .ok (.iconst 2, 1) := by decide +kernel
theorem dX8_addUser_26 : decode cX8_addUser 26 = .ok (.iload_n 3, 1) := by decide +kernel
theorem dX8_addUser_27 : decode cX8_addUser 27 = .ok (.invokevirtual 15, 3) := by decide +kernel
theorem dX8_addUser_30 : decode cX8_addUser 30 = .ok (.aload_n 0, 1) := by decide +kernel
theorem dX8_addUser_31 : decode cX8_addUser 31 = .ok (.iload 5, 2) := by decide +kernel
theorem dX8_addUser_33 : decode cX8_addUser 33 = .ok (.iconst 3, 1) := by decide +kernel
theorem dX8_addUser_34 : decode cX8_addUser 34 = .ok (.iload 4, 2) := by decide +kernel
theorem dX8_addUser_36 : decode cX8_addUser 36 = .ok (.invokevirtual 15, 3) := by decide +kernel
theorem dX8_addUser_39 : decode cX8_addUser 39 = .ok (.aload_n 0, 1) := by decide +kernel
theorem dX8_addUser_40 : decode cX8_addUser 40 = .ok (.iload 5, 2) := by decide +kernel
theorem dX8_addUser_42 : decode cX8_addUser 42 = .ok (.iconst 4, 1) := by decide +kernel
theorem dX8_addUser_43 : decode cX8_addUser 43 = .ok (.iconst 0, 1) := by decide +kernel
theorem dX8_addUser_44 : decode cX8_addUser 44 = .ok (.invokevirtual 15, 3) := by decide +kernel
theorem dX8_addUser_47 : decode cX8_addUser 47 = .ok (.return_, 1) := by decide +kernel
theorem dX9_init_0 : decode cX9_init 0 = .ok (.aload_n 0, 1) := by decide +kernel
theorem dX9_init_1 : decode cX9_init 1 = .ok (.bipush 30, 2) := by decide +kernel
theorem dX9_init_3 : decode cX9_init 3 = .ok (.iconst 4, 1) := by decide +kernel
theorem dX9_init_4 : decode cX9_init 4 = .ok (.invokespecial 5, 3) := by decide +kernel
theorem dX9_init_7 : decode cX9_init 7 = .ok (.return_, 1) := by decide +kernel
theorem dX9_addUse_0 : decode cX9_addUse 0 = .ok (.aload_n 0, 1) := by decide +kernel
theorem dX9_addUse_1 : decode cX9_addUse 1 = .ok (.invokevirtual 11, 3) := by decide +kernel
theorem dX9_addUse_4 : decode cX9_addUse 4 = .ok (.ifCond .eq 8, 3) := by decide +kernel
theorem dX9_addUse_7 : decode cX9_addUse 7 = .ok (.aload_n 0, 1) := by decide +kernel
theorem dX9_addUse_8 : decode cX9_addUse 8 = .ok (.iconst 0, 1) := by decide +kernel
theorem dX9_addUse_9 : decode cX9_addUse 9 = .ok (.invokevirtual 15, 3) := by decide +kernel
theorem dX9_addUse_12 : decode cX9_addUse 12 = .ok (.aload_n 0, 1) := by decide +kernel
theorem dX9_addUse_13 : decode cX9_addUse 13 = .ok (.invokevirtual 19, 3) := by decide +kernel
theorem dX9_addUse_16 : decode cX9_addUse 16 = .ok (.istore 5, 2) := by decide +kernel
theorem dX9_addUse_18 : decode cX9_addUse 18 = .ok (.aload_n 0, 1) := by decide +kernel
theorem dX9_addUse_19 : decode cX9_addUse 19 = .ok (.iload 5, 2) := by decide +kernel
theorem dX9_addUse_21 : decode cX9_addUse 21 = .ok (.iconst 0, 1) := by decide +kernel
theorem dX9_addUse_22 : decode cX9_addUse 22 = .ok (.iload_n 1, 1) := by decide +kernel
theorem dX9_addUse_23 : decode cX9_addUse 23 = .ok (.invokevirtual 23, 3) := by decide +kernel
theorem dX9_addUse_26 : decode cX9_addUse 26 = .ok (.aload_n 0, 1) := by decide +kernel
theorem dX9_addUse_27 : decode cX9_addUse 27 = .ok (.iload 5, 2) := by decide +kernel
theorem dX9_addUse_29 : decode cX9_addUse 29 = .ok (.iconst 1, 1) := by decide +kernel
theorem dX9_addUse_30 : decode cX9_addUse 30 = .ok (.iload_n 2, 1) := by decide +kernel
theorem dX9_addUse_31 : decode cX9_addUse 31 = .ok (.invokevirtual 23, 3) := by decide +kernel
theorem dX9_addUse_34 : decode cX9_addUse 34 = .ok (.aload_n 0, 1) := by decide +kernel
theorem dX9_addUse_35 : decode cX9_addUse 35 = .ok (.iload 5, 2) := by decide +kernel
theorem dX9_addUse_37 : decode cX9_addUse 37 = .ok (.iconst 2, 1) := by decide +kernel
theorem dX9_addUse_38 : decode cX9_addUse 38 = .ok (.iload_n 3, 1) := by decide +kernel
theorem dX9_addUse_39 : decode cX9_addUse 39 = .ok (.invokevirtual 23, 3) := by decide +kernel
theorem dX9_addUse_42 : decode cX9_addUse 42 = .ok (.aload_n 0, 1) := by decide +kernel
theorem dX9_addUse_43 : decode cX9_addUse 43 = .ok (.iload 5, 2) := by decide +kernel
theorem dX9_addUse_45 : decode cX9_addUse 45 = .ok (.iconst 3, 1) := by decide +kernel
theorem dX9_addUse_46 : decode cX9_addUse 46 = .ok (.iload 4, 2) := by decide +kernel
theorem dX9_addUse_48 : decode cX9_addUse 48 = .ok (.invokevirtual 23, 3) := by decide +kernel
theorem dX9_addUse_51 : decode cX9_addUse 51 = .ok (.return_, 1) := by decide +kernel
theorem dX9_knows_0 : decode cX9_knows 0 = .ok (.iconst 0, 1) := by decide +kernel
theorem dX9_knows_1 : decode cX9_knows 1 = .ok (.istore 5, 2) := by decide +kernel
theorem dX9_knows_3 : decode cX9_knows 3 = .ok (.iconst 0, 1) := by decide +kernel
theorem dX9_knows_4 : decode cX9_knows 4 = .ok (.istore 6, 2) := by decide +kernel
theorem dX9_knows_6 : decode cX9_knows 6 = .ok (.iload 6, 2) := by decide +kernel
theorem dX9_knows_8 : decode cX9_knows 8 = .ok (.aload_n 0, 1) := by decide +kernel
theorem dX9_knows_9 : decode cX9_knows 9 = .ok (.invokevirtual 27, 3) := by decide +kernel
theorem dX9_knows_12 : decode cX9_knows 12 = .ok (.if_icmp .ge 66, 3) := by decide +kernel
theorem dX9_knows_15 : decode cX9_knows 15 = .ok (.iload 5, 2) := by decide +kernel
theorem dX9_knows_17 : decode cX9_knows 17 = .ok (.ifCond .ne 61, 3) := by decide +kernel
theorem dX9_knows_20 : decode cX9_knows 20 = .ok (.aload_n 0, 1) := by decide +kernel
theorem dX9_knows_21 : decode cX9_knows 21 = .ok (.iload 6, 2) := by decide +kernel
theorem dX9_knows_23 : decode cX9_knows 23 = .ok (.iconst 0, 1) := by decide +kernel
theorem dX9_knows_24 : decode cX9_knows 24 = .ok (.invokevirtual 30, 3) := by decide +kernel
theorem dX9_knows_27 : decode cX9_knows 27 = .ok (.iload_n 1, 1) := by decide +kernel
theorem dX9_knows_28 : decode cX9_knows 28 = .ok (.if_icmp .ne 41, 3) := by decide +kernel
theorem dX9_knows_31 : decode cX9_knows 31 = .ok (.aload_n 0, 1) := by decide +kernel
theorem dX9_knows_32 : decode cX9_knows 32 = .ok (.iload 6, 2) := by decide +kernel
theorem dX9_knows_34 : decode cX9_knows 34 = .ok (.iconst 1, 1) := by decide +kernel
theorem dX9_knows_35 : decode cX9_knows 35 = .ok (.invokevirtual 30, 3) := by decide +kernel
theorem dX9_knows_38 : decode cX9_knows 38 = .ok (.iload_n 2, 1) := by decide +kernel
theorem dX9_knows_39 : decode cX9_knows 39 = .ok (.if_icmp .ne 30, 3) := by decide +kernel
theorem dX9_knows_42 : decode cX9_knows 42 = .ok (.aload_n 0, 1) := by decide +kernel
theorem dX9_knows_43 : decode cX9_knows 43 = .ok (.iload 6, 2) := by decide +kernel
theorem dX9_knows_45 : decode cX9_knows 45 = .ok (.iconst 2, 1) := by decide +kernel
theorem dX9_knows_46 : decode cX9_knows 46 = .ok (.invokevirtual 30, 3) := by decide +kernel
theorem dX9_knows_49 : decode cX9_knows 49 = .ok (.iload_n 3, 1) := by decide +kernel
theorem dX9_knows_50 : decode cX9_knows 50 = .ok (.if_icmp .ne 19, 3) := by decide +kernel
theorem dX9_knows_53 : decode cX9_knows 53 = .ok (.aload_n 0, 1) := by decide +kernel
theorem dX9_knows_54 : decode cX9_knows 54 = .ok (.iload 6, 2) := by decide +kernel
theorem dX9_knows_56 : decode cX9_knows 56 = .ok (.iconst 3, 1) := by decide +kernel
theorem dX9_knows_57 : decode cX9_knows 57 = .ok (.invokevirtual 30, 3) := by decide +kernel
theorem dX9_knows_60 : decode cX9_knows 60 = .ok (.iload 4, 2) := by decide +kernel
theorem dX9_knows_62 : decode cX9_knows 62 = .ok (.if_icmp .lt 7, 3) := by decide +kernel
theorem dX9_knows_65 : decode cX9_knows 65 = .ok (.iconst 1, 1) := by decide +kernel
theorem dX9_knows_66 : decode cX9_knows 66 = .ok (.goto 4, 3) := by decide +kernel
theorem dX9_knows_69 : decode cX9_knows 69 = .ok (.iconst 0, 1) := by decide +kernel
theorem dX9_knows_70 : decode cX9_knows 70 = .ok (.istore 5, 2) := by decide +kernel
theorem dX9_knows_72 : decode cX9_knows 72 = .ok (.iinc 6 1, 3) := by decide +kernel
theorem dX9_knows_75 : decode cX9_knows 75 = .ok (.goto (-69), 3) := by decide +kernel
theorem dX9_knows_78 : decode cX9_knows 78 = .ok (.iload 5, 2) := by decide +kernel
theorem dX9_knows_80 : decode cX9_knows 80 = .ok (.ireturn, 1) := by decide +kernel
theorem dX9_forgetBefore_0 : decode cX9_forgetBefore 0 = .ok (.aload_n 0, 1) := by decide +kernel
theorem dX9_forgetBefore_1 : decode cX9_forgetBefore 1 = .ok (.invokevirtual 27, 3) := by decide +kernel
theorem dX9_forgetBefore_4 : decode cX9_forgetBefore 4 = .ok (.iconst 1, 1) := by decide +kernel
theorem dX9_forgetBefore_5 : decode cX9_forgetBefore 5 = .ok (.isub, 1) := by decide +kernel
theorem dX9_forgetBefore_6 : decode cX9_forgetBefore 6 = .ok (.istore_n 2, 1) := by decide +kernel
theorem dX9_forgetBefore_7 : decode cX9_forgetBefore 7 = .ok (.iload_n 2, 1) := by decide +kernel
theorem dX9_forgetBefore_8 : decode cX9_forgetBefore 8 = .ok (.ifCond .lt 24, 3) := by decide +kernel
theorem dX9_forgetBefore_11 : decode cX9_forgetBefore 11 = .ok (.aload_n 0, 1) := by decide +kernel
theorem dX9_forgetBefore_12 : decode cX9_forgetBefore 12 = .ok (.iload_n 2, 1) := by decide +kernel
theorem dX9_forgetBefore_13 : decode cX9_forgetBefore 13 = .ok (.iconst 3, 1) := by decide +kernel
theorem dX9_forgetBefore_14 : decode cX9_forgetBefore 14 = .ok (.invokevirtual 30, 3) := by decide +kernel
theorem dX9_forgetBefore_17 : decode cX9_forgetBefore 17 = .ok (.iload_n 1, 1) := by decide +kernel
theorem dX9_forgetBefore_18 : decode cX9_forgetBefore 18 = .ok (.if_icmp .ge 8, 3) := by decide +kernel
theorem dX9_forgetBefore_21 : decode cX9_forgetBefore 21 = .ok (.aload_n 0, 1) := by decide +kernel
theorem dX9_forgetBefore_22 : decode cX9_forgetBefore 22 = .ok (.iload_n 2, 1) := by decide +kernel
theorem dX9_forgetBefore_23 : decode cX9_forgetBefore 23 = .ok (.invokevirtual 15, 3) := by decide +kernel
theorem dX9_forgetBefore_26 : decode cX9_forgetBefore 26 = .ok (.iinc 2 (-1), 3) := by decide +kernel
theorem dX9_forgetBefore_29 : decode cX9_forgetBefore 29 = .ok (.goto (-22), 3) := by decide +kernel
theorem dX9_forgetBefore_32 : decode cX9_forgetBefore 32 = .ok (.return_, 1) := by decide +kernel
theorem dX10_init_0 : decode cX10_init 0 = .ok (.aload_n 0, 1) := by decide +kernel
theorem dX10_init_1 : decode cX10_init 1 = .ok (.iconst 5, 1) := by decide +kernel
theorem dX10_init_2 : decode cX10_init 2 = .ok (.iconst 5, 1) := by decide +kernel
theorem dX10_init_3 : decode cX10_init 3 = .ok (.invokespecial 3, 3) := by decide +kernel
theorem dX10_init_6 : decode cX10_init 6 = .ok (.return_, 1) := by decide +kernel
theorem dX10_addDirect_0 : decode cX10_addDirect 0 = .ok (.iconst 0, 1) := by decide +kernel
theorem dX10_addDirect_1 : decode cX10_addDirect 1 = .ok (.istore_n 2, 1) := by decide +kernel
theorem dX10_addDirect_2 : decode cX10_addDirect 2 = .ok (.iload_n 2, 1) := by decide +kernel
theorem dX10_addDirect_3 : decode cX10_addDirect 3 = .ok (.aload_n 1, 1) := by decide +kernel
theorem dX10_addDirect_4 : decode cX10_addDirect 4 = .ok (.invokevirtual 9, 3) := by decide +kernel
theorem dX10_addDirect_7 : decode cX10_addDirect 7 = .ok (.if_icmp .ge 65, 3) := by decide +kernel
theorem dX10_addDirect_10 : decode cX10_addDirect 10 = .ok (.aload_n 0, 1) := by decide +kernel
theorem dX10_addDirect_11 : decode cX10_addDirect 11 = .ok (.invokevirtual 15, 3) := by decide +kernel
theorem dX10_addDirect_14 : decode cX10_addDirect 14 = .ok (.pop, 1) := by decide +kernel
theorem dX10_addDirect_15 : decode cX10_addDirect 15 = .ok (.iconst 0, 1) := by decide +kernel
theorem dX10_addDirect_16 : decode cX10_addDirect 16 = .ok (.istore_n 3, 1) := by decide +kernel
theorem dX10_addDirect_17 : decode cX10_addDirect 17 = .ok (.iload_n 3, 1) := by decide +kernel
theorem dX10_addDirect_18 : decode cX10_addDirect 18 = .ok (.aload_n 1, 1) := by decide +kernel
theorem dX10_addDirect_19 : decode cX10_addDirect 19 = .ok (.invokevirtual 9, 3) := by decide +kernel
theorem dX10_addDirect_22 : decode cX10_addDirect 22 = .ok (.if_icmp .ge 44, 3) := by decide +kernel
theorem dX10_addDirect_25 : decode cX10_addDirect 25 = .ok (.aload_n 1, 1) := by decide +kernel
theorem dX10_addDirect_26 : decode cX10_addDirect 26 = .ok (.iload_n 2, 1) := by decide +kernel
theorem dX10_addDirect_27 : decode cX10_addDirect 27 = .ok (.iload_n 3, 1) := by decide +kernel
theorem dX10_addDirect_28 : decode cX10_addDirect 28 = .ok (.invokevirtual 20, 3) := by decide +kernel
theorem dX10_addDirect_31 : decode cX10_addDirect 31 = .ok (.ifCond .eq 7, 3) := by decide +kernel
theorem dX10_addDirect_34 : decode cX10_addDirect 34 = .ok (.iconst 1, 1) := by decide +kernel
theorem dX10_addDirect_35 : decode cX10_addDirect 35 = .ok (.goto 6, 3) := by decide +kernel
theorem dX10_addDirect_38 : decode cX10_addDirect 38 = .ok (.sipush 1000, 3) := by decide +kernel
theorem dX10_addDirect_41 : decode cX10_addDirect 41 = .ok (.istore 4, 2) := by decide +kernel
theorem dX10_addDirect_43 : decode cX10_addDirect 43 = .ok (.aload_n 0, 1) := by decide +kernel
theorem dX10_addDirect_44 : decode cX10_addDirect 44 = .ok (.iload_n 2, 1) := by decide +kernel
theorem dX10_addDirect_45 : decode cX10_addDirect 45 = .ok (.iload_n 3, 1) := by decide +kernel
theorem dX10_addDirect_46 : decode cX10_addDirect 46 = .ok (.iload_n 2, 1) := by decide +kernel
theorem dX10_addDirect_47 : decode cX10_addDirect 47 = .ok (.iload_n 3, 1) := by decide +kernel
theorem dX10_addDirect_48 : decode cX10_addDirect 48 = .ok (.if_icmp .ne 7, 3) := by decide +kernel
theorem dX10_addDirect_51 : decode cX10_addDirect 51 = .ok (.iconst 0, 1) := by decide +kernel
theorem dX10_addDirect_52 : decode cX10_addDirect 52 = .ok (.goto 5, 3) := by decide +kernel
theorem dX10_addDirect_55 : decode cX10_addDirect 55 = .ok (.iload 4, 2) := by decide +kernel
theorem dX10_addDirect_57 : decode cX10_addDirect 57 = .ok (.invokevirtual 24, 3) := by decide +kernel
theorem dX10_addDirect_60 : decode cX10_addDirect 60 = .ok (.iinc 3 1, 3) := by decide +kernel
theorem dX10_addDirect_63 : decode cX10_addDirect 63 = .ok (.goto (-46), 3) := by decide +kernel
theorem dX10_addDirect_66 : decode cX10_addDirect 66 = .ok (.iinc 2 1, 3) := by decide +kernel
theorem dX10_addDirect_69 : decode cX10_addDirect 69 = .ok (.goto (-67), 3) := by decide +kernel
theorem dX10_addDirect_72 : decode cX10_addDirect 72 = .ok (.return_, 1) := by decide +kernel
theorem dX10_goThrough_0 : decode cX10_goThrough 0 = .ok (.iconst 0, 1) := by decide +kernel
theorem dX10_goThrough_1 : decode cX10_goThrough 1 = .ok (.istore_n 2, 1) := by decide +kernel
theorem dX10_goThrough_2 : decode cX10_goThrough 2 = .ok (.iload_n 2, 1) := by decide +kernel
theorem dX10_goThrough_3 : decode cX10_goThrough 3 = .ok (.aload_n 0, 1) := by decide +kernel
theorem dX10_goThrough_4 : decode cX10_goThrough 4 = .ok (.invokevirtual 28, 3) := by decide +kernel
theorem dX10_goThrough_7 : decode cX10_goThrough 7 = .ok (.if_icmp .ge 57, 3) := by decide +kernel
theorem dX10_goThrough_10 : decode cX10_goThrough 10 = .ok (.iconst 0, 1) := by decide +kernel
theorem dX10_goThrough_11 : decode cX10_goThrough 11 = .ok (.istore_n 3, 1) := by decide +kernel
theorem dX10_goThrough_12 : decode cX10_goThrough 12 = .ok (.iload_n 3, 1) := by decide +kernel
theorem dX10_goThrough_13 : decode cX10_goThrough 13 = .ok (.aload_n 0, 1) := by decide +kernel
theorem dX10_goThrough_14 : decode cX10_goThrough 14 = .ok (.invokevirtual 28, 3) := by decide +kernel
theorem dX10_goThrough_17 : decode cX10_goThrough 17 = .ok (.if_icmp .ge 41, 3) := by decide +kernel
theorem dX10_goThrough_20 : decode cX10_goThrough 20 = .ok (.aload_n 0, 1) := by decide +kernel
theorem dX10_goThrough_21 : decode cX10_goThrough 21 = .ok (.iload_n 2, 1) := by decide +kernel
theorem dX10_goThrough_22 : decode cX10_goThrough 22 = .ok (.iload_n 1, 1) := by decide +kernel
theorem dX10_goThrough_23 : decode cX10_goThrough 23 = .ok (.invokevirtual 29, 3) := by decide +kernel
theorem dX10_goThrough_26 : decode cX10_goThrough 26 = .ok (.aload_n 0, 1) := by decide +kernel
theorem dX10_goThrough_27 : decode cX10_goThrough 27 = .ok (.iload_n 1, 1) := by decide +kernel
theorem dX10_goThrough_28 : decode cX10_goThrough 28 = .ok (.iload_n 3, 1) := by decide +kernel
theorem dX10_goThrough_29 : decode cX10_goThrough 29 = .ok (.invokevirtual 29, 3) := by decide +kernel
theorem dX10_goThrough_32 : decode cX10_goThrough 32 = .ok (.iadd, 1) := by decide +kernel
theorem dX10_goThrough_33 : decode cX10_goThrough 33 = .ok (.istore 4, 2) := by decide +kernel
theorem dX10_goThrough_35 : decode cX10_goThrough 35 = .ok (.aload_n 0, 1) := by decide +kernel
theorem dX10_goThrough_36 : decode cX10_goThrough 36 = .ok (.iload_n 2, 1) := by decide +kernel
theorem dX10_goThrough_37 : decode cX10_goThrough 37 = .ok (.iload_n 3, 1) := by decide +kernel
theorem dX10_goThrough_38 : decode cX10_goThrough 38 = .ok (.iload 4, 2) := by decide +kernel
theorem dX10_goThrough_40 : decode cX10_goThrough 40 = .ok (.aload_n 0, 1) := by decide +kernel
theorem dX10_goThrough_41 : decode cX10_goThrough 41 = .ok (.iload_n 2, 1) := by decide +kernel
theorem dX10_goThrough_42 : decode cX10_goThrough 42 = .ok (.iload_n 3, 1) := by decide +kernel
theorem dX10_goThrough_43 : decode cX10_goThrough 43 = .ok (.invokevirtual 29, 3) := by decide +kernel
theorem dX10_goThrough_46 : decode cX10_goThrough 46 = .ok (.invokestatic 33, 3) := by decide +kernel
theorem dX10_goThrough_49 : decode cX10_goThrough 49 = .ok (.invokevirtual 24, 3) := by decide +kernel
theorem dX10_goThrough_52 : decode cX10_goThrough 52 = .ok (.iinc 3 1, 3) := by decide +kernel
theorem dX10_goThrough_55 : decode cX10_goThrough 55 = .ok (.goto (-43), 3) := by decide +kernel
theorem dX10_goThrough_58 : decode cX10_goThrough 58 = .ok (.iinc 2 1, 3) := by decide +kernel
theorem dX10_goThrough_61 : decode cX10_goThrough 61 = .ok (.goto (-59), 3) := by decide +kernel
theorem dX10_goThrough_64 : decode cX10_goThrough 64 = .ok (.return_, 1) := by decide +kernel
theorem dX10_lengthOf_0 : decode cX10_lengthOf 0 = .ok (.aload_n 0, 1) := by decide +kernel
theorem dX10_lengthOf_1 : decode cX10_lengthOf 1 = .ok (.iload_n 1, 1) := by decide +kernel
theorem dX10_lengthOf_2 : decode cX10_lengthOf 2 = .ok (.iload_n 2, 1) := by decide +kernel
theorem dX10_lengthOf_3 : decode cX10_lengthOf 3 = .ok (.invokevirtual 29, 3) := by decide +kernel
theorem dX10_lengthOf_6 : decode cX10_lengthOf 6 = .ok (.istore_n 3, 1) := by decide +kernel
theorem dX10_lengthOf_7 : decode cX10_lengthOf 7 = .ok (.iload_n 3, 1) := by decide +kernel
theorem dX10_lengthOf_8 : decode cX10_lengthOf 8 = .ok (.sipush 1000, 3) := by decide +kernel
theorem dX10_lengthOf_11 : decode cX10_lengthOf 11 = .ok (.if_icmp .lt 7, 3) := by decide +kernel
theorem dX10_lengthOf_14 : decode cX10_lengthOf 14 = .ok (.iconst (-1), 1) := by decide +kernel
theorem dX10_lengthOf_15 : decode cX10_lengthOf 15 = .ok (.goto 4, 3) := by decide +kernel
theorem dX10_lengthOf_18 : decode cX10_lengthOf 18 = .ok (.iload_n 3, 1) := by decide +kernel
theorem dX10_lengthOf_19 : decode cX10_lengthOf 19 = .ok (.ireturn, 1) := by decide +kernel
theorem dJ5_init_d00df_0 : decode cJ5_init_d00df 0 = .ok (.aload_n 0, 1) := by decide +kernel
theorem dJ5_init_d00df_1 : decode cJ5_init_d00df 1 = .ok (.invokespecial 3, 3) := by decide +kernel
theorem dJ5_init_d00df_4 : decode cJ5_init_d00df 4 = .ok (.getstatic 18, 3) := by decide +kernel
theorem dJ5_init_d00df_7 : decode cJ5_init_d00df 7 = .ok (.ifCond .eq 18, 3) := by decide +kernel
theorem dJ5_init_d00df_10 : decode cJ5_init_d00df 10 = .ok (.aload_n 0, 1) := by decide +kernel
theorem dJ5_init_d00df_11 : decode cJ5_init_d00df 11 = .ok (.iload_n 1, 1) := by decide +kernel
theorem dJ5_init_d00df_12 : decode cJ5_init_d00df 12 = .ok (.newarray .byte, 2) := by decide +kernel
theorem dJ5_init_d00df_14 : decode cJ5_init_d00df 14 = .ok (.putfield 15, 3) := by decide +kernel
theorem dJ5_init_d00df_17 : decode cJ5_init_d00df 17 = .ok (.aload_n 0, 1) := by decide +kernel
theorem dJ5_init_d00df_18 : decode cJ5_init_d00df 18 = .ok (.iconst 0, 1) := by decide +kernel
theorem dJ5_init_d00df_19 : decode cJ5_init_d00df 19 = .ok (.putfield 22, 3) := by decide +kernel
theorem dJ5_init_d00df_22 : decode cJ5_init_d00df 22 = .ok (.goto 16, 3) := by decide +kernel
theorem dJ5_init_d00df_25 : decode cJ5_init_d00df 25 = .ok (.aload_n 0, 1) := by decide +kernel
theorem dJ5_init_d00df_26 : decode cJ5_init_d00df 26 = .ok (.iload_n 1, 1) := by decide +kernel
theorem dJ5_init_d00df_27 : decode cJ5_init_d00df 27 = .ok (.invokestatic 26, 3) := by decide +kernel
theorem dJ5_init_d00df_30 : decode cJ5_init_d00df 30 = .ok (.putfield 15, 3) := by decide +kernel
theorem dJ5_init_d00df_33 : decode cJ5_init_d00df 33 = .ok (.aload_n 0, 1) := by decide +kernel
theorem dJ5_init_d00df_34 : decode cJ5_init_d00df 34 = .ok (.iconst 1, 1) := by decide +kernel
theorem dJ5_init_d00df_35 : decode cJ5_init_d00df 35 = .ok (.putfield 22, 3) := by decide +kernel
theorem dJ5_init_d00df_38 : decode cJ5_init_d00df 38 = .ok (.return_, 1) := by decide +kernel
theorem dJ5_init_a7421_0 : decode cJ5_init_a7421 0 = .ok (.aload_n 0, 1) := by decide +kernel
theorem dJ5_init_a7421_1 : decode cJ5_init_a7421 1 = .ok (.invokespecial 3, 3) := by decide +kernel
theorem dJ5_init_a7421_4 : decode cJ5_init_a7421 4 = .ok (.aload_n 1, 1) := by decide +kernel
theorem dJ5_init_a7421_5 : decode cJ5_init_a7421 5 = .ok (.invokevirtual 32, 3) := by decide +kernel
theorem dJ5_init_a7421_8 : decode cJ5_init_a7421 8 = .ok (.istore_n 2, 1) := by decide +kernel
theorem dJ5_init_a7421_9 : decode cJ5_init_a7421 9 = .ok (.iload_n 2, 1) := by decide +kernel
theorem dJ5_init_a7421_10 : decode cJ5_init_a7421 10 = .ok (.ldc 38, 2) := by decide +kernel
theorem dJ5_init_a7421_12 : decode cJ5_init_a7421 12 = .ok (.if_icmp .ge 10, 3) := by decide +kernel
theorem dJ5_init_a7421_15 : decode cJ5_init_a7421 15 = .ok (.iload_n 2, 1) := by decide +kernel
theorem dJ5_init_a7421_16 : decode cJ5_init_a7421 16 = .ok (.bipush 16, 2) := by decide +kernel
theorem dJ5_init_a7421_18 : decode cJ5_init_a7421 18 = .ok (.iadd, 1) := by decide +kernel
theorem dJ5_init_a7421_19 : decode cJ5_init_a7421 19 = .ok (.goto 5, 3) := by decide +kernel
theorem dJ5_init_a7421_22 : decode cJ5_init_a7421 22 = .ok (.ldc 39, 2) := by decide +kernel
theorem dJ5_init_a7421_24 : decode cJ5_init_a7421 24 = .ok (.istore_n 3, 1) := by decide +kernel
theorem dJ5_init_a7421_25 : decode cJ5_init_a7421 25 = .ok (.aload_n 1, 1) := by decide +kernel
theorem dJ5_init_a7421_26 : decode cJ5_init_a7421 26 = .ok (.invokevirtual 40, 3) := by decide +kernel
theorem dJ5_init_a7421_29 : decode cJ5_init_a7421 29 = .ok (.istore 4, 2) := by decide +kernel
theorem dJ5_init_a7421_31 : decode cJ5_init_a7421 31 = .ok (.aload_n 0, 1) := by decide +kernel
theorem dJ5_init_a7421_32 : decode cJ5_init_a7421 32 = .ok (.iload 4, 2) := by decide +kernel
theorem dJ5_init_a7421_34 : decode cJ5_init_a7421 34 = .ok (.putfield 22, 3) := by decide +kernel
theorem dJ5_init_a7421_37 : decode cJ5_init_a7421 37 = .ok (.aload_n 0, 1) := by decide +kernel
theorem dJ5_init_a7421_38 : decode cJ5_init_a7421 38 = .ok (.iload 4, 2) := by decide +kernel
theorem dJ5_init_a7421_40 : decode cJ5_init_a7421 40 = .ok (.ifCond .ne 9, 3) := by decide +kernel
theorem dJ5_init_a7421_43 : decode cJ5_init_a7421 43 = .ok (.iload_n 3, 1) := by decide +kernel
theorem dJ5_init_a7421_44 : decode cJ5_init_a7421 44 = .ok (.newarray .byte, 2) := by decide +kernel
theorem dJ5_init_a7421_46 : decode cJ5_init_a7421 46 = .ok (.goto 7, 3) := by decide +kernel
theorem dJ5_init_a7421_49 : decode cJ5_init_a7421 49 = .ok (.iload_n 3, 1) := by decide +kernel
theorem dJ5_init_a7421_50 : decode cJ5_init_a7421 50 = .ok (.invokestatic 26, 3) := by decide +kernel
theorem dJ5_init_a7421_53 : decode cJ5_init_a7421 53 = .ok (.putfield 15, 3) := by decide +kernel
theorem dJ5_init_a7421_56 : decode cJ5_init_a7421 56 = .ok (.aload_n 0, 1) := by decide +kernel
theorem dJ5_init_a7421_57 : decode cJ5_init_a7421 57 = .ok (.aload_n 1, 1) := by decide +kernel
theorem dJ5_init_a7421_58 : decode cJ5_init_a7421 58 = .ok (.invokevirtual 43, 3) := by decide +kernel
theorem dJ5_init_a7421_61 : decode cJ5_init_a7421 61 = .ok (.pop, 1) := by decide +kernel
theorem dJ5_init_a7421_62 : decode cJ5_init_a7421 62 = .ok (.return_, 1) := by decide +kernel
theorem dJ5_length_8abf5_0 : decode cJ5_length_8abf5 0 = .ok (.aload_n 0, 1) := by decide +kernel
theorem dJ5_length_8abf5_1 : decode cJ5_length_8abf5 1 = .ok (.getfield 79, 3) := by decide +kernel
theorem dJ5_length_8abf5_4 : decode cJ5_length_8abf5 4 = .ok (.ireturn, 1) := by decide +kernel
theorem dJ5_ensureCapacityInternal_d00df_0 : decode cJ5_ensureCapacityInternal_d00df 0 = .ok (.aload_n 0, 1) := by decide +kernel
theorem dJ5_ensureCapacityInternal_d00df_1 : decode cJ5_ensureCapacityInternal_d00df 1 = .ok (.getfield 15, 3) := by decide +kernel
theorem dJ5_ensureCapacityInternal_d00df_4 : decode cJ5_ensureCapacityInternal_d00df 4 = .ok (.arraylength, 1) := by decide +kernel
theorem dJ5_ensureCapacityInternal_d00df_5 : decode cJ5_ensureCapacityInternal_d00df 5 = .ok (.aload_n 0, 1) := by decide +kernel
theorem dJ5_ensureCapacityInternal_d00df_6 : decode cJ5_ensureCapacityInternal_d00df 6 = .ok (.getfield 22, 3) := by decide +kernel
theorem dJ5_ensureCapacityInternal_d00df_9 : decode cJ5_ensureCapacityInternal_d00df 9 = .ok (.ishr, 1) := by decide +kernel
theorem dJ5_ensureCapacityInternal_d00df_10 : decode cJ5_ensureCapacityInternal_d00df 10 = .ok (.istore_n 2, 1) := by decide +kernel
theorem dJ5_ensureCapacityInternal_d00df_11 : decode cJ5_ensureCapacityInternal_d00df 11 = .ok (.iload_n 1, 1) := by decide +kernel
theorem dJ5_ensureCapacityInternal_d00df_12 : decode cJ5_ensureCapacityInternal_d00df 12 = .ok (.iload_n 2, 1) := by decide +kernel
theorem dJ5_ensureCapacityInternal_d00df_13 : decode cJ5_ensureCapacityInternal_d00df 13 = .ok (.isub, 1) := by decide +kernel
theorem dJ5_ensureCapacityInternal_d00df_14 : decode cJ5_ensureCapacityInternal_d00df 14 = .ok (.ifCond .le 24, 3) := by decide +kernel
theorem dJ5_ensureCapacityInternal_d00df_17 : decode cJ5_ensureCapacityInternal_d00df 17 = .ok (.aload_n 0, 1) := by decide +kernel
theorem dJ5_ensureCapacityInternal_d00df_18 : decode cJ5_ensureCapacityInternal_d00df 18 = .ok (.aload_n 0, 1) := by decide +kernel
theorem dJ5_ensureCapacityInternal_d00df_19 : decode cJ5_ensureCapacityInternal_d00df 19 = .ok (.getfield 15, 3) := by decide +kernel
theorem dJ5_ensureCapacityInternal_d00df_22 : decode cJ5_ensureCapacityInternal_d00df 22 = .ok (.aload_n 0, 1) := by decide +kernel
theorem dJ5_ensureCapacityInternal_d00df_23 : decode cJ5_ensureCapacityInternal_d00df 23 = .ok (.iload_n 1, 1) := by decide +kernel
theorem dJ5_ensureCapacityInternal_d00df_24 : decode cJ5_ensureCapacityInternal_d00df 24 = .ok (.invokevirtual 104, 3) := by decide +kernel
theorem dJ5_ensureCapacityInternal_d00df_27 : decode cJ5_ensureCapacityInternal_d00df 27 = .ok (.aload_n 0, 1) := by decide +kernel
theorem dJ5_ensureCapacityInternal_d00df_28 : decode cJ5_ensureCapacityInternal_d00df 28 = .ok (.getfield 22, 3) := by decide +kernel
theorem dJ5_ensureCapacityInternal_d00df_31 : decode cJ5_ensureCapacityInternal_d00df 31 = .ok (.ishl, 1) := by decide +kernel
theorem dJ5_ensureCapacityInternal_d00df_32 : decode cJ5_ensureCapacityInternal_d00df 32 = .ok (.invokestatic 108, 3) := by decide +kernel
theorem dJ5_ensureCapacityInternal_d00df_35 : decode cJ5_ensureCapacityInternal_d00df 35 = .ok (.putfield 15, 3) := by decide +kernel
theorem dJ5_ensureCapacityInternal_d00df_38 : decode cJ5_ensureCapacityInternal_d00df 38 = .ok (.return_, 1) := by decide +kernel
theorem dJ5_newCapacity_0f7a4_0 : decode cJ5_newCapacity_0f7a4 0 = .ok (.aload_n 0, 1) := by decide +kernel
theorem dJ5_newCapacity_0f7a4_1 : decode cJ5_newCapacity_0f7a4 1 = .ok (.getfield 15, 3) := by decide +kernel
theorem dJ5_newCapacity_0f7a4_4 : decode cJ5_newCapacity_0f7a4 4 = .ok (.arraylength, 1) := by decide +kernel
theorem dJ5_newCapacity_0f7a4_5 : decode cJ5_newCapacity_0f7a4 5 = .ok (.istore_n 2, 1) := by decide +kernel
theorem dJ5_newCapacity_0f7a4_6 : decode cJ5_newCapacity_0f7a4 6 = .ok (.iload_n 1, 1) := by decide +kernel
theorem dJ5_newCapacity_0f7a4_7 : decode cJ5_newCapacity_0f7a4 7 = .ok (.aload_n 0, 1) := by decide +kernel
theorem dJ5_newCapacity_0f7a4_8 : decode cJ5_newCapacity_0f7a4 8 = .ok (.getfield 22, 3) := by decide +kernel
theorem dJ5_newCapacity_0f7a4_11 : decode cJ5_newCapacity_0f7a4 11 = .ok (.ishl, 1) := by decide +kernel
theorem dJ5_newCapacity_0f7a4_12 : decode cJ5_newCapacity_0f7a4 12 = .ok (.istore_n 3, 1) := by decide +kernel
theorem dJ5_newCapacity_0f7a4_13 : decode cJ5_newCapacity_0f7a4 13 = .ok (.iload_n 3, 1) := by decide +kernel
theorem dJ5_newCapacity_0f7a4_14 : decode cJ5_newCapacity_0f7a4 14 = .ok (.iload_n 2, 1) := by decide +kernel
theorem dJ5_newCapacity_0f7a4_15 : decode cJ5_newCapacity_0f7a4 15 = .ok (.isub, 1) := by decide +kernel
theorem dJ5_newCapacity_0f7a4_16 : decode cJ5_newCapacity_0f7a4 16 = .ok (.istore 4, 2) := by decide +kernel
theorem dJ5_newCapacity_0f7a4_18 : decode cJ5_newCapacity_0f7a4 18 = .ok (.iload_n 2, 1) := by decide +kernel
theorem dJ5_newCapacity_0f7a4_19 : decode cJ5_newCapacity_0f7a4 19 = .ok (.iload 4, 2) := by decide +kernel
theorem dJ5_newCapacity_0f7a4_21 : decode cJ5_newCapacity_0f7a4 21 = .ok (.iload_n 2, 1) := by decide +kernel
theorem dJ5_newCapacity_0f7a4_22 : decode cJ5_newCapacity_0f7a4 22 = .ok (.iconst 2, 1) := by decide +kernel
theorem dJ5_newCapacity_0f7a4_23 : decode cJ5_newCapacity_0f7a4 23 = .ok (.aload_n 0, 1) := by decide +kernel
theorem dJ5_newCapacity_0f7a4_24 : decode cJ5_newCapacity_0f7a4 24 = .ok (.getfield 22, 3) := by decide +kernel
theorem dJ5_newCapacity_0f7a4_27 : decode cJ5_newCapacity_0f7a4 27 = .ok (.ishl, 1) := by decide +kernel
theorem dJ5_newCapacity_0f7a4_28 : decode cJ5_newCapacity_0f7a4 28 = .ok (.iadd, 1) := by decide +kernel
theorem dJ5_newCapacity_0f7a4_29 : decode cJ5_newCapacity_0f7a4 29 = .ok (.invokestatic 114, 3) := by decide +kernel
theorem dJ5_newCapacity_0f7a4_32 : decode cJ5_newCapacity_0f7a4 32 = .ok (.istore 5, 2) := by decide +kernel
theorem dJ5_newCapacity_0f7a4_34 : decode cJ5_newCapacity_0f7a4 34 = .ok (.iload 5, 2) := by decide +kernel
theorem dJ5_newCapacity_0f7a4_36 : decode cJ5_newCapacity_0f7a4 36 = .ok (.ldc 39, 2) := by decide +kernel
theorem dJ5_newCapacity_0f7a4_38 : decode cJ5_newCapacity_0f7a4 38 = .ok (.if_icmp .ne 13, 3) := by decide +kernel
theorem dJ5_newCapacity_0f7a4_41 : decode cJ5_newCapacity_0f7a4 41 = .ok (.new 120, 3) := by decide +kernel
theorem dJ5_newCapacity_0f7a4_44 : decode cJ5_newCapacity_0f7a4 44 = .ok (.dup, 1) := by decide +kernel
theorem dJ5_newCapacity_0f7a4_45 : decode cJ5_newCapacity_0f7a4 45 = .ok (.ldc 122, 2) := by decide +kernel
theorem dJ5_newCapacity_0f7a4_47 : decode cJ5_newCapacity_0f7a4 47 = .ok (.invokespecial 124, 3) := by decide +kernel
theorem dJ5_newCapacity_0f7a4_50 : decode cJ5_newCapacity_0f7a4 50 = .ok (.athrow, 1) := by decide +kernel
theorem dJ5_newCapacity_0f7a4_51 : decode cJ5_newCapacity_0f7a4 51 = .ok (.iload 5, 2) := by decide +kernel
theorem dJ5_newCapacity_0f7a4_53 : decode cJ5_newCapacity_0f7a4 53 = .ok (.aload_n 0, 1) := by decide +kernel
theorem dJ5_newCapacity_0f7a4_54 : decode cJ5_newCapacity_0f7a4 54 = .ok (.getfield 22, 3) := by decide +kernel
theorem dJ5_newCapacity_0f7a4_57 : decode cJ5_newCapacity_0f7a4 57 = .ok (.ishr, 1) := by decide +kernel
theorem dJ5_newCapacity_0f7a4_58 : decode cJ5_newCapacity_0f7a4 58 = .ok (.ireturn, 1) := by decide +kernel
theorem dJ5_inflate_da8c8_0 : decode cJ5_inflate_da8c8 0 = .ok (.aload_n 0, 1) := by decide +kernel
theorem dJ5_inflate_da8c8_1 : decode cJ5_inflate_da8c8 1 = .ok (.invokevirtual 83, 3) := by decide +kernel
theorem dJ5_inflate_da8c8_4 : decode cJ5_inflate_da8c8 4 = .ok (.ifCond .ne 4, 3) := by decide +kernel
theorem dJ5_inflate_da8c8_7 : decode cJ5_inflate_da8c8 7 = .ok (.return_, 1) := by decide +kernel
theorem dJ5_inflate_da8c8_8 : decode cJ5_inflate_da8c8 8 = .ok (.aload_n 0, 1) := by decide +kernel
theorem dJ5_inflate_da8c8_9 : decode cJ5_inflate_da8c8 9 = .ok (.getfield 15, 3) := by decide +kernel
theorem dJ5_inflate_da8c8_12 : decode cJ5_inflate_da8c8 12 = .ok (.arraylength, 1) := by decide +kernel
theorem dJ5_inflate_da8c8_13 : decode cJ5_inflate_da8c8 13 = .ok (.invokestatic 26, 3) := by decide +kernel
theorem dJ5_inflate_da8c8_16 : decode cJ5_inflate_da8c8 16 = .ok (.astore_n 1, 1) := by decide +kernel
theorem dJ5_inflate_da8c8_17 : decode cJ5_inflate_da8c8 17 = .ok (.aload_n 0, 1) := by decide +kernel
theorem dJ5_inflate_da8c8_18 : decode cJ5_inflate_da8c8 18 = .ok (.getfield 15, 3) := by decide +kernel
theorem dJ5_inflate_da8c8_21 : decode cJ5_inflate_da8c8 21 = .ok (.iconst 0, 1) := by decide +kernel
theorem dJ5_inflate_da8c8_22 : decode cJ5_inflate_da8c8 22 = .ok (.aload_n 1, 1) := by decide +kernel
theorem dJ5_inflate_da8c8_23 : decode cJ5_inflate_da8c8 23 = .ok (.iconst 0, 1) := by decide +kernel
theorem dJ5_inflate_da8c8_24 : decode cJ5_inflate_da8c8 24 = .ok (.aload_n 0, 1) := by decide +kernel
theorem dJ5_inflate_da8c8_25 : decode cJ5_inflate_da8c8 25 = .ok (.getfield 79, 3) := by decide +kernel
theorem dJ5_inflate_da8c8_28 : decode cJ5_inflate_da8c8 28 = .ok (.invokestatic 125, 3) := by decide +kernel
theorem dJ5_inflate_da8c8_31 : decode cJ5_inflate_da8c8 31 = .ok (.aload_n 0, 1) := by decide +kernel
theorem dJ5_inflate_da8c8_32 : decode cJ5_inflate_da8c8 32 = .ok (.aload_n 1, 1) := by decide +kernel
theorem dJ5_inflate_da8c8_33 : decode cJ5_inflate_da8c8 33 = .ok (.putfield 15, 3) := by decide +kernel
theorem dJ5_inflate_da8c8_36 : decode cJ5_inflate_da8c8 36 = .ok (.aload_n 0, 1) := by decide +kernel
theorem dJ5_inflate_da8c8_37 : decode cJ5_inflate_da8c8 37 = .ok (.iconst 1, 1) := by decide +kernel
theorem dJ5_inflate_da8c8_38 : decode cJ5_inflate_da8c8 38 = .ok (.putfield 22, 3) := by decide +kernel
theorem dJ5_inflate_da8c8_41 : decode cJ5_inflate_da8c8 41 = .ok (.return_, 1) := by decide +kernel
theorem dJ5_append_cf1ce_0 : decode cJ5_append_cf1ce 0 = .ok (.aload_n 1, 1) := by decide +kernel
theorem dJ5_append_cf1ce_1 : decode cJ5_append_cf1ce 1 = .ok (.ifnonnull 8, 3) := by decide +kernel
theorem dJ5_append_cf1ce_4 : decode cJ5_append_cf1ce 4 = .ok (.aload_n 0, 1) := by decide +kernel
theorem dJ5_append_cf1ce_5 : decode cJ5_append_cf1ce 5 = .ok (.invokevirtual 204, 3) := by decide +kernel
theorem dJ5_append_cf1ce_8 : decode cJ5_append_cf1ce 8 = .ok (.areturn, 1) := by decide +kernel
theorem dJ5_append_cf1ce_9 : decode cJ5_append_cf1ce 9 = .ok (.aload_n 1, 1) := by decide +kernel
theorem dJ5_append_cf1ce_10 : decode cJ5_append_cf1ce 10 = .ok (.invokevirtual 32, 3) := by decide +kernel
theorem dJ5_append_cf1ce_13 : decode cJ5_append_cf1ce 13 = .ok (.istore_n 2, 1) := by decide +kernel
theorem dJ5_append_cf1ce_14 : decode cJ5_append_cf1ce 14 = .ok (.aload_n 0, 1) := by decide +kernel
theorem dJ5_append_cf1ce_15 : decode cJ5_append_cf1ce 15 = .ok (.aload_n 0, 1) := by decide +kernel
theorem dJ5_append_cf1ce_16 : decode cJ5_append_cf1ce 16 = .ok (.getfield 79, 3) := by decide +kernel
theorem dJ5_append_cf1ce_19 : decode cJ5_append_cf1ce 19 = .ok (.iload_n 2, 1) := by decide +kernel
theorem dJ5_append_cf1ce_20 : decode cJ5_append_cf1ce 20 = .ok (.iadd, 1) := by decide +kernel
theorem dJ5_append_cf1ce_21 : decode cJ5_append_cf1ce 21 = .ok (.invokevirtual 100, 3) := by decide +kernel
theorem dJ5_append_cf1ce_24 : decode cJ5_append_cf1ce 24 = .ok (.aload_n 0, 1) := by decide +kernel
theorem dJ5_append_cf1ce_25 : decode cJ5_append_cf1ce 25 = .ok (.aload_n 0, 1) := by decide +kernel
theorem dJ5_append_cf1ce_26 : decode cJ5_append_cf1ce 26 = .ok (.getfield 79, 3) := by decide +kernel
theorem dJ5_append_cf1ce_29 : decode cJ5_append_cf1ce 29 = .ok (.aload_n 1, 1) := by decide +kernel
theorem dJ5_append_cf1ce_30 : decode cJ5_append_cf1ce 30 = .ok (.invokevirtual 208, 3) := by decide +kernel
theorem dJ5_append_cf1ce_33 : decode cJ5_append_cf1ce 33 = .ok (.aload_n 0, 1) := by decide +kernel
theorem dJ5_append_cf1ce_34 : decode cJ5_append_cf1ce 34 = .ok (.dup, 1) := by decide +kernel
theorem dJ5_append_cf1ce_35 : decode cJ5_append_cf1ce 35 = .ok (.getfield 79, 3) := by decide +kernel
theorem dJ5_append_cf1ce_38 : decode cJ5_append_cf1ce 38 = .ok (.iload_n 2, 1) := by decide +kernel
theorem dJ5_append_cf1ce_39 : decode cJ5_append_cf1ce 39 = .ok (.iadd, 1) := by decide +kernel
theorem dJ5_append_cf1ce_40 : decode cJ5_append_cf1ce 40 = .ok (.putfield 79, 3) := by decide +kernel
theorem dJ5_append_cf1ce_43 : decode cJ5_append_cf1ce 43 = .ok (.aload_n 0, 1) := by decide +kernel
theorem dJ5_append_cf1ce_44 : decode cJ5_append_cf1ce 44 = .ok (.areturn, 1) := by decide +kernel
theorem dJ5_appendNull_278bc_0 : decode cJ5_appendNull_278bc 0 = .ok (.aload_n 0, 1) := by decide +kernel
theorem dJ5_appendNull_278bc_1 : decode cJ5_appendNull_278bc 1 = .ok (.aload_n 0, 1) := by decide +kernel
theorem dJ5_appendNull_278bc_2 : decode cJ5_appendNull_278bc 2 = .ok (.getfield 79, 3) := by decide +kernel
theorem dJ5_appendNull_278bc_5 : decode cJ5_appendNull_278bc 5 = .ok (.iconst 4, 1) := by decide +kernel
theorem dJ5_appendNull_278bc_6 : decode cJ5_appendNull_278bc 6 = .ok (.iadd, 1) := by decide +kernel
theorem dJ5_appendNull_278bc_7 : decode cJ5_appendNull_278bc 7 = .ok (.invokevirtual 100, 3) := by decide +kernel
theorem dJ5_appendNull_278bc_10 : decode cJ5_appendNull_278bc 10 = .ok (.aload_n 0, 1) := by decide +kernel
theorem dJ5_appendNull_278bc_11 : decode cJ5_appendNull_278bc 11 = .ok (.getfield 79, 3) := by decide +kernel
theorem dJ5_appendNull_278bc_14 : decode cJ5_appendNull_278bc 14 = .ok (.istore_n 1, 1) := by decide +kernel
theorem dJ5_appendNull_278bc_15 : decode cJ5_appendNull_278bc 15 = .ok (.aload_n 0, 1) := by decide +kernel
theorem dJ5_appendNull_278bc_16 : decode cJ5_appendNull_278bc 16 = .ok (.getfield 15, 3) := by decide +kernel
theorem dJ5_appendNull_278bc_19 : decode cJ5_appendNull_278bc 19 = .ok (.astore_n 2, 1) := by decide +kernel
theorem dJ5_appendNull_278bc_20 : decode cJ5_appendNull_278bc 20 = .ok (.aload_n 0, 1) := by decide +kernel
theorem dJ5_appendNull_278bc_21 : decode cJ5_appendNull_278bc 21 = .ok (.invokevirtual 83, 3) := by decide +kernel
theorem dJ5_appendNull_278bc_24 : decode cJ5_appendNull_278bc 24 = .ok (.ifCond .eq 38, 3) := by decide +kernel
theorem dJ5_appendNull_278bc_27 : decode cJ5_appendNull_278bc 27 = .ok (.aload_n 2, 1) := by decide +kernel
theorem dJ5_appendNull_278bc_28 : decode cJ5_appendNull_278bc 28 = .ok (.iload_n 1, 1) := by decide +kernel
theorem dJ5_appendNull_278bc_29 : decode cJ5_appendNull_278bc 29 = .ok (.iinc 1 1, 3) := by decide +kernel
theorem dJ5_appendNull_278bc_32 : decode cJ5_appendNull_278bc 32 = .ok (.bipush 110, 2) := by decide +kernel
theorem dJ5_appendNull_278bc_34 : decode cJ5_appendNull_278bc 34 = .ok (.bastore, 1) := by decide +kernel
theorem dJ5_appendNull_278bc_35 : decode cJ5_appendNull_278bc 35 = .ok (.aload_n 2, 1) := by decide +kernel
theorem dJ5_appendNull_278bc_36 : decode cJ5_appendNull_278bc 36 = .ok (.iload_n 1, 1) := by decide +kernel
theorem dJ5_appendNull_278bc_37 : decode cJ5_appendNull_278bc 37 = .ok (.iinc 1 1, 3) := by decide +kernel
theorem dJ5_appendNull_278bc_40 : decode cJ5_appendNull_278bc 40 = .ok (.bipush 117, 2) := by decide +kernel
theorem dJ5_appendNull_278bc_42 : decode cJ5_appendNull_278bc 42 = .ok (.bastore, 1) := by decide +kernel
theorem dJ5_appendNull_278bc_43 : decode cJ5_appendNull_278bc 43 = .ok (.aload_n 2, 1) := by decide +kernel
theorem dJ5_appendNull_278bc_44 : decode cJ5_appendNull_278bc 44 = .ok (.iload_n 1, 1) := by decide +kernel
theorem dJ5_appendNull_278bc_45 : decode cJ5_appendNull_278bc 45 = .ok (.iinc 1 1, 3) := by decide +kernel
theorem dJ5_appendNull_278bc_48 : decode cJ5_appendNull_278bc 48 = .ok (.bipush 108, 2) := by decide +kernel
theorem dJ5_appendNull_278bc_50 : decode cJ5_appendNull_278bc 50 = .ok (.bastore, 1) := by decide +kernel
theorem dJ5_appendNull_278bc_51 : decode cJ5_appendNull_278bc 51 = .ok (.aload_n 2, 1) := by decide +kernel
theorem dJ5_appendNull_278bc_52 : decode cJ5_appendNull_278bc 52 = .ok (.iload_n 1, 1) := by decide +kernel
theorem dJ5_appendNull_278bc_53 : decode cJ5_appendNull_278bc 53 = .ok (.iinc 1 1, 3) := by decide +kernel
theorem dJ5_appendNull_278bc_56 : decode cJ5_appendNull_278bc 56 = .ok (.bipush 108, 2) := by decide +kernel
theorem dJ5_appendNull_278bc_58 : decode cJ5_appendNull_278bc 58 = .ok (.bastore, 1) := by decide +kernel
theorem dJ5_appendNull_278bc_59 : decode cJ5_appendNull_278bc 59 = .ok (.goto 17, 3) := by decide +kernel
theorem dJ5_appendNull_278bc_62 : decode cJ5_appendNull_278bc 62 = .ok (.aload_n 2, 1) := by decide +kernel
theorem dJ5_appendNull_278bc_63 : decode cJ5_appendNull_278bc 63 = .ok (.iload_n 1, 1) := by decide +kernel
theorem dJ5_appendNull_278bc_64 : decode cJ5_appendNull_278bc 64 = .ok (.bipush 110, 2) := by decide +kernel
theorem dJ5_appendNull_278bc_66 : decode cJ5_appendNull_278bc 66 = .ok (.bipush 117, 2) := by decide +kernel
theorem dJ5_appendNull_278bc_68 : decode cJ5_appendNull_278bc 68 = .ok (.bipush 108, 2) := by decide +kernel
theorem dJ5_appendNull_278bc_70 : decode cJ5_appendNull_278bc 70 = .ok (.bipush 108, 2) := by decide +kernel
theorem dJ5_appendNull_278bc_72 : decode cJ5_appendNull_278bc 72 = .ok (.invokestatic 226, 3) := by decide +kernel
theorem dJ5_appendNull_278bc_75 : decode cJ5_appendNull_278bc 75 = .ok (.istore_n 1, 1) := by decide +kernel
theorem dJ5_appendNull_278bc_76 : decode cJ5_appendNull_278bc 76 = .ok (.aload_n 0, 1) := by decide +kernel
theorem dJ5_appendNull_278bc_77 : decode cJ5_appendNull_278bc 77 = .ok (.iload_n 1, 1) := by decide +kernel
theorem dJ5_appendNull_278bc_78 : decode cJ5_appendNull_278bc 78 = .ok (.putfield 79, 3) := by decide +kernel
theorem dJ5_appendNull_278bc_81 : decode cJ5_appendNull_278bc 81 = .ok (.aload_n 0, 1) := by decide +kernel
theorem dJ5_appendNull_278bc_82 : decode cJ5_appendNull_278bc 82 = .ok (.areturn, 1) := by decide +kernel
theorem dJ5_append_3fe6f_0 : decode cJ5_append_3fe6f 0 = .ok (.aload_n 0, 1) := by decide +kernel
theorem dJ5_append_3fe6f_1 : decode cJ5_append_3fe6f 1 = .ok (.aload_n 0, 1) := by decide +kernel
theorem dJ5_append_3fe6f_2 : decode cJ5_append_3fe6f 2 = .ok (.getfield 79, 3) := by decide +kernel
theorem dJ5_append_3fe6f_5 : decode cJ5_append_3fe6f 5 = .ok (.iconst 1, 1) := by decide +kernel
theorem dJ5_append_3fe6f_6 : decode cJ5_append_3fe6f 6 = .ok (.iadd, 1) := by decide +kernel
theorem dJ5_append_3fe6f_7 : decode cJ5_append_3fe6f 7 = .ok (.invokevirtual 100, 3) := by decide +kernel
theorem dJ5_append_3fe6f_10 : decode cJ5_append_3fe6f 10 = .ok (.aload_n 0, 1) := by decide +kernel
theorem dJ5_append_3fe6f_11 : decode cJ5_append_3fe6f 11 = .ok (.invokevirtual 83, 3) := by decide +kernel
theorem dJ5_append_3fe6f_14 : decode cJ5_append_3fe6f 14 = .ok (.ifCond .eq 31, 3) := by decide +kernel
theorem dJ5_append_3fe6f_17 : decode cJ5_append_3fe6f 17 = .ok (.iload_n 1, 1) := by decide +kernel
theorem dJ5_append_3fe6f_18 : decode cJ5_append_3fe6f 18 = .ok (.invokestatic 191, 3) := by decide +kernel
theorem dJ5_append_3fe6f_21 : decode cJ5_append_3fe6f 21 = .ok (.ifCond .eq 24, 3) := by decide +kernel
theorem dJ5_append_3fe6f_24 : decode cJ5_append_3fe6f 24 = .ok (.aload_n 0, 1) := by decide +kernel
theorem dJ5_append_3fe6f_25 : decode cJ5_append_3fe6f 25 = .ok (.getfield 15, 3) := by decide +kernel
theorem dJ5_append_3fe6f_28 : decode cJ5_append_3fe6f 28 = .ok (.aload_n 0, 1) := by decide +kernel
theorem dJ5_append_3fe6f_29 : decode cJ5_append_3fe6f 29 = .ok (.dup, 1) := by decide +kernel
theorem dJ5_append_3fe6f_30 : decode cJ5_append_3fe6f 30 = .ok (.getfield 79, 3) := by decide +kernel
theorem dJ5_append_3fe6f_33 : decode cJ5_append_3fe6f 33 = .ok (.dup_x1, 1) := by decide +kernel
theorem dJ5_append_3fe6f_34 : decode cJ5_append_3fe6f 34 = .ok (.iconst 1, 1) := by decide +kernel
theorem dJ5_append_3fe6f_35 : decode cJ5_append_3fe6f 35 = .ok (.iadd, 1) := by decide +kernel
theorem dJ5_append_3fe6f_36 : decode cJ5_append_3fe6f 36 = .ok (.putfield 79, 3) := by decide +kernel
theorem dJ5_append_3fe6f_39 : decode cJ5_append_3fe6f 39 = .ok (.iload_n 1, 1) := by decide +kernel
theorem dJ5_append_3fe6f_40 : decode cJ5_append_3fe6f 40 = .ok (.i2b, 1) := by decide +kernel
theorem dJ5_append_3fe6f_41 : decode cJ5_append_3fe6f 41 = .ok (.bastore, 1) := by decide +kernel
theorem dJ5_append_3fe6f_42 : decode cJ5_append_3fe6f 42 = .ok (.goto 33, 3) := by decide +kernel
theorem dJ5_append_3fe6f_45 : decode cJ5_append_3fe6f 45 = .ok (.aload_n 0, 1) := by decide +kernel
theorem dJ5_append_3fe6f_46 : decode cJ5_append_3fe6f 46 = .ok (.invokevirtual 83, 3) := by decide +kernel
theorem dJ5_append_3fe6f_49 : decode cJ5_append_3fe6f 49 = .ok (.ifCond .eq 7, 3) := by decide +kernel
theorem dJ5_append_3fe6f_52 : decode cJ5_append_3fe6f 52 = .ok (.aload_n 0, 1) := by decide +kernel
theorem dJ5_append_3fe6f_53 : decode cJ5_append_3fe6f 53 = .ok (.invokevirtual 195, 3) := by decide +kernel
theorem dJ5_append_3fe6f_56 : decode cJ5_append_3fe6f 56 = .ok (.aload_n 0, 1) := by decide +kernel
theorem dJ5_append_3fe6f_57 : decode cJ5_append_3fe6f 57 = .ok (.getfield 15, 3) := by decide +kernel
theorem dJ5_append_3fe6f_60 : decode cJ5_append_3fe6f 60 = .ok (.aload_n 0, 1) := by decide +kernel
theorem dJ5_append_3fe6f_61 : decode cJ5_append_3fe6f 61 = .ok (.dup, 1) := by decide +kernel
theorem dJ5_append_3fe6f_62 : decode cJ5_append_3fe6f 62 = .ok (.getfield 79, 3) := by decide +kernel
theorem dJ5_append_3fe6f_65 : decode cJ5_append_3fe6f 65 = .ok (.dup_x1, 1) := by decide +kernel
theorem dJ5_append_3fe6f_66 : decode cJ5_append_3fe6f 66 = .ok (.iconst 1, 1) := by decide +kernel
theorem dJ5_append_3fe6f_67 : decode cJ5_append_3fe6f 67 = .ok (.iadd, 1) := by decide +kernel
theorem dJ5_append_3fe6f_68 : decode cJ5_append_3fe6f 68 = .ok (.putfield 79, 3) := by decide +kernel
theorem dJ5_append_3fe6f_71 : decode cJ5_append_3fe6f 71 = .ok (.iload_n 1, 1) := by decide +kernel
theorem dJ5_append_3fe6f_72 : decode cJ5_append_3fe6f 72 = .ok (.invokestatic 197, 3) := by decide +kernel
theorem dJ5_append_3fe6f_75 : decode cJ5_append_3fe6f 75 = .ok (.aload_n 0, 1) := by decide +kernel
theorem dJ5_append_3fe6f_76 : decode cJ5_append_3fe6f 76 = .ok (.areturn, 1) := by decide +kernel
theorem dJ5_append_c97b9_0 : decode cJ5_append_c97b9 0 = .ok (.aload_n 0, 1) := by decide +kernel
theorem dJ5_append_c97b9_1 : decode cJ5_append_c97b9 1 = .ok (.getfield 79, 3) := by decide +kernel
theorem dJ5_append_c97b9_4 : decode cJ5_append_c97b9 4 = .ok (.istore_n 2, 1) := by decide +kernel
theorem dJ5_append_c97b9_5 : decode cJ5_append_c97b9 5 = .ok (.iload_n 2, 1) := by decide +kernel
theorem dJ5_append_c97b9_6 : decode cJ5_append_c97b9 6 = .ok (.iload_n 1, 1) := by decide +kernel
theorem dJ5_append_c97b9_7 : decode cJ5_append_c97b9 7 = .ok (.invokestatic 245, 3) := by decide +kernel
theorem dJ5_append_c97b9_10 : decode cJ5_append_c97b9 10 = .ok (.iadd, 1) := by decide +kernel
theorem dJ5_append_c97b9_11 : decode cJ5_append_c97b9 11 = .ok (.istore_n 3, 1) := by decide +kernel
theorem dJ5_append_c97b9_12 : decode cJ5_append_c97b9 12 = .ok (.aload_n 0, 1) := by decide +kernel
theorem dJ5_append_c97b9_13 : decode cJ5_append_c97b9 13 = .ok (.iload_n 3, 1) := by decide +kernel
theorem dJ5_append_c97b9_14 : decode cJ5_append_c97b9 14 = .ok (.invokevirtual 100, 3) := by decide +kernel
theorem dJ5_append_c97b9_17 : decode cJ5_append_c97b9 17 = .ok (.aload_n 0, 1) := by decide +kernel
theorem dJ5_append_c97b9_18 : decode cJ5_append_c97b9 18 = .ok (.invokevirtual 83, 3) := by decide +kernel
theorem dJ5_append_c97b9_21 : decode cJ5_append_c97b9 21 = .ok (.ifCond .eq 16, 3) := by decide +kernel
theorem dJ5_append_c97b9_24 : decode cJ5_append_c97b9 24 = .ok (.iload_n 1, 1) := by decide +kernel
theorem dJ5_append_c97b9_25 : decode cJ5_append_c97b9 25 = .ok (.iload_n 3, 1) := by decide +kernel
theorem dJ5_append_c97b9_26 : decode cJ5_append_c97b9 26 = .ok (.aload_n 0, 1) := by decide +kernel
theorem dJ5_append_c97b9_27 : decode cJ5_append_c97b9 27 = .ok (.getfield 15, 3) := by decide +kernel
theorem dJ5_append_c97b9_30 : decode cJ5_append_c97b9 30 = .ok (.invokestatic 248, 3) := by decide +kernel
theorem dJ5_append_c97b9_33 : decode cJ5_append_c97b9 33 = .ok (.pop, 1) := by decide +kernel
theorem dJ5_append_c97b9_34 : decode cJ5_append_c97b9 34 = .ok (.goto 14, 3) := by decide +kernel
theorem dJ5_append_c97b9_37 : decode cJ5_append_c97b9 37 = .ok (.iload_n 1, 1) := by decide +kernel
theorem dJ5_append_c97b9_38 : decode cJ5_append_c97b9 38 = .ok (.iload_n 2, 1) := by decide +kernel
theorem dJ5_append_c97b9_39 : decode cJ5_append_c97b9 39 = .ok (.iload_n 3, 1) := by decide +kernel
theorem dJ5_append_c97b9_40 : decode cJ5_append_c97b9 40 = .ok (.aload_n 0, 1) := by decide +kernel
theorem dJ5_append_c97b9_41 : decode cJ5_append_c97b9 41 = .ok (.getfield 15, 3) := by decide +kernel
theorem dJ5_append_c97b9_44 : decode cJ5_append_c97b9 44 = .ok (.invokestatic 251, 3) := by decide +kernel
theorem dJ5_append_c97b9_47 : decode cJ5_append_c97b9 47 = .ok (.pop, 1) := by decide +kernel
theorem dJ5_append_c97b9_48 : decode cJ5_append_c97b9 48 = .ok (.aload_n 0, 1) := by decide +kernel
theorem dJ5_append_c97b9_49 : decode cJ5_append_c97b9 49 = .ok (.iload_n 3, 1) := by decide +kernel
theorem dJ5_append_c97b9_50 : decode cJ5_append_c97b9 50 = .ok (.putfield 79, 3) := by decide +kernel
theorem dJ5_append_c97b9_53 : decode cJ5_append_c97b9 53 = .ok (.aload_n 0, 1) := by decide +kernel
theorem dJ5_append_c97b9_54 : decode cJ5_append_c97b9 54 = .ok (.areturn, 1) := by decide +kernel
theorem dJ5_getValue_6d5f1_0 : decode cJ5_getValue_6d5f1 0 = .ok (.aload_n 0, 1) := by decide +kernel
theorem dJ5_getValue_6d5f1_1 : decode cJ5_getValue_6d5f1 1 = .ok (.getfield 15, 3) := by decide +kernel
theorem dJ5_getValue_6d5f1_4 : decode cJ5_getValue_6d5f1 4 = .ok (.areturn, 1) := by decide +kernel
theorem dJ5_isLatin1_aae02_0 : decode cJ5_isLatin1_aae02 0 = .ok (.getstatic 18, 3) := by decide +kernel
theorem dJ5_isLatin1_aae02_3 : decode cJ5_isLatin1_aae02 3 = .ok (.ifCond .eq 14, 3) := by decide +kernel
theorem dJ5_isLatin1_aae02_6 : decode cJ5_isLatin1_aae02 6 = .ok (.aload_n 0, 1) := by decide +kernel
theorem dJ5_isLatin1_aae02_7 : decode cJ5_isLatin1_aae02 7 = .ok (.getfield 22, 3) := by decide +kernel
theorem dJ5_isLatin1_aae02_10 : decode cJ5_isLatin1_aae02 10 = .ok (.ifCond .ne 7, 3) := by decide +kernel
theorem dJ5_isLatin1_aae02_13 : decode cJ5_isLatin1_aae02 13 = .ok (.iconst 1, 1) := by decide +kernel
theorem dJ5_isLatin1_aae02_14 : decode cJ5_isLatin1_aae02 14 = .ok (.goto 4, 3) := by decide +kernel
theorem dJ5_isLatin1_aae02_17 : decode cJ5_isLatin1_aae02 17 = .ok (.iconst 0, 1) := by decide +kernel
theorem dJ5_isLatin1_aae02_18 : decode cJ5_isLatin1_aae02 18 = .ok (.ireturn, 1) := by decide +kernel
theorem dJ5_inflateIfNeededFor_a7421_0 : decode cJ5_inflateIfNeededFor_a7421 0 = .ok (.getstatic 18, 3) := by decide +kernel
theorem dJ5_inflateIfNeededFor_a7421_3 : decode cJ5_inflateIfNeededFor_a7421 3 = .ok (.ifCond .eq 18, 3) := by decide +kernel
theorem dJ5_inflateIfNeededFor_a7421_6 : decode cJ5_inflateIfNeededFor_a7421 6 = .ok (.aload_n 0, 1) := by decide +kernel
theorem dJ5_inflateIfNeededFor_a7421_7 : decode cJ5_inflateIfNeededFor_a7421 7 = .ok (.getfield 22, 3) := by decide +kernel
theorem dJ5_inflateIfNeededFor_a7421_10 : decode cJ5_inflateIfNeededFor_a7421 10 = .ok (.aload_n 1, 1) := by decide +kernel
theorem dJ5_inflateIfNeededFor_a7421_11 : decode cJ5_inflateIfNeededFor_a7421 11 = .ok (.invokevirtual 40, 3) := by decide +kernel
theorem dJ5_inflateIfNeededFor_a7421_14 : decode cJ5_inflateIfNeededFor_a7421 14 = .ok (.if_icmp .eq 7, 3) := by decide +kernel
theorem dJ5_inflateIfNeededFor_a7421_17 : decode cJ5_inflateIfNeededFor_a7421 17 = .ok (.aload_n 0, 1) := by decide +kernel
theorem dJ5_inflateIfNeededFor_a7421_18 : decode cJ5_inflateIfNeededFor_a7421 18 = .ok (.invokevirtual 195, 3) := by decide +kernel
theorem dJ5_inflateIfNeededFor_a7421_21 : decode cJ5_inflateIfNeededFor_a7421 21 = .ok (.return_, 1) := by decide +kernel
theorem dJ5_putStringAt_47b60_0 : decode cJ5_putStringAt_47b60 0 = .ok (.aload_n 0, 1) := by decide +kernel
theorem dJ5_putStringAt_47b60_1 : decode cJ5_putStringAt_47b60 1 = .ok (.aload_n 2, 1) := by decide +kernel
theorem dJ5_putStringAt_47b60_2 : decode cJ5_putStringAt_47b60 2 = .ok (.invokevirtual 397, 3) := by decide +kernel
theorem dJ5_putStringAt_47b60_5 : decode cJ5_putStringAt_47b60 5 = .ok (.aload_n 2, 1) := by decide +kernel
theorem dJ5_putStringAt_47b60_6 : decode cJ5_putStringAt_47b60 6 = .ok (.aload_n 0, 1) := by decide +kernel
theorem dJ5_putStringAt_47b60_7 : decode cJ5_putStringAt_47b60 7 = .ok (.getfield 15, 3) := by decide +kernel
theorem dJ5_putStringAt_47b60_10 : decode cJ5_putStringAt_47b60 10 = .ok (.iload_n 1, 1) := by decide +kernel
theorem dJ5_putStringAt_47b60_11 : decode cJ5_putStringAt_47b60 11 = .ok (.aload_n 0, 1) := by decide +kernel
theorem dJ5_putStringAt_47b60_12 : decode cJ5_putStringAt_47b60 12 = .ok (.getfield 22, 3) := by decide +kernel
theorem dJ5_putStringAt_47b60_15 : decode cJ5_putStringAt_47b60 15 = .ok (.invokevirtual 399, 3) := by decide +kernel
theorem dJ5_putStringAt_47b60_18 : decode cJ5_putStringAt_47b60 18 = .ok (.return_, 1) := by decide +kernel
theorem dJ6_getChars_ba4f3_0 : decode cJ6_getChars_ba4f3 0 = .ok (.iload_n 1, 1) := by decide +kernel
theorem dJ6_getChars_ba4f3_1 : decode cJ6_getChars_ba4f3 1 = .ok (.istore 5, 2) := by decide +kernel
theorem dJ6_getChars_ba4f3_3 : decode cJ6_getChars_ba4f3 3 = .ok (.iload_n 0, 1) := by decide +kernel
theorem dJ6_getChars_ba4f3_4 : decode cJ6_getChars_ba4f3 4 = .ok (.ifCond .ge 7, 3) := by decide +kernel
theorem dJ6_getChars_ba4f3_7 : decode cJ6_getChars_ba4f3 7 = .ok (.iconst 1, 1) := by decide +kernel
theorem dJ6_getChars_ba4f3_8 : decode cJ6_getChars_ba4f3 8 = .ok (.goto 4, 3) := by decide +kernel
theorem dJ6_getChars_ba4f3_11 : decode cJ6_getChars_ba4f3 11 = .ok (.iconst 0, 1) := by decide +kernel
theorem dJ6_getChars_ba4f3_12 : decode cJ6_getChars_ba4f3 12 = .ok (.istore 6, 2) := by decide +kernel
theorem dJ6_getChars_ba4f3_14 : decode cJ6_getChars_ba4f3 14 = .ok (.iload 6, 2) := by decide +kernel
theorem dJ6_getChars_ba4f3_16 : decode cJ6_getChars_ba4f3 16 = .ok (.ifCond .ne 6, 3) := by decide +kernel
theorem dJ6_getChars_ba4f3_19 : decode cJ6_getChars_ba4f3 19 = .ok (.iload_n 0, 1) := by decide +kernel
theorem dJ6_getChars_ba4f3_20 : decode cJ6_getChars_ba4f3 20 = .ok (.ineg, 1) := by decide +kernel
theorem dJ6_getChars_ba4f3_21 : decode cJ6_getChars_ba4f3 21 = .ok (.istore_n 0, 1) := by decide +kernel
theorem dJ6_getChars_ba4f3_22 : decode cJ6_getChars_ba4f3 22 = .ok (.iload_n 0, 1) := by decide +kernel
theorem dJ6_getChars_ba4f3_23 : decode cJ6_getChars_ba4f3 23 = .ok (.bipush (-100), 2) := by decide +kernel
theorem dJ6_getChars_ba4f3_25 : decode cJ6_getChars_ba4f3 25 = .ok (.if_icmp .gt 47, 3) := by decide +kernel
theorem dJ6_getChars_ba4f3_28 : decode cJ6_getChars_ba4f3 28 = .ok (.iload_n 0, 1) := by decide +kernel
theorem dJ6_getChars_ba4f3_29 : decode cJ6_getChars_ba4f3 29 = .ok (.bipush 100, 2) := by decide +kernel
theorem dJ6_getChars_ba4f3_31 : decode cJ6_getChars_ba4f3 31 = .ok (.idiv, 1) := by decide +kernel
theorem dJ6_getChars_ba4f3_32 : decode cJ6_getChars_ba4f3 32 = .ok (.istore_n 3, 1) := by decide +kernel
theorem dJ6_getChars_ba4f3_33 : decode cJ6_getChars_ba4f3 33 = .ok (.iload_n 3, 1) := by decide +kernel
theorem dJ6_getChars_ba4f3_34 : decode cJ6_getChars_ba4f3 34 = .ok (.bipush 100, 2) := by decide +kernel
theorem dJ6_getChars_ba4f3_36 : decode cJ6_getChars_ba4f3 36 = .ok (.imul, 1) := by decide +kernel
theorem dJ6_getChars_ba4f3_37 : decode cJ6_getChars_ba4f3 37 = .ok (.iload_n 0, 1) := by decide +kernel
theorem dJ6_getChars_ba4f3_38 : decode cJ6_getChars_ba4f3 38 = .ok (.isub, 1) := by decide +kernel
theorem dJ6_getChars_ba4f3_39 : decode cJ6_getChars_ba4f3 39 = .ok (.istore 4, 2) := by decide +kernel
theorem dJ6_getChars_ba4f3_41 : decode cJ6_getChars_ba4f3 41 = .ok (.iload_n 3, 1) := by decide +kernel
theorem dJ6_getChars_ba4f3_42 : decode cJ6_getChars_ba4f3 42 = .ok (.istore_n 0, 1) := by decide +kernel
theorem dJ6_getChars_ba4f3_43 : decode cJ6_getChars_ba4f3 43 = .ok (.aload_n 2, 1) := by decide +kernel
theorem dJ6_getChars_ba4f3_44 : decode cJ6_getChars_ba4f3 44 = .ok (.iinc 5 (-1), 3) := by decide +kernel
theorem dJ6_getChars_ba4f3_47 : decode cJ6_getChars_ba4f3 47 = .ok (.iload 5, 2) := by decide +kernel
theorem dJ6_getChars_ba4f3_49 : decode cJ6_getChars_ba4f3 49 = .ok (.getstatic 83, 3) := by decide +kernel
theorem dJ6_getChars_ba4f3_52 : decode cJ6_getChars_ba4f3 52 = .ok (.iload 4, 2) := by decide +kernel
theorem dJ6_getChars_ba4f3_54 : decode cJ6_getChars_ba4f3 54 = .ok (.baload, 1) := by decide +kernel
theorem dJ6_getChars_ba4f3_55 : decode cJ6_getChars_ba4f3 55 = .ok (.bastore, 1) := by decide +kernel
theorem dJ6_getChars_ba4f3_56 : decode cJ6_getChars_ba4f3 56 = .ok (.aload_n 2, 1) := by decide +kernel
theorem dJ6_getChars_ba4f3_57 : decode cJ6_getChars_ba4f3 57 = .ok (.iinc 5 (-1), 3) := by decide +kernel
theorem dJ6_getChars_ba4f3_60 : decode cJ6_getChars_ba4f3 60 = .ok (.iload 5, 2) := by decide +kernel
theorem dJ6_getChars_ba4f3_62 : decode cJ6_getChars_ba4f3 62 = .ok (.getstatic 87, 3) := by decide +kernel
theorem dJ6_getChars_ba4f3_65 : decode cJ6_getChars_ba4f3 65 = .ok (.iload 4, 2) := by decide +kernel
theorem dJ6_getChars_ba4f3_67 : decode cJ6_getChars_ba4f3 67 = .ok (.baload, 1) := by decide +kernel
theorem dJ6_getChars_ba4f3_68 : decode cJ6_getChars_ba4f3 68 = .ok (.bastore, 1) := by decide +kernel
theorem dJ6_getChars_ba4f3_69 : decode cJ6_getChars_ba4f3 69 = .ok (.goto (-47), 3) := by decide +kernel
theorem dJ6_getChars_ba4f3_72 : decode cJ6_getChars_ba4f3 72 = .ok (.aload_n 2, 1) := by decide +kernel
theorem dJ6_getChars_ba4f3_73 : decode cJ6_getChars_ba4f3 73 = .ok (.iinc 5 (-1), 3) := by decide +kernel
theorem dJ6_getChars_ba4f3_76 : decode cJ6_getChars_ba4f3 76 = .ok (.iload 5, 2) := by decide +kernel
theorem dJ6_getChars_ba4f3_78 : decode cJ6_getChars_ba4f3 78 = .ok (.getstatic 83, 3) := by decide +kernel
theorem dJ6_getChars_ba4f3_81 : decode cJ6_getChars_ba4f3 81 = .ok (.iload_n 0, 1) := by decide +kernel
theorem dJ6_getChars_ba4f3_82 : decode cJ6_getChars_ba4f3 82 = .ok (.ineg, 1) := by decide +kernel
theorem dJ6_getChars_ba4f3_83 : decode cJ6_getChars_ba4f3 83 = .ok (.baload, 1) := by decide +kernel
theorem dJ6_getChars_ba4f3_84 : decode cJ6_getChars_ba4f3 84 = .ok (.bastore, 1) := by decide +kernel
theorem dJ6_getChars_ba4f3_85 : decode cJ6_getChars_ba4f3 85 = .ok (.iload_n 0, 1) := by decide +kernel
theorem dJ6_getChars_ba4f3_86 : decode cJ6_getChars_ba4f3 86 = .ok (.bipush (-9), 2) := by decide +kernel
theorem dJ6_getChars_ba4f3_88 : decode cJ6_getChars_ba4f3 88 = .ok (.if_icmp .ge 16, 3) := by decide +kernel
theorem dJ6_getChars_ba4f3_91 : decode cJ6_getChars_ba4f3 91 = .ok (.aload_n 2, 1) := by decide +kernel
theorem dJ6_getChars_ba4f3_92 : decode cJ6_getChars_ba4f3 92 = .ok (.iinc 5 (-1), 3) := by decide +kernel
theorem dJ6_getChars_ba4f3_95 : decode cJ6_getChars_ba4f3 95 = .ok (.iload 5, 2) := by decide +kernel
theorem dJ6_getChars_ba4f3_97 : decode cJ6_getChars_ba4f3 97 = .ok (.getstatic 87, 3) := by decide +kernel
theorem dJ6_getChars_ba4f3_100 : decode cJ6_getChars_ba4f3 100 = .ok (.iload_n 0, 1) := by decide +kernel
theorem dJ6_getChars_ba4f3_101 : decode cJ6_getChars_ba4f3 101 = .ok (.ineg, 1) := by decide +kernel
theorem dJ6_getChars_ba4f3_102 : decode cJ6_getChars_ba4f3 102 = .ok (.baload, 1) := by decide +kernel
theorem dJ6_getChars_ba4f3_103 : decode cJ6_getChars_ba4f3 103 = .ok (.bastore, 1) := by decide +kernel
theorem dJ6_getChars_ba4f3_104 : decode cJ6_getChars_ba4f3 104 = .ok (.iload 6, 2) := by decide +kernel
theorem dJ6_getChars_ba4f3_106 : decode cJ6_getChars_ba4f3 106 = .ok (.ifCond .eq 12, 3) := by decide +kernel
theorem dJ6_getChars_ba4f3_109 : decode cJ6_getChars_ba4f3 109 = .ok (.aload_n 2, 1) := by decide +kernel
theorem dJ6_getChars_ba4f3_110 : decode cJ6_getChars_ba4f3 110 = .ok (.iinc 5 (-1), 3) := by decide +kernel
theorem dJ6_getChars_ba4f3_113 : decode cJ6_getChars_ba4f3 113 = .ok (.iload 5, 2) := by decide +kernel
theorem dJ6_getChars_ba4f3_115 : decode cJ6_getChars_ba4f3 115 = .ok (.bipush 45, 2) := by decide +kernel
theorem dJ6_getChars_ba4f3_117 : decode cJ6_getChars_ba4f3 117 = .ok (.bastore, 1) := by decide +kernel
theorem dJ6_getChars_ba4f3_118 : decode cJ6_getChars_ba4f3 118 = .ok (.iload 5, 2) := by decide +kernel
theorem dJ6_getChars_ba4f3_120 : decode cJ6_getChars_ba4f3 120 = .ok (.ireturn, 1) := by decide +kernel
theorem dJ6_stringSize_0f7a4_0 : decode cJ6_stringSize_0f7a4 0 = .ok (.iconst 1, 1) := by decide +kernel
theorem dJ6_stringSize_0f7a4_1 : decode cJ6_stringSize_0f7a4 1 = .ok (.istore_n 1, 1) := by decide +kernel
theorem dJ6_stringSize_0f7a4_2 : decode cJ6_stringSize_0f7a4 2 = .ok (.iload_n 0, 1) := by decide +kernel
theorem dJ6_stringSize_0f7a4_3 : decode cJ6_stringSize_0f7a4 3 = .ok (.ifCond .lt 8, 3) := by decide +kernel
theorem dJ6_stringSize_0f7a4_6 : decode cJ6_stringSize_0f7a4 6 = .ok (.iconst 0, 1) := by decide +kernel
theorem dJ6_stringSize_0f7a4_7 : decode cJ6_stringSize_0f7a4 7 = .ok (.istore_n 1, 1) := by decide +kernel
theorem dJ6_stringSize_0f7a4_8 : decode cJ6_stringSize_0f7a4 8 = .ok (.iload_n 0, 1) := by decide +kernel
theorem dJ6_stringSize_0f7a4_9 : decode cJ6_stringSize_0f7a4 9 = .ok (.ineg, 1) := by decide +kernel
theorem dJ6_stringSize_0f7a4_10 : decode cJ6_stringSize_0f7a4 10 = .ok (.istore_n 0, 1) := by decide +kernel
theorem dJ6_stringSize_0f7a4_11 : decode cJ6_stringSize_0f7a4 11 = .ok (.bipush (-10), 2) := by decide +kernel
theorem dJ6_stringSize_0f7a4_13 : decode cJ6_stringSize_0f7a4 13 = .ok (.istore_n 2, 1) := by decide +kernel
theorem dJ6_stringSize_0f7a4_14 : decode cJ6_stringSize_0f7a4 14 = .ok (.iconst 1, 1) := by decide +kernel
theorem dJ6_stringSize_0f7a4_15 : decode cJ6_stringSize_0f7a4 15 = .ok (.istore_n 3, 1) := by decide +kernel
theorem dJ6_stringSize_0f7a4_16 : decode cJ6_stringSize_0f7a4 16 = .ok (.iload_n 3, 1) := by decide +kernel
theorem dJ6_stringSize_0f7a4_17 : decode cJ6_stringSize_0f7a4 17 = .ok (.bipush 10, 2) := by decide +kernel
theorem dJ6_stringSize_0f7a4_19 : decode cJ6_stringSize_0f7a4 19 = .ok (.if_icmp .ge 23, 3) := by decide +kernel
theorem dJ6_stringSize_0f7a4_22 : decode cJ6_stringSize_0f7a4 22 = .ok (.iload_n 0, 1) := by decide +kernel
theorem dJ6_stringSize_0f7a4_23 : decode cJ6_stringSize_0f7a4 23 = .ok (.iload_n 2, 1) := by decide +kernel
theorem dJ6_stringSize_0f7a4_24 : decode cJ6_stringSize_0f7a4 24 = .ok (.if_icmp .le 7, 3) := by decide +kernel
theorem dJ6_stringSize_0f7a4_27 : decode cJ6_stringSize_0f7a4 27 = .ok (.iload_n 3, 1) := by decide +kernel
theorem dJ6_stringSize_0f7a4_28 : decode cJ6_stringSize_0f7a4 28 = .ok (.iload_n 1, 1) := by decide +kernel
theorem dJ6_stringSize_0f7a4_29 : decode cJ6_stringSize_0f7a4 29 = .ok (.iadd, 1) := by decide +kernel
theorem dJ6_stringSize_0f7a4_30 : decode cJ6_stringSize_0f7a4 30 = .ok (.ireturn, 1) := by decide +kernel
theorem dJ6_stringSize_0f7a4_31 : decode cJ6_stringSize_0f7a4 31 = .ok (.bipush 10, 2) := by decide +kernel
theorem dJ6_stringSize_0f7a4_33 : decode cJ6_stringSize_0f7a4 33 = .ok (.iload_n 2, 1) := by decide +kernel
theorem dJ6_stringSize_0f7a4_34 : decode cJ6_stringSize_0f7a4 34 = .ok (.imul, 1) := by decide +kernel
theorem dJ6_stringSize_0f7a4_35 : decode cJ6_stringSize_0f7a4 35 = .ok (.istore_n 2, 1) := by decide +kernel
theorem dJ6_stringSize_0f7a4_36 : decode cJ6_stringSize_0f7a4 36 = .ok (.iinc 3 1, 3) := by decide +kernel
theorem dJ6_stringSize_0f7a4_39 : decode cJ6_stringSize_0f7a4 39 = .ok (.goto (-23), 3) := by decide +kernel
theorem dJ6_stringSize_0f7a4_42 : decode cJ6_stringSize_0f7a4 42 = .ok (.bipush 10, 2) := by decide +kernel
theorem dJ6_stringSize_0f7a4_44 : decode cJ6_stringSize_0f7a4 44 = .ok (.iload_n 1, 1) := by decide +kernel
theorem dJ6_stringSize_0f7a4_45 : decode cJ6_stringSize_0f7a4 45 = .ok (.iadd, 1) := by decide +kernel
theorem dJ6_stringSize_0f7a4_46 : decode cJ6_stringSize_0f7a4 46 = .ok (.ireturn, 1) := by decide +kernel
theorem dJ9_abs_0f7a4_0 : decode cJ9_abs_0f7a4 0 = .ok (.iload_n 0, 1) := by decide +kernel
theorem dJ9_abs_0f7a4_1 : decode cJ9_abs_0f7a4 1 = .ok (.ifCond .ge 8, 3) := by decide +kernel
theorem dJ9_abs_0f7a4_4 : decode cJ9_abs_0f7a4 4 = .ok (.iload_n 0, 1) := by decide +kernel
theorem dJ9_abs_0f7a4_5 : decode cJ9_abs_0f7a4 5 = .ok (.ineg, 1) := by decide +kernel
theorem dJ9_abs_0f7a4_6 : decode cJ9_abs_0f7a4 6 = .ok (.goto 4, 3) := by decide +kernel
theorem dJ9_abs_0f7a4_9 : decode cJ9_abs_0f7a4 9 = .ok (.iload_n 0, 1) := by decide +kernel
theorem dJ9_abs_0f7a4_10 : decode cJ9_abs_0f7a4 10 = .ok (.ireturn, 1) := by decide +kernel
theorem dJ9_max_7cf53_0 : decode cJ9_max_7cf53 0 = .ok (.iload_n 0, 1) := by decide +kernel
theorem dJ9_max_7cf53_1 : decode cJ9_max_7cf53 1 = .ok (.iload_n 1, 1) := by decide +kernel
theorem dJ9_max_7cf53_2 : decode cJ9_max_7cf53 2 = .ok (.if_icmp .lt 7, 3) := by decide +kernel
theorem dJ9_max_7cf53_5 : decode cJ9_max_7cf53 5 = .ok (.iload_n 0, 1) := by decide +kernel
theorem dJ9_max_7cf53_6 : decode cJ9_max_7cf53 6 = .ok (.goto 4, 3) := by decide +kernel
theorem dJ9_max_7cf53_9 : decode cJ9_max_7cf53 9 = .ok (.iload_n 1, 1) := by decide +kernel
theorem dJ9_max_7cf53_10 : decode cJ9_max_7cf53 10 = .ok (.ireturn, 1) := by decide +kernel
theorem dJ9_min_7cf53_0 : decode cJ9_min_7cf53 0 = .ok (.iload_n 0, 1) := by decide +kernel
theorem dJ9_min_7cf53_1 : decode cJ9_min_7cf53 1 = .ok (.iload_n 1, 1) := by decide +kernel
theorem dJ9_min_7cf53_2 : decode cJ9_min_7cf53 2 = .ok (.if_icmp .gt 7, 3) := by decide +kernel
theorem dJ9_min_7cf53_5 : decode cJ9_min_7cf53 5 = .ok (.iload_n 0, 1) := by decide +kernel
theorem dJ9_min_7cf53_6 : decode cJ9_min_7cf53 6 = .ok (.goto 4, 3) := by decide +kernel
theorem dJ9_min_7cf53_9 : decode cJ9_min_7cf53 9 = .ok (.iload_n 1, 1) := by decide +kernel
theorem dJ9_min_7cf53_10 : decode cJ9_min_7cf53 10 = .ok (.ireturn, 1) := by decide +kernel
theorem dJ0_init_81219_0 : decode cJ0_init_81219 0 = .ok (.aload_n 0, 1) := by decide +kernel
theorem dJ0_init_81219_1 : decode cJ0_init_81219 1 = .ok (.aload_n 1, 1) := by decide +kernel
theorem dJ0_init_81219_2 : decode cJ0_init_81219 2 = .ok (.aconst_null, 1) := by decide +kernel
theorem dJ0_init_81219_3 : decode cJ0_init_81219 3 = .ok (.invokespecial 489, 3) := by decide +kernel
theorem dJ0_init_81219_6 : decode cJ0_init_81219 6 = .ok (.return_, 1) := by decide +kernel
theorem dJ0_length_8abf5_0 : decode cJ0_length_8abf5 0 = .ok (.aload_n 0, 1) := by decide +kernel
theorem dJ0_length_8abf5_1 : decode cJ0_length_8abf5 1 = .ok (.getfield 9, 3) := by decide +kernel
theorem dJ0_length_8abf5_4 : decode cJ0_length_8abf5 4 = .ok (.arraylength, 1) := by decide +kernel
theorem dJ0_length_8abf5_5 : decode cJ0_length_8abf5 5 = .ok (.aload_n 0, 1) := by decide +kernel
theorem dJ0_length_8abf5_6 : decode cJ0_length_8abf5 6 = .ok (.invokevirtual 335, 3) := by decide +kernel
theorem dJ0_length_8abf5_9 : decode cJ0_length_8abf5 9 = .ok (.ishr, 1) := by decide +kernel
theorem dJ0_length_8abf5_10 : decode cJ0_length_8abf5 10 = .ok (.ireturn, 1) := by decide +kernel
theorem dJ0_charAt_5068e_0 : decode cJ0_charAt_5068e 0 = .ok (.aload_n 0, 1) := by decide +kernel
theorem dJ0_charAt_5068e_1 : decode cJ0_charAt_5068e 1 = .ok (.invokevirtual 492, 3) := by decide +kernel
theorem dJ0_charAt_5068e_4 : decode cJ0_charAt_5068e 4 = .ok (.ifCond .eq 12, 3) := by decide +kernel
theorem dJ0_charAt_5068e_7 : decode cJ0_charAt_5068e 7 = .ok (.aload_n 0, 1) := by decide +kernel
theorem dJ0_charAt_5068e_8 : decode cJ0_charAt_5068e 8 = .ok (.getfield 9, 3) := by decide +kernel
theorem dJ0_charAt_5068e_11 : decode cJ0_charAt_5068e 11 = .ok (.iload_n 1, 1) := by decide +kernel
theorem dJ0_charAt_5068e_12 : decode cJ0_charAt_5068e 12 = .ok (.invokestatic 495, 3) := by decide +kernel
theorem dJ0_charAt_5068e_15 : decode cJ0_charAt_5068e 15 = .ok (.ireturn, 1) := by decide +kernel
theorem dJ0_charAt_5068e_16 : decode cJ0_charAt_5068e 16 = .ok (.aload_n 0, 1) := by decide +kernel
theorem dJ0_charAt_5068e_17 : decode cJ0_charAt_5068e 17 = .ok (.getfield 9, 3) := by decide +kernel
theorem dJ0_charAt_5068e_20 : decode cJ0_charAt_5068e 20 = .ok (.iload_n 1, 1) := by decide +kernel
theorem dJ0_charAt_5068e_21 : decode cJ0_charAt_5068e 21 = .ok (.invokestatic 498, 3) := by decide +kernel
theorem dJ0_charAt_5068e_24 : decode cJ0_charAt_5068e 24 = .ok (.ireturn, 1) := by decide +kernel
theorem dJ0_getBytes_840e7_0 : decode cJ0_getBytes_840e7 0 = .ok (.aload_n 0, 1) := by decide +kernel
theorem dJ0_getBytes_840e7_1 : decode cJ0_getBytes_840e7 1 = .ok (.invokevirtual 335, 3) := by decide +kernel
theorem dJ0_getBytes_840e7_4 : decode cJ0_getBytes_840e7 4 = .ok (.iload_n 3, 1) := by decide +kernel
theorem dJ0_getBytes_840e7_5 : decode cJ0_getBytes_840e7 5 = .ok (.if_icmp .ne 23, 3) := by decide +kernel
theorem dJ0_getBytes_840e7_8 : decode cJ0_getBytes_840e7 8 = .ok (.aload_n 0, 1) := by decide +kernel
theorem dJ0_getBytes_840e7_9 : decode cJ0_getBytes_840e7 9 = .ok (.getfield 9, 3) := by decide +kernel
theorem dJ0_getBytes_840e7_12 : decode cJ0_getBytes_840e7 12 = .ok (.iconst 0, 1) := by decide +kernel
theorem dJ0_getBytes_840e7_13 : decode cJ0_getBytes_840e7 13 = .ok (.aload_n 1, 1) := by decide +kernel
theorem dJ0_getBytes_840e7_14 : decode cJ0_getBytes_840e7 14 = .ok (.iload_n 2, 1) := by decide +kernel
theorem dJ0_getBytes_840e7_15 : decode cJ0_getBytes_840e7 15 = .ok (.iload_n 3, 1) := by decide +kernel
theorem dJ0_getBytes_840e7_16 : decode cJ0_getBytes_840e7 16 = .ok (.ishl, 1) := by decide +kernel
theorem dJ0_getBytes_840e7_17 : decode cJ0_getBytes_840e7 17 = .ok (.aload_n 0, 1) := by decide +kernel
theorem dJ0_getBytes_840e7_18 : decode cJ0_getBytes_840e7 18 = .ok (.getfield 9, 3) := by decide +kernel
theorem dJ0_getBytes_840e7_21 : decode cJ0_getBytes_840e7 21 = .ok (.arraylength, 1) := by decide +kernel
theorem dJ0_getBytes_840e7_22 : decode cJ0_getBytes_840e7 22 = .ok (.invokestatic 212, 3) := by decide +kernel
theorem dJ0_getBytes_840e7_25 : decode cJ0_getBytes_840e7 25 = .ok (.goto 18, 3) := by decide +kernel
theorem dJ0_getBytes_840e7_28 : decode cJ0_getBytes_840e7 28 = .ok (.aload_n 0, 1) := by decide +kernel
theorem dJ0_getBytes_840e7_29 : decode cJ0_getBytes_840e7 29 = .ok (.getfield 9, 3) := by decide +kernel
theorem dJ0_getBytes_840e7_32 : decode cJ0_getBytes_840e7 32 = .ok (.iconst 0, 1) := by decide +kernel
theorem dJ0_getBytes_840e7_33 : decode cJ0_getBytes_840e7 33 = .ok (.aload_n 1, 1) := by decide +kernel
theorem dJ0_getBytes_840e7_34 : decode cJ0_getBytes_840e7 34 = .ok (.iload_n 2, 1) := by decide +kernel
theorem dJ0_getBytes_840e7_35 : decode cJ0_getBytes_840e7 35 = .ok (.aload_n 0, 1) := by decide +kernel
theorem dJ0_getBytes_840e7_36 : decode cJ0_getBytes_840e7 36 = .ok (.getfield 9, 3) := by decide +kernel
theorem dJ0_getBytes_840e7_39 : decode cJ0_getBytes_840e7 39 = .ok (.arraylength, 1) := by decide +kernel
theorem dJ0_getBytes_840e7_40 : decode cJ0_getBytes_840e7 40 = .ok (.invokestatic 106, 3) := by decide +kernel
theorem dJ0_getBytes_840e7_43 : decode cJ0_getBytes_840e7 43 = .ok (.return_, 1) := by decide +kernel
theorem dJ0_init_db425_0 : decode cJ0_init_db425 0 = .ok (.aload_n 0, 1) := by decide +kernel
theorem dJ0_init_db425_1 : decode cJ0_init_db425 1 = .ok (.invokespecial 1, 3) := by decide +kernel
theorem dJ0_init_db425_4 : decode cJ0_init_db425 4 = .ok (.aload_n 1, 1) := by decide +kernel
theorem dJ0_init_db425_5 : decode cJ0_init_db425 5 = .ok (.invokevirtual 552, 3) := by decide +kernel
theorem dJ0_init_db425_8 : decode cJ0_init_db425 8 = .ok (.astore_n 3, 1) := by decide +kernel
theorem dJ0_init_db425_9 : decode cJ0_init_db425 9 = .ok (.aload_n 1, 1) := by decide +kernel
theorem dJ0_init_db425_10 : decode cJ0_init_db425 10 = .ok (.invokevirtual 549, 3) := by decide +kernel
theorem dJ0_init_db425_13 : decode cJ0_init_db425 13 = .ok (.istore 4, 2) := by decide +kernel
theorem dJ0_init_db425_15 : decode cJ0_init_db425 15 = .ok (.aload_n 1, 1) := by decide +kernel
theorem dJ0_init_db425_16 : decode cJ0_init_db425 16 = .ok (.invokevirtual 1047, 3) := by decide +kernel
theorem dJ0_init_db425_19 : decode cJ0_init_db425 19 = .ok (.ifCond .eq 22, 3) := by decide +kernel
theorem dJ0_init_db425_22 : decode cJ0_init_db425 22 = .ok (.aload_n 0, 1) := by decide +kernel
theorem dJ0_init_db425_23 : decode cJ0_init_db425 23 = .ok (.iconst 0, 1) := by decide +kernel
theorem dJ0_init_db425_24 : decode cJ0_init_db425 24 = .ok (.putfield 15, 3) := by decide +kernel
theorem dJ0_init_db425_27 : decode cJ0_init_db425 27 = .ok (.aload_n 0, 1) := by decide +kernel
theorem dJ0_init_db425_28 : decode cJ0_init_db425 28 = .ok (.aload_n 3, 1) := by decide +kernel
theorem dJ0_init_db425_29 : decode cJ0_init_db425 29 = .ok (.iconst 0, 1) := by decide +kernel
theorem dJ0_init_db425_30 : decode cJ0_init_db425 30 = .ok (.iload 4, 2) := by decide +kernel
theorem dJ0_init_db425_32 : decode cJ0_init_db425 32 = .ok (.invokestatic 54, 3) := by decide +kernel
theorem dJ0_init_db425_35 : decode cJ0_init_db425 35 = .ok (.putfield 9, 3) := by decide +kernel
theorem dJ0_init_db425_38 : decode cJ0_init_db425 38 = .ok (.goto 59, 3) := by decide +kernel
theorem dJ0_init_db425_41 : decode cJ0_init_db425 41 = .ok (.getstatic 38, 3) := by decide +kernel
theorem dJ0_init_db425_44 : decode cJ0_init_db425 44 = .ok (.ifCond .eq 35, 3) := by decide +kernel
theorem dJ0_init_db425_47 : decode cJ0_init_db425 47 = .ok (.aload_n 1, 1) := by decide +kernel
theorem dJ0_init_db425_48 : decode cJ0_init_db425 48 = .ok (.getfield 1048, 3) := by decide +kernel
theorem dJ0_init_db425_51 : decode cJ0_init_db425 51 = .ok (.ifCond .eq 28, 3) := by decide +kernel
theorem dJ0_init_db425_54 : decode cJ0_init_db425 54 = .ok (.aload_n 0, 1) := by decide +kernel
theorem dJ0_init_db425_55 : decode cJ0_init_db425 55 = .ok (.aload_n 3, 1) := by decide +kernel
theorem dJ0_init_db425_56 : decode cJ0_init_db425 56 = .ok (.iconst 0, 1) := by decide +kernel
theorem dJ0_init_db425_57 : decode cJ0_init_db425 57 = .ok (.iload 4, 2) := by decide +kernel
theorem dJ0_init_db425_59 : decode cJ0_init_db425 59 = .ok (.invokestatic 1051, 3) := by decide +kernel
theorem dJ0_init_db425_62 : decode cJ0_init_db425 62 = .ok (.putfield 9, 3) := by decide +kernel
theorem dJ0_init_db425_65 : decode cJ0_init_db425 65 = .ok (.aload_n 0, 1) := by decide +kernel
theorem dJ0_init_db425_66 : decode cJ0_init_db425 66 = .ok (.aload_n 0, 1) := by decide +kernel
theorem dJ0_init_db425_67 : decode cJ0_init_db425 67 = .ok (.getfield 9, 3) := by decide +kernel
theorem dJ0_init_db425_70 : decode cJ0_init_db425 70 = .ok (.iload 4, 2) := by decide +kernel
theorem dJ0_init_db425_72 : decode cJ0_init_db425 72 = .ok (.invokestatic 47, 3) := by decide +kernel
theorem dJ0_init_db425_75 : decode cJ0_init_db425 75 = .ok (.putfield 15, 3) := by decide +kernel
theorem dJ0_init_db425_78 : decode cJ0_init_db425 78 = .ok (.return_, 1) := by decide +kernel
theorem dJ0_init_db425_79 : decode cJ0_init_db425 79 = .ok (.aload_n 0, 1) := by decide +kernel
theorem dJ0_init_db425_80 : decode cJ0_init_db425 80 = .ok (.iconst 1, 1) := by decide +kernel
theorem dJ0_init_db425_81 : decode cJ0_init_db425 81 = .ok (.putfield 15, 3) := by decide +kernel
theorem dJ0_init_db425_84 : decode cJ0_init_db425 84 = .ok (.aload_n 0, 1) := by decide +kernel
theorem dJ0_init_db425_85 : decode cJ0_init_db425 85 = .ok (.aload_n 3, 1) := by decide +kernel
theorem dJ0_init_db425_86 : decode cJ0_init_db425 86 = .ok (.iconst 0, 1) := by decide +kernel
theorem dJ0_init_db425_87 : decode cJ0_init_db425 87 = .ok (.iload 4, 2) := by decide +kernel
theorem dJ0_init_db425_89 : decode cJ0_init_db425 89 = .ok (.iconst 1, 1) := by decide +kernel
theorem dJ0_init_db425_90 : decode cJ0_init_db425 90 = .ok (.ishl, 1) := by decide +kernel
theorem dJ0_init_db425_91 : decode cJ0_init_db425 91 = .ok (.invokestatic 54, 3) := by decide +kernel
theorem dJ0_init_db425_94 : decode cJ0_init_db425 94 = .ok (.putfield 9, 3) := by decide +kernel
theorem dJ0_init_db425_97 : decode cJ0_init_db425 97 = .ok (.return_, 1) := by decide +kernel
theorem dJ0_coder_7d493_0 : decode cJ0_coder_7d493 0 = .ok (.getstatic 38, 3) := by decide +kernel
theorem dJ0_coder_7d493_3 : decode cJ0_coder_7d493 3 = .ok (.ifCond .eq 10, 3) := by decide +kernel
theorem dJ0_coder_7d493_6 : decode cJ0_coder_7d493 6 = .ok (.aload_n 0, 1) := by decide +kernel
theorem dJ0_coder_7d493_7 : decode cJ0_coder_7d493 7 = .ok (.getfield 15, 3) := by decide +kernel
theorem dJ0_coder_7d493_10 : decode cJ0_coder_7d493 10 = .ok (.goto 4, 3) := by decide +kernel
theorem dJ0_coder_7d493_13 : decode cJ0_coder_7d493 13 = .ok (.iconst 1, 1) := by decide +kernel
theorem dJ0_coder_7d493_14 : decode cJ0_coder_7d493 14 = .ok (.ireturn, 1) := by decide +kernel
theorem dJ0_isLatin1_aae02_0 : decode cJ0_isLatin1_aae02 0 = .ok (.getstatic 38, 3) := by decide +kernel
theorem dJ0_isLatin1_aae02_3 : decode cJ0_isLatin1_aae02 3 = .ok (.ifCond .eq 14, 3) := by decide +kernel
theorem dJ0_isLatin1_aae02_6 : decode cJ0_isLatin1_aae02 6 = .ok (.aload_n 0, 1) := by decide +kernel
theorem dJ0_isLatin1_aae02_7 : decode cJ0_isLatin1_aae02 7 = .ok (.getfield 15, 3) := by decide +kernel
theorem dJ0_isLatin1_aae02_10 : decode cJ0_isLatin1_aae02 10 = .ok (.ifCond .ne 7, 3) := by decide +kernel
theorem dJ0_isLatin1_aae02_13 : decode cJ0_isLatin1_aae02 13 = .ok (.iconst 1, 1) := by decide +kernel
theorem dJ0_isLatin1_aae02_14 : decode cJ0_isLatin1_aae02 14 = .ok (.goto 4, 3) := by decide +kernel
theorem dJ0_isLatin1_aae02_17 : decode cJ0_isLatin1_aae02 17 = .ok (.iconst 0, 1) := by decide +kernel
theorem dJ0_isLatin1_aae02_18 : decode cJ0_isLatin1_aae02 18 = .ok (.ireturn, 1) := by decide +kernel
theorem dJ0_checkIndex_df160_0 : decode cJ0_checkIndex_df160 0 = .ok (.iload_n 0, 1) := by decide +kernel
theorem dJ0_checkIndex_df160_1 : decode cJ0_checkIndex_df160 1 = .ok (.iload_n 1, 1) := by decide +kernel
theorem dJ0_checkIndex_df160_2 : decode cJ0_checkIndex_df160 2 = .ok (.getstatic 1053, 3) := by decide +kernel
theorem dJ0_checkIndex_df160_5 : decode cJ0_checkIndex_df160 5 = .ok (.invokestatic 1059, 3) := by decide +kernel
theorem dJ0_checkIndex_df160_8 : decode cJ0_checkIndex_df160 8 = .ok (.pop, 1) := by decide +kernel
theorem dJ0_checkIndex_df160_9 : decode cJ0_checkIndex_df160 9 = .ok (.return_, 1) := by decide +kernel
theorem dJ0_checkBoundsOffCount_cabcc_0 : decode cJ0_checkBoundsOffCount_cabcc 0 = .ok (.iload_n 0, 1) := by decide +kernel
theorem dJ0_checkBoundsOffCount_cabcc_1 : decode cJ0_checkBoundsOffCount_cabcc 1 = .ok (.iload_n 1, 1) := by decide +kernel
theorem dJ0_checkBoundsOffCount_cabcc_2 : decode cJ0_checkBoundsOffCount_cabcc 2 = .ok (.iload_n 2, 1) := by decide +kernel
theorem dJ0_checkBoundsOffCount_cabcc_3 : decode cJ0_checkBoundsOffCount_cabcc 3 = .ok (.getstatic 1053, 3) := by decide +kernel
theorem dJ0_checkBoundsOffCount_cabcc_6 : decode cJ0_checkBoundsOffCount_cabcc 6 = .ok (.invokestatic 1065, 3) := by decide +kernel
theorem dJ0_checkBoundsOffCount_cabcc_9 : decode cJ0_checkBoundsOffCount_cabcc 9 = .ok (.ireturn, 1) := by decide +kernel
theorem dJ0_checkBoundsBeginEnd_23922_0 : decode cJ0_checkBoundsBeginEnd_23922 0 = .ok (.iload_n 0, 1) := by decide +kernel
theorem dJ0_checkBoundsBeginEnd_23922_1 : decode cJ0_checkBoundsBeginEnd_23922 1 = .ok (.iload_n 1, 1) := by decide +kernel
theorem dJ0_checkBoundsBeginEnd_23922_2 : decode cJ0_checkBoundsBeginEnd_23922 2 = .ok (.iload_n 2, 1) := by decide +kernel
theorem dJ0_checkBoundsBeginEnd_23922_3 : decode cJ0_checkBoundsBeginEnd_23922 3 = .ok (.getstatic 1053, 3) := by decide +kernel
theorem dJ0_checkBoundsBeginEnd_23922_6 : decode cJ0_checkBoundsBeginEnd_23922 6 = .ok (.invokestatic 1062, 3) := by decide +kernel
theorem dJ0_checkBoundsBeginEnd_23922_9 : decode cJ0_checkBoundsBeginEnd_23922 9 = .ok (.pop, 1) := by decide +kernel
theorem dJ0_checkBoundsBeginEnd_23922_10 : decode cJ0_checkBoundsBeginEnd_23922 10 = .ok (.return_, 1) := by decide +kernel
theorem dJ4_init_da8c8_0 : decode cJ4_init_da8c8 0 = .ok (.aload_n 0, 1) := by decide +kernel
theorem dJ4_init_da8c8_1 : decode cJ4_init_da8c8 1 = .ok (.bipush 16, 2) := by decide +kernel
theorem dJ4_init_da8c8_3 : decode cJ4_init_da8c8 3 = .ok (.invokespecial 1, 3) := by decide +kernel
theorem dJ4_init_da8c8_6 : decode cJ4_init_da8c8 6 = .ok (.return_, 1) := by decide +kernel
theorem dJ4_init_a7421_0 : decode cJ4_init_a7421 0 = .ok (.aload_n 0, 1) := by decide +kernel
theorem dJ4_init_a7421_1 : decode cJ4_init_a7421 1 = .ok (.aload_n 1, 1) := by decide +kernel
theorem dJ4_init_a7421_2 : decode cJ4_init_a7421 2 = .ok (.invokespecial 7, 3) := by decide +kernel
theorem dJ4_init_a7421_5 : decode cJ4_init_a7421 5 = .ok (.return_, 1) := by decide +kernel
theorem dJ4_append_15ec4_0 : decode cJ4_append_15ec4 0 = .ok (.aload_n 0, 1) := by decide +kernel
theorem dJ4_append_15ec4_1 : decode cJ4_append_15ec4 1 = .ok (.aload_n 1, 1) := by decide +kernel
theorem dJ4_append_15ec4_2 : decode cJ4_append_15ec4 2 = .ok (.invokespecial 29, 3) := by decide +kernel
theorem dJ4_append_15ec4_5 : decode cJ4_append_15ec4 5 = .ok (.pop, 1) := by decide +kernel
theorem dJ4_append_15ec4_6 : decode cJ4_append_15ec4 6 = .ok (.aload_n 0, 1) := by decide +kernel
theorem dJ4_append_15ec4_7 : decode cJ4_append_15ec4 7 = .ok (.areturn, 1) := by decide +kernel
theorem dJ4_append_cf468_0 : decode cJ4_append_cf468 0 = .ok (.aload_n 0, 1) := by decide +kernel
theorem dJ4_append_cf468_1 : decode cJ4_append_cf468 1 = .ok (.iload_n 1, 1) := by decide +kernel
theorem dJ4_append_cf468_2 : decode cJ4_append_cf468 2 = .ok (.invokespecial 50, 3) := by decide +kernel
theorem dJ4_append_cf468_5 : decode cJ4_append_cf468 5 = .ok (.pop, 1) := by decide +kernel
theorem dJ4_append_cf468_6 : decode cJ4_append_cf468 6 = .ok (.aload_n 0, 1) := by decide +kernel
theorem dJ4_append_cf468_7 : decode cJ4_append_cf468 7 = .ok (.areturn, 1) := by decide +kernel
theorem dJ4_append_bf812_0 : decode cJ4_append_bf812 0 = .ok (.aload_n 0, 1) := by decide +kernel
theorem dJ4_append_bf812_1 : decode cJ4_append_bf812 1 = .ok (.iload_n 1, 1) := by decide +kernel
theorem dJ4_append_bf812_2 : decode cJ4_append_bf812 2 = .ok (.invokespecial 53, 3) := by decide +kernel
theorem dJ4_append_bf812_5 : decode cJ4_append_bf812 5 = .ok (.pop, 1) := by decide +kernel
theorem dJ4_append_bf812_6 : decode cJ4_append_bf812 6 = .ok (.aload_n 0, 1) := by decide +kernel
theorem dJ4_append_bf812_7 : decode cJ4_append_bf812 7 = .ok (.areturn, 1) := by decide +kernel
theorem dJ4_toString_0e30d_0 : decode cJ4_toString_0e30d 0 = .ok (.new 18, 3) := by decide +kernel
theorem dJ4_toString_0e30d_3 : decode cJ4_toString_0e30d 3 = .ok (.dup, 1) := by decide +kernel
theorem dJ4_toString_0e30d_4 : decode cJ4_toString_0e30d 4 = .ok (.aload_n 0, 1) := by decide +kernel
theorem dJ4_toString_0e30d_5 : decode cJ4_toString_0e30d 5 = .ok (.invokespecial 137, 3) := by decide +kernel
theorem dJ4_toString_0e30d_8 : decode cJ4_toString_0e30d 8 = .ok (.areturn, 1) := by decide +kernel
theorem dJ4_append_cf1ce_0 : decode cJ4_append_cf1ce 0 = .ok (.aload_n 0, 1) := by decide +kernel
theorem dJ4_append_cf1ce_1 : decode cJ4_append_cf1ce 1 = .ok (.aload_n 1, 1) := by decide +kernel
theorem dJ4_append_cf1ce_2 : decode cJ4_append_cf1ce 2 = .ok (.invokevirtual 23, 3) := by decide +kernel
theorem dJ4_append_cf1ce_5 : decode cJ4_append_cf1ce 5 = .ok (.areturn, 1) := by decide +kernel
theorem dJ4_length_8abf5_0 : decode cJ4_length_8abf5 0 = .ok (.aload_n 0, 1) := by decide +kernel
theorem dJ4_length_8abf5_1 : decode cJ4_length_8abf5 1 = .ok (.invokespecial 343, 3) := by decide +kernel
theorem dJ4_length_8abf5_4 : decode cJ4_length_8abf5 4 = .ok (.ireturn, 1) := by decide +kernel
theorem dJ1_charAt_3b067_0 : decode cJ1_charAt_3b067 0 = .ok (.iload_n 1, 1) := by decide +kernel
theorem dJ1_charAt_3b067_1 : decode cJ1_charAt_3b067 1 = .ok (.aload_n 0, 1) := by decide +kernel
theorem dJ1_charAt_3b067_2 : decode cJ1_charAt_3b067 2 = .ok (.arraylength, 1) := by decide +kernel
theorem dJ1_charAt_3b067_3 : decode cJ1_charAt_3b067 3 = .ok (.invokestatic 9, 3) := by decide +kernel
theorem dJ1_charAt_3b067_6 : decode cJ1_charAt_3b067 6 = .ok (.aload_n 0, 1) := by decide +kernel
theorem dJ1_charAt_3b067_7 : decode cJ1_charAt_3b067 7 = .ok (.iload_n 1, 1) := by decide +kernel
theorem dJ1_charAt_3b067_8 : decode cJ1_charAt_3b067 8 = .ok (.baload, 1) := by decide +kernel
theorem dJ1_charAt_3b067_9 : decode cJ1_charAt_3b067 9 = .ok (.sipush 255, 3) := by decide +kernel
theorem dJ1_charAt_3b067_12 : decode cJ1_charAt_3b067 12 = .ok (.iand, 1) := by decide +kernel
theorem dJ1_charAt_3b067_13 : decode cJ1_charAt_3b067 13 = .ok (.i2c, 1) := by decide +kernel
theorem dJ1_charAt_3b067_14 : decode cJ1_charAt_3b067 14 = .ok (.ireturn, 1) := by decide +kernel
theorem dJ1_canEncode_fc78d_0 : decode cJ1_canEncode_fc78d 0 = .ok (.iload_n 0, 1) := by decide +kernel
theorem dJ1_canEncode_fc78d_1 : decode cJ1_canEncode_fc78d 1 = .ok (.sipush 255, 3) := by decide +kernel
theorem dJ1_canEncode_fc78d_4 : decode cJ1_canEncode_fc78d 4 = .ok (.if_icmp .gt 7, 3) := by decide +kernel
theorem dJ1_canEncode_fc78d_7 : decode cJ1_canEncode_fc78d 7 = .ok (.iconst 1, 1) := by decide +kernel
theorem dJ1_canEncode_fc78d_8 : decode cJ1_canEncode_fc78d 8 = .ok (.goto 4, 3) := by decide +kernel
theorem dJ1_canEncode_fc78d_11 : decode cJ1_canEncode_fc78d 11 = .ok (.iconst 0, 1) := by decide +kernel
theorem dJ1_canEncode_fc78d_12 : decode cJ1_canEncode_fc78d 12 = .ok (.ireturn, 1) := by decide +kernel
theorem dJ1_inflate_0e8fd_0 : decode cJ1_inflate_0e8fd 0 = .ok (.aload_n 0, 1) := by decide +kernel
theorem dJ1_inflate_0e8fd_1 : decode cJ1_inflate_0e8fd 1 = .ok (.iload_n 1, 1) := by decide +kernel
theorem dJ1_inflate_0e8fd_2 : decode cJ1_inflate_0e8fd 2 = .ok (.aload_n 2, 1) := by decide +kernel
theorem dJ1_inflate_0e8fd_3 : decode cJ1_inflate_0e8fd 3 = .ok (.iload_n 3, 1) := by decide +kernel
theorem dJ1_inflate_0e8fd_4 : decode cJ1_inflate_0e8fd 4 = .ok (.iload 4, 2) := by decide +kernel
theorem dJ1_inflate_0e8fd_6 : decode cJ1_inflate_0e8fd 6 = .ok (.invokestatic 240, 3) := by decide +kernel
theorem dJ1_inflate_0e8fd_9 : decode cJ1_inflate_0e8fd 9 = .ok (.return_, 1) := by decide +kernel
theorem dJ2_newBytesFor_77867_0 : decode cJ2_newBytesFor_77867 0 = .ok (.iload_n 0, 1) := by decide +kernel
theorem dJ2_newBytesFor_77867_1 : decode cJ2_newBytesFor_77867 1 = .ok (.invokestatic 11, 3) := by decide +kernel
theorem dJ2_newBytesFor_77867_4 : decode cJ2_newBytesFor_77867 4 = .ok (.newarray .byte, 2) := by decide +kernel
theorem dJ2_newBytesFor_77867_6 : decode cJ2_newBytesFor_77867 6 = .ok (.areturn, 1) := by decide +kernel
theorem dJ2_newBytesLength_0f7a4_0 : decode cJ2_newBytesLength_0f7a4 0 = .ok (.iload_n 0, 1) := by decide +kernel
theorem dJ2_newBytesLength_0f7a4_1 : decode cJ2_newBytesLength_0f7a4 1 = .ok (.ifCond .ge 11, 3) := by decide +kernel
theorem dJ2_newBytesLength_0f7a4_4 : decode cJ2_newBytesLength_0f7a4 4 = .ok (.new 17, 3) := by decide +kernel
theorem dJ2_newBytesLength_0f7a4_7 : decode cJ2_newBytesLength_0f7a4 7 = .ok (.dup, 1) := by decide +kernel
theorem dJ2_newBytesLength_0f7a4_8 : decode cJ2_newBytesLength_0f7a4 8 = .ok (.invokespecial 19, 3) := by decide +kernel
theorem dJ2_newBytesLength_0f7a4_11 : decode cJ2_newBytesLength_0f7a4 11 = .ok (.athrow, 1) := by decide +kernel
theorem dJ2_newBytesLength_0f7a4_12 : decode cJ2_newBytesLength_0f7a4 12 = .ok (.iload_n 0, 1) := by decide +kernel
theorem dJ2_newBytesLength_0f7a4_13 : decode cJ2_newBytesLength_0f7a4 13 = .ok (.ldc 20, 2) := by decide +kernel
theorem dJ2_newBytesLength_0f7a4_15 : decode cJ2_newBytesLength_0f7a4 15 = .ok (.if_icmp .lt 40, 3) := by decide +kernel
theorem dJ2_newBytesLength_0f7a4_18 : decode cJ2_newBytesLength_0f7a4 18 = .ok (.new 21, 3) := by decide +kernel
theorem dJ2_newBytesLength_0f7a4_21 : decode cJ2_newBytesLength_0f7a4 21 = .ok (.dup, 1) := by decide +kernel
theorem dJ2_newBytesLength_0f7a4_22 : decode cJ2_newBytesLength_0f7a4 22 = .ok (.new 23, 3) := by decide +kernel
theorem dJ2_newBytesLength_0f7a4_25 : decode cJ2_newBytesLength_0f7a4 25 = .ok (.dup, 1) := by decide +kernel
theorem dJ2_newBytesLength_0f7a4_26 : decode cJ2_newBytesLength_0f7a4 26 = .ok (.invokespecial 25, 3) := by decide +kernel
theorem dJ2_newBytesLength_0f7a4_29 : decode cJ2_newBytesLength_0f7a4 29 = .ok (.ldc 26, 2) := by decide +kernel
theorem dJ2_newBytesLength_0f7a4_31 : decode cJ2_newBytesLength_0f7a4 31 = .ok (.invokevirtual 28, 3) := by decide +kernel
theorem dJ2_newBytesLength_0f7a4_34 : decode cJ2_newBytesLength_0f7a4 34 = .ok (.iload_n 0, 1) := by decide +kernel
theorem dJ2_newBytesLength_0f7a4_35 : decode cJ2_newBytesLength_0f7a4 35 = .ok (.invokevirtual 32, 3) := by decide +kernel
theorem dJ2_newBytesLength_0f7a4_38 : decode cJ2_newBytesLength_0f7a4 38 = .ok (.ldc 35, 2) := by decide +kernel
theorem dJ2_newBytesLength_0f7a4_40 : decode cJ2_newBytesLength_0f7a4 40 = .ok (.invokevirtual 28, 3) := by decide +kernel
theorem dJ2_newBytesLength_0f7a4_43 : decode cJ2_newBytesLength_0f7a4 43 = .ok (.ldc 20, 2) := by decide +kernel
theorem dJ2_newBytesLength_0f7a4_45 : decode cJ2_newBytesLength_0f7a4 45 = .ok (.invokevirtual 32, 3) := by decide +kernel
theorem dJ2_newBytesLength_0f7a4_48 : decode cJ2_newBytesLength_0f7a4 48 = .ok (.invokevirtual 37, 3) := by decide +kernel
theorem dJ2_newBytesLength_0f7a4_51 : decode cJ2_newBytesLength_0f7a4 51 = .ok (.invokespecial 41, 3) := by decide +kernel
theorem dJ2_newBytesLength_0f7a4_54 : decode cJ2_newBytesLength_0f7a4 54 = .ok (.athrow, 1) := by decide +kernel
theorem dJ2_newBytesLength_0f7a4_55 : decode cJ2_newBytesLength_0f7a4 55 = .ok (.iload_n 0, 1) := by decide +kernel
theorem dJ2_newBytesLength_0f7a4_56 : decode cJ2_newBytesLength_0f7a4 56 = .ok (.iconst 1, 1) := by decide +kernel
theorem dJ2_newBytesLength_0f7a4_57 : decode cJ2_newBytesLength_0f7a4 57 = .ok (.ishl, 1) := by decide +kernel
theorem dJ2_newBytesLength_0f7a4_58 : decode cJ2_newBytesLength_0f7a4 58 = .ok (.ireturn, 1) := by decide +kernel
theorem dJ2_putChar_b72d1_0 : decode cJ2_putChar_b72d1 0 = .ok (.getstatic 44, 3) := by decide +kernel
theorem dJ2_putChar_b72d1_3 : decode cJ2_putChar_b72d1 3 = .ok (.ifCond .ne 25, 3) := by decide +kernel
theorem dJ2_putChar_b72d1_6 : decode cJ2_putChar_b72d1 6 = .ok (.iload_n 1, 1) := by decide +kernel
theorem dJ2_putChar_b72d1_7 : decode cJ2_putChar_b72d1 7 = .ok (.ifCond .lt 11, 3) := by decide +kernel
theorem dJ2_putChar_b72d1_10 : decode cJ2_putChar_b72d1 10 = .ok (.iload_n 1, 1) := by decide +kernel
theorem dJ2_putChar_b72d1_11 : decode cJ2_putChar_b72d1 11 = .ok (.aload_n 0, 1) := by decide +kernel
theorem dJ2_putChar_b72d1_12 : decode cJ2_putChar_b72d1 12 = .ok (.invokestatic 48, 3) := by decide +kernel
theorem dJ2_putChar_b72d1_15 : decode cJ2_putChar_b72d1 15 = .ok (.if_icmp .lt 13, 3) := by decide +kernel
theorem dJ2_putChar_b72d1_18 : decode cJ2_putChar_b72d1 18 = .ok (.new 52, 3) := by decide +kernel
theorem dJ2_putChar_b72d1_21 : decode cJ2_putChar_b72d1 21 = .ok (.dup, 1) := by decide +kernel
theorem dJ2_putChar_b72d1_22 : decode cJ2_putChar_b72d1 22 = .ok (.ldc 54, 2) := by decide +kernel
theorem dJ2_putChar_b72d1_24 : decode cJ2_putChar_b72d1 24 = .ok (.invokespecial 56, 3) := by decide +kernel
theorem dJ2_putChar_b72d1_27 : decode cJ2_putChar_b72d1 27 = .ok (.athrow, 1) := by decide +kernel
theorem dJ2_putChar_b72d1_28 : decode cJ2_putChar_b72d1 28 = .ok (.iload_n 1, 1) := by decide +kernel
theorem dJ2_putChar_b72d1_29 : decode cJ2_putChar_b72d1 29 = .ok (.iconst 1, 1) := by decide +kernel
theorem dJ2_putChar_b72d1_30 : decode cJ2_putChar_b72d1 30 = .ok (.ishl, 1) := by decide +kernel
theorem dJ2_putChar_b72d1_31 : decode cJ2_putChar_b72d1 31 = .ok (.istore_n 1, 1) := by decide +kernel
theorem dJ2_putChar_b72d1_32 : decode cJ2_putChar_b72d1 32 = .ok (.aload_n 0, 1) := by decide +kernel
theorem dJ2_putChar_b72d1_33 : decode cJ2_putChar_b72d1 33 = .ok (.iload_n 1, 1) := by decide +kernel
theorem dJ2_putChar_b72d1_34 : decode cJ2_putChar_b72d1 34 = .ok (.iinc 1 1, 3) := by decide +kernel
theorem dJ2_putChar_b72d1_37 : decode cJ2_putChar_b72d1 37 = .ok (.iload_n 2, 1) := by decide +kernel
theorem dJ2_putChar_b72d1_38 : decode cJ2_putChar_b72d1 38 = .ok (.getstatic 59, 3) := by decide +kernel
theorem dJ2_putChar_b72d1_41 : decode cJ2_putChar_b72d1 41 = .ok (.ishr, 1) := by decide +kernel
theorem dJ2_putChar_b72d1_42 : decode cJ2_putChar_b72d1 42 = .ok (.i2b, 1) := by decide +kernel
theorem dJ2_putChar_b72d1_43 : decode cJ2_putChar_b72d1 43 = .ok (.bastore, 1) := by decide +kernel
theorem dJ2_putChar_b72d1_44 : decode cJ2_putChar_b72d1 44 = .ok (.aload_n 0, 1) := by decide +kernel
theorem dJ2_putChar_b72d1_45 : decode cJ2_putChar_b72d1 45 = .ok (.iload_n 1, 1) := by decide +kernel
theorem dJ2_putChar_b72d1_46 : decode cJ2_putChar_b72d1 46 = .ok (.iload_n 2, 1) := by decide +kernel
theorem dJ2_putChar_b72d1_47 : decode cJ2_putChar_b72d1 47 = .ok (.getstatic 63, 3) := by decide +kernel
theorem dJ2_putChar_b72d1_50 : decode cJ2_putChar_b72d1 50 = .ok (.ishr, 1) := by decide +kernel
theorem dJ2_putChar_b72d1_51 : decode cJ2_putChar_b72d1 51 = .ok (.i2b, 1) := by decide +kernel
theorem dJ2_putChar_b72d1_52 : decode cJ2_putChar_b72d1 52 = .ok (.bastore, 1) := by decide +kernel
theorem dJ2_putChar_b72d1_53 : decode cJ2_putChar_b72d1 53 = .ok (.return_, 1) := by decide +kernel
theorem dJ2_getChar_3b067_0 : decode cJ2_getChar_3b067 0 = .ok (.getstatic 44, 3) := by decide +kernel
theorem dJ2_getChar_3b067_3 : decode cJ2_getChar_3b067 3 = .ok (.ifCond .ne 25, 3) := by decide +kernel
theorem dJ2_getChar_3b067_6 : decode cJ2_getChar_3b067 6 = .ok (.iload_n 1, 1) := by decide +kernel
theorem dJ2_getChar_3b067_7 : decode cJ2_getChar_3b067 7 = .ok (.ifCond .lt 11, 3) := by decide +kernel
theorem dJ2_getChar_3b067_10 : decode cJ2_getChar_3b067 10 = .ok (.iload_n 1, 1) := by decide +kernel
theorem dJ2_getChar_3b067_11 : decode cJ2_getChar_3b067 11 = .ok (.aload_n 0, 1) := by decide +kernel
theorem dJ2_getChar_3b067_12 : decode cJ2_getChar_3b067 12 = .ok (.invokestatic 48, 3) := by decide +kernel
theorem dJ2_getChar_3b067_15 : decode cJ2_getChar_3b067 15 = .ok (.if_icmp .lt 13, 3) := by decide +kernel
theorem dJ2_getChar_3b067_18 : decode cJ2_getChar_3b067 18 = .ok (.new 52, 3) := by decide +kernel
theorem dJ2_getChar_3b067_21 : decode cJ2_getChar_3b067 21 = .ok (.dup, 1) := by decide +kernel
theorem dJ2_getChar_3b067_22 : decode cJ2_getChar_3b067 22 = .ok (.ldc 54, 2) := by decide +kernel
theorem dJ2_getChar_3b067_24 : decode cJ2_getChar_3b067 24 = .ok (.invokespecial 56, 3) := by decide +kernel
theorem dJ2_getChar_3b067_27 : decode cJ2_getChar_3b067 27 = .ok (.athrow, 1) := by decide +kernel
theorem dJ2_getChar_3b067_28 : decode cJ2_getChar_3b067 28 = .ok (.iload_n 1, 1) := by decide +kernel
theorem dJ2_getChar_3b067_29 : decode cJ2_getChar_3b067 29 = .ok (.iconst 1, 1) := by decide +kernel
theorem dJ2_getChar_3b067_30 : decode cJ2_getChar_3b067 30 = .ok (.ishl, 1) := by decide +kernel
theorem dJ2_getChar_3b067_31 : decode cJ2_getChar_3b067 31 = .ok (.istore_n 1, 1) := by decide +kernel
theorem dJ2_getChar_3b067_32 : decode cJ2_getChar_3b067 32 = .ok (.aload_n 0, 1) := by decide +kernel
theorem dJ2_getChar_3b067_33 : decode cJ2_getChar_3b067 33 = .ok (.iload_n 1, 1) := by decide +kernel
theorem dJ2_getChar_3b067_34 : decode cJ2_getChar_3b067 34 = .ok (.iinc 1 1, 3) := by decide +kernel
theorem dJ2_getChar_3b067_37 : decode cJ2_getChar_3b067 37 = .ok (.baload, 1) := by decide +kernel
theorem dJ2_getChar_3b067_38 : decode cJ2_getChar_3b067 38 = .ok (.sipush 255, 3) := by decide +kernel
theorem dJ2_getChar_3b067_41 : decode cJ2_getChar_3b067 41 = .ok (.iand, 1) := by decide +kernel
theorem dJ2_getChar_3b067_42 : decode cJ2_getChar_3b067 42 = .ok (.getstatic 59, 3) := by decide +kernel
theorem dJ2_getChar_3b067_45 : decode cJ2_getChar_3b067 45 = .ok (.ishl, 1) := by decide +kernel
theorem dJ2_getChar_3b067_46 : decode cJ2_getChar_3b067 46 = .ok (.aload_n 0, 1) := by decide +kernel
theorem dJ2_getChar_3b067_47 : decode cJ2_getChar_3b067 47 = .ok (.iload_n 1, 1) := by decide +kernel
theorem dJ2_getChar_3b067_48 : decode cJ2_getChar_3b067 48 = .ok (.baload, 1) := by decide +kernel
theorem dJ2_getChar_3b067_49 : decode cJ2_getChar_3b067 49 = .ok (.sipush 255, 3) := by decide +kernel
theorem dJ2_getChar_3b067_52 : decode cJ2_getChar_3b067 52 = .ok (.iand, 1) := by decide +kernel
theorem dJ2_getChar_3b067_53 : decode cJ2_getChar_3b067 53 = .ok (.getstatic 63, 3) := by decide +kernel
theorem dJ2_getChar_3b067_56 : decode cJ2_getChar_3b067 56 = .ok (.ishl, 1) := by decide +kernel
theorem dJ2_getChar_3b067_57 : decode cJ2_getChar_3b067 57 = .ok (.ior, 1) := by decide +kernel
theorem dJ2_getChar_3b067_58 : decode cJ2_getChar_3b067 58 = .ok (.i2c, 1) := by decide +kernel
theorem dJ2_getChar_3b067_59 : decode cJ2_getChar_3b067 59 = .ok (.ireturn, 1) := by decide +kernel
theorem dJ2_length_9d52b_0 : decode cJ2_length_9d52b 0 = .ok (.aload_n 0, 1) := by decide +kernel
theorem dJ2_length_9d52b_1 : decode cJ2_length_9d52b 1 = .ok (.arraylength, 1) := by decide +kernel
theorem dJ2_length_9d52b_2 : decode cJ2_length_9d52b 2 = .ok (.iconst 1, 1) := by decide +kernel
theorem dJ2_length_9d52b_3 : decode cJ2_length_9d52b 3 = .ok (.ishr, 1) := by decide +kernel
theorem dJ2_length_9d52b_4 : decode cJ2_length_9d52b 4 = .ok (.ireturn, 1) := by decide +kernel
theorem dJ2_coderFromArrayLen_85cad_0 : decode cJ2_coderFromArrayLen_85cad 0 = .ok (.iload_n 1, 1) := by decide +kernel
theorem dJ2_coderFromArrayLen_85cad_1 : decode cJ2_coderFromArrayLen_85cad 1 = .ok (.aload_n 0, 1) := by decide +kernel
theorem dJ2_coderFromArrayLen_85cad_2 : decode cJ2_coderFromArrayLen_85cad 2 = .ok (.arraylength, 1) := by decide +kernel
theorem dJ2_coderFromArrayLen_85cad_3 : decode cJ2_coderFromArrayLen_85cad 3 = .ok (.isub, 1) := by decide +kernel
theorem dJ2_coderFromArrayLen_85cad_4 : decode cJ2_coderFromArrayLen_85cad 4 = .ok (.bipush 31, 2) := by decide +kernel
theorem dJ2_coderFromArrayLen_85cad_6 : decode cJ2_coderFromArrayLen_85cad 6 = .ok (.iushr, 1) := by decide +kernel
theorem dJ2_coderFromArrayLen_85cad_7 : decode cJ2_coderFromArrayLen_85cad 7 = .ok (.i2b, 1) := by decide +kernel
theorem dJ2_coderFromArrayLen_85cad_8 : decode cJ2_coderFromArrayLen_85cad 8 = .ok (.ireturn, 1) := by decide +kernel
theorem dJ2_compress_39247_0 : decode cJ2_compress_39247 0 = .ok (.iload_n 2, 1) := by decide +kernel
theorem dJ2_compress_39247_1 : decode cJ2_compress_39247 1 = .ok (.newarray .byte, 2) := by decide +kernel
theorem dJ2_compress_39247_3 : decode cJ2_compress_39247 3 = .ok (.astore_n 3, 1) := by decide +kernel
theorem dJ2_compress_39247_4 : decode cJ2_compress_39247 4 = .ok (.aload_n 0, 1) := by decide +kernel
theorem dJ2_compress_39247_5 : decode cJ2_compress_39247 5 = .ok (.iload_n 1, 1) := by decide +kernel
theorem dJ2_compress_39247_6 : decode cJ2_compress_39247 6 = .ok (.aload_n 3, 1) := by decide +kernel
theorem dJ2_compress_39247_7 : decode cJ2_compress_39247 7 = .ok (.iconst 0, 1) := by decide +kernel
theorem dJ2_compress_39247_8 : decode cJ2_compress_39247 8 = .ok (.iload_n 2, 1) := by decide +kernel
theorem dJ2_compress_39247_9 : decode cJ2_compress_39247 9 = .ok (.invokestatic 123, 3) := by decide +kernel
theorem dJ2_compress_39247_12 : decode cJ2_compress_39247 12 = .ok (.istore 4, 2) := by decide +kernel
theorem dJ2_compress_39247_14 : decode cJ2_compress_39247 14 = .ok (.iload 4, 2) := by decide +kernel
theorem dJ2_compress_39247_16 : decode cJ2_compress_39247 16 = .ok (.iload_n 2, 1) := by decide +kernel
theorem dJ2_compress_39247_17 : decode cJ2_compress_39247 17 = .ok (.if_icmp .eq 47, 3) := by decide +kernel
theorem dJ2_compress_39247_20 : decode cJ2_compress_39247 20 = .ok (.aload_n 0, 1) := by decide +kernel
theorem dJ2_compress_39247_21 : decode cJ2_compress_39247 21 = .ok (.iload_n 1, 1) := by decide +kernel
theorem dJ2_compress_39247_22 : decode cJ2_compress_39247 22 = .ok (.iconst 1, 1) := by decide +kernel
theorem dJ2_compress_39247_23 : decode cJ2_compress_39247 23 = .ok (.ishl, 1) := by decide +kernel
theorem dJ2_compress_39247_24 : decode cJ2_compress_39247 24 = .ok (.iload_n 1, 1) := by decide +kernel
theorem dJ2_compress_39247_25 : decode cJ2_compress_39247 25 = .ok (.iload_n 2, 1) := by decide +kernel
theorem dJ2_compress_39247_26 : decode cJ2_compress_39247 26 = .ok (.iadd, 1) := by decide +kernel
theorem dJ2_compress_39247_27 : decode cJ2_compress_39247 27 = .ok (.invokestatic 11, 3) := by decide +kernel
theorem dJ2_compress_39247_30 : decode cJ2_compress_39247 30 = .ok (.invokestatic 126, 3) := by decide +kernel
theorem dJ2_compress_39247_33 : decode cJ2_compress_39247 33 = .ok (.astore 5, 2) := by decide +kernel
theorem dJ2_compress_39247_35 : decode cJ2_compress_39247 35 = .ok (.aload 5, 2) := by decide +kernel
theorem dJ2_compress_39247_37 : decode cJ2_compress_39247 37 = .ok (.iload 4, 2) := by decide +kernel
theorem dJ2_compress_39247_39 : decode cJ2_compress_39247 39 = .ok (.invokestatic 71, 3) := by decide +kernel
theorem dJ2_compress_39247_42 : decode cJ2_compress_39247 42 = .ok (.sipush 255, 3) := by decide +kernel
theorem dJ2_compress_39247_45 : decode cJ2_compress_39247 45 = .ok (.if_icmp .gt 16, 3) := by decide +kernel
theorem dJ2_compress_39247_48 : decode cJ2_compress_39247 48 = .ok (.aload 5, 2) := by decide +kernel
theorem dJ2_compress_39247_50 : decode cJ2_compress_39247 50 = .ok (.iconst 0, 1) := by decide +kernel
theorem dJ2_compress_39247_51 : decode cJ2_compress_39247 51 = .ok (.aload_n 3, 1) := by decide +kernel
theorem dJ2_compress_39247_52 : decode cJ2_compress_39247 52 = .ok (.iconst 0, 1) := by decide +kernel
theorem dJ2_compress_39247_53 : decode cJ2_compress_39247 53 = .ok (.iload_n 2, 1) := by decide +kernel
theorem dJ2_compress_39247_54 : decode cJ2_compress_39247 54 = .ok (.invokestatic 123, 3) := by decide +kernel
theorem dJ2_compress_39247_57 : decode cJ2_compress_39247 57 = .ok (.iload_n 2, 1) := by decide +kernel
theorem dJ2_compress_39247_58 : decode cJ2_compress_39247 58 = .ok (.if_icmp .eq 6, 3) := by decide +kernel
theorem dJ2_compress_39247_61 : decode cJ2_compress_39247 61 = .ok (.aload 5, 2) := by decide +kernel
theorem dJ2_compress_39247_63 : decode cJ2_compress_39247 63 = .ok (.areturn, 1) := by decide +kernel
theorem dJ2_compress_39247_64 : decode cJ2_compress_39247 64 = .ok (.aload_n 3, 1) := by decide +kernel
theorem dJ2_compress_39247_65 : decode cJ2_compress_39247 65 = .ok (.areturn, 1) := by decide +kernel
theorem dJ2_compress_5af95_0 : decode cJ2_compress_5af95 0 = .ok (.iload_n 1, 1) := by decide +kernel
theorem dJ2_compress_5af95_1 : decode cJ2_compress_5af95 1 = .ok (.iload 4, 2) := by decide +kernel
theorem dJ2_compress_5af95_3 : decode cJ2_compress_5af95 3 = .ok (.aload_n 0, 1) := by decide +kernel
theorem dJ2_compress_5af95_4 : decode cJ2_compress_5af95 4 = .ok (.invokestatic 173, 3) := by decide +kernel
theorem dJ2_compress_5af95_7 : decode cJ2_compress_5af95 7 = .ok (.iconst 0, 1) := by decide +kernel
theorem dJ2_compress_5af95_8 : decode cJ2_compress_5af95 8 = .ok (.istore 5, 2) := by decide +kernel
theorem dJ2_compress_5af95_10 : decode cJ2_compress_5af95 10 = .ok (.iload 5, 2) := by decide +kernel
theorem dJ2_compress_5af95_12 : decode cJ2_compress_5af95 12 = .ok (.iload 4, 2) := by decide +kernel
theorem dJ2_compress_5af95_14 : decode cJ2_compress_5af95 14 = .ok (.if_icmp .ge 39, 3) := by decide +kernel
theorem dJ2_compress_5af95_17 : decode cJ2_compress_5af95 17 = .ok (.aload_n 0, 1) := by decide +kernel
theorem dJ2_compress_5af95_18 : decode cJ2_compress_5af95 18 = .ok (.iload_n 1, 1) := by decide +kernel
theorem dJ2_compress_5af95_19 : decode cJ2_compress_5af95 19 = .ok (.invokestatic 71, 3) := by decide +kernel
theorem dJ2_compress_5af95_22 : decode cJ2_compress_5af95 22 = .ok (.istore 6, 2) := by decide +kernel
theorem dJ2_compress_5af95_24 : decode cJ2_compress_5af95 24 = .ok (.iload 6, 2) := by decide +kernel
theorem dJ2_compress_5af95_26 : decode cJ2_compress_5af95 26 = .ok (.sipush 255, 3) := by decide +kernel
theorem dJ2_compress_5af95_29 : decode cJ2_compress_5af95 29 = .ok (.if_icmp .le 6, 3) := by decide +kernel
theorem dJ2_compress_5af95_32 : decode cJ2_compress_5af95 32 = .ok (.iload 5, 2) := by decide +kernel
theorem dJ2_compress_5af95_34 : decode cJ2_compress_5af95 34 = .ok (.ireturn, 1) := by decide +kernel
theorem dJ2_compress_5af95_35 : decode cJ2_compress_5af95 35 = .ok (.aload_n 2, 1) := by decide +kernel
theorem dJ2_compress_5af95_36 : decode cJ2_compress_5af95 36 = .ok (.iload_n 3, 1) := by decide +kernel
theorem dJ2_compress_5af95_37 : decode cJ2_compress_5af95 37 = .ok (.iload 6, 2) := by decide +kernel
theorem dJ2_compress_5af95_39 : decode cJ2_compress_5af95 39 = .ok (.i2b, 1) := by decide +kernel
theorem dJ2_compress_5af95_40 : decode cJ2_compress_5af95 40 = .ok (.bastore, 1) := by decide +kernel
theorem dJ2_compress_5af95_41 : decode cJ2_compress_5af95 41 = .ok (.iinc 1 1, 3) := by decide +kernel
theorem dJ2_compress_5af95_44 : decode cJ2_compress_5af95 44 = .ok (.iinc 3 1, 3) := by decide +kernel
theorem dJ2_compress_5af95_47 : decode cJ2_compress_5af95 47 = .ok (.iinc 5 1, 3) := by decide +kernel
theorem dJ2_compress_5af95_50 : decode cJ2_compress_5af95 50 = .ok (.goto (-40), 3) := by decide +kernel
theorem dJ2_compress_5af95_53 : decode cJ2_compress_5af95 53 = .ok (.iload 4, 2) := by decide +kernel
theorem dJ2_compress_5af95_55 : decode cJ2_compress_5af95 55 = .ok (.ireturn, 1) := by decide +kernel
theorem dJ2_putCharSB_b72d1_0 : decode cJ2_putCharSB_b72d1 0 = .ok (.iload_n 1, 1) := by decide +kernel
theorem dJ2_putCharSB_b72d1_1 : decode cJ2_putCharSB_b72d1 1 = .ok (.aload_n 0, 1) := by decide +kernel
theorem dJ2_putCharSB_b72d1_2 : decode cJ2_putCharSB_b72d1 2 = .ok (.invokestatic 67, 3) := by decide +kernel
theorem dJ2_putCharSB_b72d1_5 : decode cJ2_putCharSB_b72d1 5 = .ok (.aload_n 0, 1) := by decide +kernel
theorem dJ2_putCharSB_b72d1_6 : decode cJ2_putCharSB_b72d1 6 = .ok (.iload_n 1, 1) := by decide +kernel
theorem dJ2_putCharSB_b72d1_7 : decode cJ2_putCharSB_b72d1 7 = .ok (.iload_n 2, 1) := by decide +kernel
theorem dJ2_putCharSB_b72d1_8 : decode cJ2_putCharSB_b72d1 8 = .ok (.invokestatic 111, 3) := by decide +kernel
theorem dJ2_putCharSB_b72d1_11 : decode cJ2_putCharSB_b72d1 11 = .ok (.return_, 1) := by decide +kernel
theorem dJ2_getChars_46870_0 : decode cJ2_getChars_46870 0 = .ok (.iload_n 1, 1) := by decide +kernel
theorem dJ2_getChars_46870_1 : decode cJ2_getChars_46870 1 = .ok (.iload_n 2, 1) := by decide +kernel
theorem dJ2_getChars_46870_2 : decode cJ2_getChars_46870 2 = .ok (.aload_n 3, 1) := by decide +kernel
theorem dJ2_getChars_46870_3 : decode cJ2_getChars_46870 3 = .ok (.invokestatic 96, 3) := by decide +kernel
theorem dJ2_getChars_46870_6 : decode cJ2_getChars_46870 6 = .ok (.iload_n 0, 1) := by decide +kernel
theorem dJ2_getChars_46870_7 : decode cJ2_getChars_46870 7 = .ok (.iload_n 2, 1) := by decide +kernel
theorem dJ2_getChars_46870_8 : decode cJ2_getChars_46870 8 = .ok (.aload_n 3, 1) := by decide +kernel
theorem dJ2_getChars_46870_9 : decode cJ2_getChars_46870 9 = .ok (.invokestatic 393, 3) := by decide +kernel
theorem dJ2_getChars_46870_12 : decode cJ2_getChars_46870 12 = .ok (.istore 4, 2) := by decide +kernel
theorem dJ2_getChars_46870_14 : decode cJ2_getChars_46870 14 = .ok (.getstatic 44, 3) := by decide +kernel
theorem dJ2_getChars_46870_17 : decode cJ2_getChars_46870 17 = .ok (.ifCond .ne 17, 3) := by decide +kernel
theorem dJ2_getChars_46870_20 : decode cJ2_getChars_46870 20 = .ok (.iload_n 1, 1) := by decide +kernel
theorem dJ2_getChars_46870_21 : decode cJ2_getChars_46870 21 = .ok (.iload 4, 2) := by decide +kernel
theorem dJ2_getChars_46870_23 : decode cJ2_getChars_46870 23 = .ok (.if_icmp .eq 11, 3) := by decide +kernel
theorem dJ2_getChars_46870_26 : decode cJ2_getChars_46870 26 = .ok (.new 52, 3) := by decide +kernel
theorem dJ2_getChars_46870_29 : decode cJ2_getChars_46870 29 = .ok (.dup, 1) := by decide +kernel
theorem dJ2_getChars_46870_30 : decode cJ2_getChars_46870 30 = .ok (.invokespecial 66, 3) := by decide +kernel
theorem dJ2_getChars_46870_33 : decode cJ2_getChars_46870 33 = .ok (.athrow, 1) := by decide +kernel
theorem dJ2_getChars_46870_34 : decode cJ2_getChars_46870 34 = .ok (.iload 4, 2) := by decide +kernel
theorem dJ2_getChars_46870_36 : decode cJ2_getChars_46870 36 = .ok (.ireturn, 1) := by decide +kernel
theorem dJ2_putCharsAt_cd4e5_0 : decode cJ2_putCharsAt_cd4e5 0 = .ok (.iload_n 1, 1) := by decide +kernel
theorem dJ2_putCharsAt_cd4e5_1 : decode cJ2_putCharsAt_cd4e5 1 = .ok (.iconst 4, 1) := by decide +kernel
theorem dJ2_putCharsAt_cd4e5_2 : decode cJ2_putCharsAt_cd4e5 2 = .ok (.iadd, 1) := by decide +kernel
theorem dJ2_putCharsAt_cd4e5_3 : decode cJ2_putCharsAt_cd4e5 3 = .ok (.istore 6, 2) := by decide +kernel
theorem dJ2_putCharsAt_cd4e5_5 : decode cJ2_putCharsAt_cd4e5 5 = .ok (.iload_n 1, 1) := by decide +kernel
theorem dJ2_putCharsAt_cd4e5_6 : decode cJ2_putCharsAt_cd4e5 6 = .ok (.iload 6, 2) := by decide +kernel
theorem dJ2_putCharsAt_cd4e5_8 : decode cJ2_putCharsAt_cd4e5 8 = .ok (.aload_n 0, 1) := by decide +kernel
theorem dJ2_putCharsAt_cd4e5_9 : decode cJ2_putCharsAt_cd4e5 9 = .ok (.invokestatic 96, 3) := by decide +kernel
theorem dJ2_putCharsAt_cd4e5_12 : decode cJ2_putCharsAt_cd4e5 12 = .ok (.aload_n 0, 1) := by decide +kernel
theorem dJ2_putCharsAt_cd4e5_13 : decode cJ2_putCharsAt_cd4e5 13 = .ok (.iload_n 1, 1) := by decide +kernel
theorem dJ2_putCharsAt_cd4e5_14 : decode cJ2_putCharsAt_cd4e5 14 = .ok (.iinc 1 1, 3) := by decide +kernel
theorem dJ2_putCharsAt_cd4e5_17 : decode cJ2_putCharsAt_cd4e5 17 = .ok (.iload_n 2, 1) := by decide +kernel
theorem dJ2_putCharsAt_cd4e5_18 : decode cJ2_putCharsAt_cd4e5 18 = .ok (.invokestatic 111, 3) := by decide +kernel
theorem dJ2_putCharsAt_cd4e5_21 : decode cJ2_putCharsAt_cd4e5 21 = .ok (.aload_n 0, 1) := by decide +kernel
theorem dJ2_putCharsAt_cd4e5_22 : decode cJ2_putCharsAt_cd4e5 22 = .ok (.iload_n 1, 1) := by decide +kernel
theorem dJ2_putCharsAt_cd4e5_23 : decode cJ2_putCharsAt_cd4e5 23 = .ok (.iinc 1 1, 3) := by decide +kernel
theorem dJ2_putCharsAt_cd4e5_26 : decode cJ2_putCharsAt_cd4e5 26 = .ok (.iload_n 3, 1) := by decide +kernel
theorem dJ2_putCharsAt_cd4e5_27 : decode cJ2_putCharsAt_cd4e5 27 = .ok (.invokestatic 111, 3) := by decide +kernel
theorem dJ2_putCharsAt_cd4e5_30 : decode cJ2_putCharsAt_cd4e5 30 = .ok (.aload_n 0, 1) := by decide +kernel
theorem dJ2_putCharsAt_cd4e5_31 : decode cJ2_putCharsAt_cd4e5 31 = .ok (.iload_n 1, 1) := by decide +kernel
theorem dJ2_putCharsAt_cd4e5_32 : decode cJ2_putCharsAt_cd4e5 32 = .ok (.iinc 1 1, 3) := by decide +kernel
theorem dJ2_putCharsAt_cd4e5_35 : decode cJ2_putCharsAt_cd4e5 35 = .ok (.iload 4, 2) := by decide +kernel
theorem dJ2_putCharsAt_cd4e5_37 : decode cJ2_putCharsAt_cd4e5 37 = .ok (.invokestatic 111, 3) := by decide +kernel
theorem dJ2_putCharsAt_cd4e5_40 : decode cJ2_putCharsAt_cd4e5 40 = .ok (.aload_n 0, 1) := by decide +kernel
theorem dJ2_putCharsAt_cd4e5_41 : decode cJ2_putCharsAt_cd4e5 41 = .ok (.iload_n 1, 1) := by decide +kernel
theorem dJ2_putCharsAt_cd4e5_42 : decode cJ2_putCharsAt_cd4e5 42 = .ok (.iinc 1 1, 3) := by decide +kernel
theorem dJ2_putCharsAt_cd4e5_45 : decode cJ2_putCharsAt_cd4e5 45 = .ok (.iload 5, 2) := by decide +kernel
theorem dJ2_putCharsAt_cd4e5_47 : decode cJ2_putCharsAt_cd4e5 47 = .ok (.invokestatic 111, 3) := by decide +kernel
theorem dJ2_putCharsAt_cd4e5_50 : decode cJ2_putCharsAt_cd4e5 50 = .ok (.getstatic 44, 3) := by decide +kernel
theorem dJ2_putCharsAt_cd4e5_53 : decode cJ2_putCharsAt_cd4e5 53 = .ok (.ifCond .ne 17, 3) := by decide +kernel
theorem dJ2_putCharsAt_cd4e5_56 : decode cJ2_putCharsAt_cd4e5 56 = .ok (.iload_n 1, 1) := by decide +kernel
theorem dJ2_putCharsAt_cd4e5_57 : decode cJ2_putCharsAt_cd4e5 57 = .ok (.iload 6, 2) := by decide +kernel
theorem dJ2_putCharsAt_cd4e5_59 : decode cJ2_putCharsAt_cd4e5 59 = .ok (.if_icmp .eq 11, 3) := by decide +kernel
theorem dJ2_putCharsAt_cd4e5_62 : decode cJ2_putCharsAt_cd4e5 62 = .ok (.new 52, 3) := by decide +kernel
theorem dJ2_putCharsAt_cd4e5_65 : decode cJ2_putCharsAt_cd4e5 65 = .ok (.dup, 1) := by decide +kernel
theorem dJ2_putCharsAt_cd4e5_66 : decode cJ2_putCharsAt_cd4e5 66 = .ok (.invokespecial 66, 3) := by decide +kernel
theorem dJ2_putCharsAt_cd4e5_69 : decode cJ2_putCharsAt_cd4e5 69 = .ok (.athrow, 1) := by decide +kernel
theorem dJ2_putCharsAt_cd4e5_70 : decode cJ2_putCharsAt_cd4e5 70 = .ok (.iload 6, 2) := by decide +kernel
theorem dJ2_putCharsAt_cd4e5_72 : decode cJ2_putCharsAt_cd4e5 72 = .ok (.ireturn, 1) := by decide +kernel
theorem dJ2_charAt_3b067_0 : decode cJ2_charAt_3b067 0 = .ok (.iload_n 1, 1) := by decide +kernel
theorem dJ2_charAt_3b067_1 : decode cJ2_charAt_3b067 1 = .ok (.aload_n 0, 1) := by decide +kernel
theorem dJ2_charAt_3b067_2 : decode cJ2_charAt_3b067 2 = .ok (.invokestatic 67, 3) := by decide +kernel
theorem dJ2_charAt_3b067_5 : decode cJ2_charAt_3b067 5 = .ok (.aload_n 0, 1) := by decide +kernel
theorem dJ2_charAt_3b067_6 : decode cJ2_charAt_3b067 6 = .ok (.iload_n 1, 1) := by decide +kernel
theorem dJ2_charAt_3b067_7 : decode cJ2_charAt_3b067 7 = .ok (.invokestatic 71, 3) := by decide +kernel
theorem dJ2_charAt_3b067_10 : decode cJ2_charAt_3b067 10 = .ok (.ireturn, 1) := by decide +kernel
theorem dJ2_inflate_0e8fd_0 : decode cJ2_inflate_0e8fd 0 = .ok (.iload_n 3, 1) := by decide +kernel
theorem dJ2_inflate_0e8fd_1 : decode cJ2_inflate_0e8fd 1 = .ok (.iload 4, 2) := by decide +kernel
theorem dJ2_inflate_0e8fd_3 : decode cJ2_inflate_0e8fd 3 = .ok (.aload_n 2, 1) := by decide +kernel
theorem dJ2_inflate_0e8fd_4 : decode cJ2_inflate_0e8fd 4 = .ok (.invokestatic 173, 3) := by decide +kernel
theorem dJ2_inflate_0e8fd_7 : decode cJ2_inflate_0e8fd 7 = .ok (.iconst 0, 1) := by decide +kernel
theorem dJ2_inflate_0e8fd_8 : decode cJ2_inflate_0e8fd 8 = .ok (.istore 5, 2) := by decide +kernel
theorem dJ2_inflate_0e8fd_10 : decode cJ2_inflate_0e8fd 10 = .ok (.iload 5, 2) := by decide +kernel
theorem dJ2_inflate_0e8fd_12 : decode cJ2_inflate_0e8fd 12 = .ok (.iload 4, 2) := by decide +kernel
theorem dJ2_inflate_0e8fd_14 : decode cJ2_inflate_0e8fd 14 = .ok (.if_icmp .ge 27, 3) := by decide +kernel
theorem dJ2_inflate_0e8fd_17 : decode cJ2_inflate_0e8fd 17 = .ok (.aload_n 2, 1) := by decide +kernel
theorem dJ2_inflate_0e8fd_18 : decode cJ2_inflate_0e8fd 18 = .ok (.iload_n 3, 1) := by decide +kernel
theorem dJ2_inflate_0e8fd_19 : decode cJ2_inflate_0e8fd 19 = .ok (.iinc 3 1, 3) := by decide +kernel
theorem dJ2_inflate_0e8fd_22 : decode cJ2_inflate_0e8fd 22 = .ok (.aload_n 0, 1) := by decide +kernel
theorem dJ2_inflate_0e8fd_23 : decode cJ2_inflate_0e8fd 23 = .ok (.iload_n 1, 1) := by decide +kernel
theorem dJ2_inflate_0e8fd_24 : decode cJ2_inflate_0e8fd 24 = .ok (.iinc 1 1, 3) := by decide +kernel
theorem dJ2_inflate_0e8fd_27 : decode cJ2_inflate_0e8fd 27 = .ok (.baload, 1) := by decide +kernel
theorem dJ2_inflate_0e8fd_28 : decode cJ2_inflate_0e8fd 28 = .ok (.sipush 255, 3) := by decide +kernel
theorem dJ2_inflate_0e8fd_31 : decode cJ2_inflate_0e8fd 31 = .ok (.iand, 1) := by decide +kernel
theorem dJ2_inflate_0e8fd_32 : decode cJ2_inflate_0e8fd 32 = .ok (.invokestatic 111, 3) := by decide +kernel
theorem dJ2_inflate_0e8fd_35 : decode cJ2_inflate_0e8fd 35 = .ok (.iinc 5 1, 3) := by decide +kernel
theorem dJ2_inflate_0e8fd_38 : decode cJ2_inflate_0e8fd 38 = .ok (.goto (-28), 3) := by decide +kernel
theorem dJ2_inflate_0e8fd_41 : decode cJ2_inflate_0e8fd 41 = .ok (.return_, 1) := by decide +kernel
theorem dJ2_getChars_ba4f3_0 : decode cJ2_getChars_ba4f3 0 = .ok (.iload_n 1, 1) := by decide +kernel
theorem dJ2_getChars_ba4f3_1 : decode cJ2_getChars_ba4f3 1 = .ok (.istore 5, 2) := by decide +kernel
theorem dJ2_getChars_ba4f3_3 : decode cJ2_getChars_ba4f3 3 = .ok (.iload_n 0, 1) := by decide +kernel
theorem dJ2_getChars_ba4f3_4 : decode cJ2_getChars_ba4f3 4 = .ok (.ifCond .ge 7, 3) := by decide +kernel
theorem dJ2_getChars_ba4f3_7 : decode cJ2_getChars_ba4f3 7 = .ok (.iconst 1, 1) := by decide +kernel
theorem dJ2_getChars_ba4f3_8 : decode cJ2_getChars_ba4f3 8 = .ok (.goto 4, 3) := by decide +kernel
theorem dJ2_getChars_ba4f3_11 : decode cJ2_getChars_ba4f3 11 = .ok (.iconst 0, 1) := by decide +kernel
theorem dJ2_getChars_ba4f3_12 : decode cJ2_getChars_ba4f3 12 = .ok (.istore 6, 2) := by decide +kernel
theorem dJ2_getChars_ba4f3_14 : decode cJ2_getChars_ba4f3 14 = .ok (.iload 6, 2) := by decide +kernel
theorem dJ2_getChars_ba4f3_16 : decode cJ2_getChars_ba4f3 16 = .ok (.ifCond .ne 6, 3) := by decide +kernel
theorem dJ2_getChars_ba4f3_19 : decode cJ2_getChars_ba4f3 19 = .ok (.iload_n 0, 1) := by decide +kernel
theorem dJ2_getChars_ba4f3_20 : decode cJ2_getChars_ba4f3 20 = .ok (.ineg, 1) := by decide +kernel
theorem dJ2_getChars_ba4f3_21 : decode cJ2_getChars_ba4f3 21 = .ok (.istore_n 0, 1) := by decide +kernel
theorem dJ2_getChars_ba4f3_22 : decode cJ2_getChars_ba4f3 22 = .ok (.iload_n 0, 1) := by decide +kernel
theorem dJ2_getChars_ba4f3_23 : decode cJ2_getChars_ba4f3 23 = .ok (.bipush (-100), 2) := by decide +kernel
theorem dJ2_getChars_ba4f3_25 : decode cJ2_getChars_ba4f3 25 = .ok (.if_icmp .gt 51, 3) := by decide +kernel
theorem dJ2_getChars_ba4f3_28 : decode cJ2_getChars_ba4f3 28 = .ok (.iload_n 0, 1) := by decide +kernel
theorem dJ2_getChars_ba4f3_29 : decode cJ2_getChars_ba4f3 29 = .ok (.bipush 100, 2) := by decide +kernel
theorem dJ2_getChars_ba4f3_31 : decode cJ2_getChars_ba4f3 31 = .ok (.idiv, 1) := by decide +kernel
theorem dJ2_getChars_ba4f3_32 : decode cJ2_getChars_ba4f3 32 = .ok (.istore_n 3, 1) := by decide +kernel
theorem dJ2_getChars_ba4f3_33 : decode cJ2_getChars_ba4f3 33 = .ok (.iload_n 3, 1) := by decide +kernel
theorem dJ2_getChars_ba4f3_34 : decode cJ2_getChars_ba4f3 34 = .ok (.bipush 100, 2) := by decide +kernel
theorem dJ2_getChars_ba4f3_36 : decode cJ2_getChars_ba4f3 36 = .ok (.imul, 1) := by decide +kernel
theorem dJ2_getChars_ba4f3_37 : decode cJ2_getChars_ba4f3 37 = .ok (.iload_n 0, 1) := by decide +kernel
theorem dJ2_getChars_ba4f3_38 : decode cJ2_getChars_ba4f3 38 = .ok (.isub, 1) := by decide +kernel
theorem dJ2_getChars_ba4f3_39 : decode cJ2_getChars_ba4f3 39 = .ok (.istore 4, 2) := by decide +kernel
theorem dJ2_getChars_ba4f3_41 : decode cJ2_getChars_ba4f3 41 = .ok (.iload_n 3, 1) := by decide +kernel
theorem dJ2_getChars_ba4f3_42 : decode cJ2_getChars_ba4f3 42 = .ok (.istore_n 0, 1) := by decide +kernel
theorem dJ2_getChars_ba4f3_43 : decode cJ2_getChars_ba4f3 43 = .ok (.aload_n 2, 1) := by decide +kernel
theorem dJ2_getChars_ba4f3_44 : decode cJ2_getChars_ba4f3 44 = .ok (.iinc 5 (-1), 3) := by decide +kernel
theorem dJ2_getChars_ba4f3_47 : decode cJ2_getChars_ba4f3 47 = .ok (.iload 5, 2) := by decide +kernel
theorem dJ2_getChars_ba4f3_49 : decode cJ2_getChars_ba4f3 49 = .ok (.getstatic 403, 3) := by decide +kernel
theorem dJ2_getChars_ba4f3_52 : decode cJ2_getChars_ba4f3 52 = .ok (.iload 4, 2) := by decide +kernel
theorem dJ2_getChars_ba4f3_54 : decode cJ2_getChars_ba4f3 54 = .ok (.baload, 1) := by decide +kernel
theorem dJ2_getChars_ba4f3_55 : decode cJ2_getChars_ba4f3 55 = .ok (.invokestatic 111, 3) := by decide +kernel
theorem dJ2_getChars_ba4f3_58 : decode cJ2_getChars_ba4f3 58 = .ok (.aload_n 2, 1) := by decide +kernel
theorem dJ2_getChars_ba4f3_59 : decode cJ2_getChars_ba4f3 59 = .ok (.iinc 5 (-1), 3) := by decide +kernel
theorem dJ2_getChars_ba4f3_62 : decode cJ2_getChars_ba4f3 62 = .ok (.iload 5, 2) := by decide +kernel
theorem dJ2_getChars_ba4f3_64 : decode cJ2_getChars_ba4f3 64 = .ok (.getstatic 407, 3) := by decide +kernel
theorem dJ2_getChars_ba4f3_67 : decode cJ2_getChars_ba4f3 67 = .ok (.iload 4, 2) := by decide +kernel
theorem dJ2_getChars_ba4f3_69 : decode cJ2_getChars_ba4f3 69 = .ok (.baload, 1) := by decide +kernel
theorem dJ2_getChars_ba4f3_70 : decode cJ2_getChars_ba4f3 70 = .ok (.invokestatic 111, 3) := by decide +kernel
theorem dJ2_getChars_ba4f3_73 : decode cJ2_getChars_ba4f3 73 = .ok (.goto (-51), 3) := by decide +kernel
theorem dJ2_getChars_ba4f3_76 : decode cJ2_getChars_ba4f3 76 = .ok (.aload_n 2, 1) := by decide +kernel
theorem dJ2_getChars_ba4f3_77 : decode cJ2_getChars_ba4f3 77 = .ok (.iinc 5 (-1), 3) := by decide +kernel
theorem dJ2_getChars_ba4f3_80 : decode cJ2_getChars_ba4f3 80 = .ok (.iload 5, 2) := by decide +kernel
theorem dJ2_getChars_ba4f3_82 : decode cJ2_getChars_ba4f3 82 = .ok (.getstatic 403, 3) := by decide +kernel
theorem dJ2_getChars_ba4f3_85 : decode cJ2_getChars_ba4f3 85 = .ok (.iload_n 0, 1) := by decide +kernel
theorem dJ2_getChars_ba4f3_86 : decode cJ2_getChars_ba4f3 86 = .ok (.ineg, 1) := by decide +kernel
theorem dJ2_getChars_ba4f3_87 : decode cJ2_getChars_ba4f3 87 = .ok (.baload, 1) := by decide +kernel
theorem dJ2_getChars_ba4f3_88 : decode cJ2_getChars_ba4f3 88 = .ok (.invokestatic 111, 3) := by decide +kernel
theorem dJ2_getChars_ba4f3_91 : decode cJ2_getChars_ba4f3 91 = .ok (.iload_n 0, 1) := by decide +kernel
theorem dJ2_getChars_ba4f3_92 : decode cJ2_getChars_ba4f3 92 = .ok (.bipush (-9), 2) := by decide +kernel
theorem dJ2_getChars_ba4f3_94 : decode cJ2_getChars_ba4f3 94 = .ok (.if_icmp .ge 18, 3) := by decide +kernel
theorem dJ2_getChars_ba4f3_97 : decode cJ2_getChars_ba4f3 97 = .ok (.aload_n 2, 1) := by decide +kernel
theorem dJ2_getChars_ba4f3_98 : decode cJ2_getChars_ba4f3 98 = .ok (.iinc 5 (-1), 3) := by decide +kernel
theorem dJ2_getChars_ba4f3_101 : decode cJ2_getChars_ba4f3 101 = .ok (.iload 5, 2) := by decide +kernel
theorem dJ2_getChars_ba4f3_103 : decode cJ2_getChars_ba4f3 103 = .ok (.getstatic 407, 3) := by decide +kernel
theorem dJ2_getChars_ba4f3_106 : decode cJ2_getChars_ba4f3 106 = .ok (.iload_n 0, 1) := by decide +kernel
theorem dJ2_getChars_ba4f3_107 : decode cJ2_getChars_ba4f3 107 = .ok (.ineg, 1) := by decide +kernel
theorem dJ2_getChars_ba4f3_108 : decode cJ2_getChars_ba4f3 108 = .ok (.baload, 1) := by decide +kernel
theorem dJ2_getChars_ba4f3_109 : decode cJ2_getChars_ba4f3 109 = .ok (.invokestatic 111, 3) := by decide +kernel
theorem dJ2_getChars_ba4f3_112 : decode cJ2_getChars_ba4f3 112 = .ok (.iload 6, 2) := by decide +kernel
theorem dJ2_getChars_ba4f3_114 : decode cJ2_getChars_ba4f3 114 = .ok (.ifCond .eq 14, 3) := by decide +kernel
theorem dJ2_getChars_ba4f3_117 : decode cJ2_getChars_ba4f3 117 = .ok (.aload_n 2, 1) := by decide +kernel
theorem dJ2_getChars_ba4f3_118 : decode cJ2_getChars_ba4f3 118 = .ok (.iinc 5 (-1), 3) := by decide +kernel
theorem dJ2_getChars_ba4f3_121 : decode cJ2_getChars_ba4f3 121 = .ok (.iload 5, 2) := by decide +kernel
theorem dJ2_getChars_ba4f3_123 : decode cJ2_getChars_ba4f3 123 = .ok (.bipush 45, 2) := by decide +kernel
theorem dJ2_getChars_ba4f3_125 : decode cJ2_getChars_ba4f3 125 = .ok (.invokestatic 111, 3) := by decide +kernel
theorem dJ2_getChars_ba4f3_128 : decode cJ2_getChars_ba4f3 128 = .ok (.iload 5, 2) := by decide +kernel
theorem dJ2_getChars_ba4f3_130 : decode cJ2_getChars_ba4f3 130 = .ok (.ireturn, 1) := by decide +kernel
theorem dJ2_checkIndex_2214a_0 : decode cJ2_checkIndex_2214a 0 = .ok (.iload_n 0, 1) := by decide +kernel
theorem dJ2_checkIndex_2214a_1 : decode cJ2_checkIndex_2214a 1 = .ok (.aload_n 1, 1) := by decide +kernel
theorem dJ2_checkIndex_2214a_2 : decode cJ2_checkIndex_2214a 2 = .ok (.invokestatic 48, 3) := by decide +kernel
theorem dJ2_checkIndex_2214a_5 : decode cJ2_checkIndex_2214a 5 = .ok (.invokestatic 414, 3) := by decide +kernel
theorem dJ2_checkIndex_2214a_8 : decode cJ2_checkIndex_2214a 8 = .ok (.return_, 1) := by decide +kernel
theorem dJ2_checkBoundsBeginEnd_d044e_0 : decode cJ2_checkBoundsBeginEnd_d044e 0 = .ok (.iload_n 0, 1) := by decide +kernel
theorem dJ2_checkBoundsBeginEnd_d044e_1 : decode cJ2_checkBoundsBeginEnd_d044e 1 = .ok (.iload_n 1, 1) := by decide +kernel
theorem dJ2_checkBoundsBeginEnd_d044e_2 : decode cJ2_checkBoundsBeginEnd_d044e 2 = .ok (.aload_n 2, 1) := by decide +kernel
theorem dJ2_checkBoundsBeginEnd_d044e_3 : decode cJ2_checkBoundsBeginEnd_d044e 3 = .ok (.invokestatic 48, 3) := by decide +kernel
theorem dJ2_checkBoundsBeginEnd_d044e_6 : decode cJ2_checkBoundsBeginEnd_d044e 6 = .ok (.invokestatic 241, 3) := by decide +kernel
theorem dJ2_checkBoundsBeginEnd_d044e_9 : decode cJ2_checkBoundsBeginEnd_d044e 9 = .ok (.return_, 1) := by decide +kernel
theorem dJ2_checkBoundsOffCount_d044e_0 : decode cJ2_checkBoundsOffCount_d044e 0 = .ok (.iload_n 0, 1) := by decide +kernel
theorem dJ2_checkBoundsOffCount_d044e_1 : decode cJ2_checkBoundsOffCount_d044e 1 = .ok (.iload_n 1, 1) := by decide +kernel
theorem dJ2_checkBoundsOffCount_d044e_2 : decode cJ2_checkBoundsOffCount_d044e 2 = .ok (.aload_n 2, 1) := by decide +kernel
theorem dJ2_checkBoundsOffCount_d044e_3 : decode cJ2_checkBoundsOffCount_d044e 3 = .ok (.invokestatic 48, 3) := by decide +kernel
theorem dJ2_checkBoundsOffCount_d044e_6 : decode cJ2_checkBoundsOffCount_d044e 6 = .ok (.invokestatic 419, 3) := by decide +kernel
theorem dJ2_checkBoundsOffCount_d044e_9 : decode cJ2_checkBoundsOffCount_d044e 9 = .ok (.pop, 1) := by decide +kernel
theorem dJ2_checkBoundsOffCount_d044e_10 : decode cJ2_checkBoundsOffCount_d044e 10 = .ok (.return_, 1) := by decide +kernel
theorem dJ7_copyOf_9075b_0 : decode cJ7_copyOf_9075b 0 = .ok (.iload_n 1, 1) := by decide +kernel
theorem dJ7_copyOf_9075b_1 : decode cJ7_copyOf_9075b 1 = .ok (.aload_n 0, 1) := by decide +kernel
theorem dJ7_copyOf_9075b_2 : decode cJ7_copyOf_9075b 2 = .ok (.arraylength, 1) := by decide +kernel
theorem dJ7_copyOf_9075b_3 : decode cJ7_copyOf_9075b 3 = .ok (.if_icmp .ne 11, 3) := by decide +kernel
theorem dJ7_copyOf_9075b_6 : decode cJ7_copyOf_9075b 6 = .ok (.aload_n 0, 1) := by decide +kernel
theorem dJ7_copyOf_9075b_7 : decode cJ7_copyOf_9075b 7 = .ok (.invokevirtual 310, 3) := by decide +kernel
theorem dJ7_copyOf_9075b_10 : decode cJ7_copyOf_9075b 10 = .ok (.checkcast 311, 3) := by decide +kernel
theorem dJ7_copyOf_9075b_13 : decode cJ7_copyOf_9075b 13 = .ok (.areturn, 1) := by decide +kernel
theorem dJ7_copyOf_9075b_14 : decode cJ7_copyOf_9075b 14 = .ok (.iload_n 1, 1) := by decide +kernel
theorem dJ7_copyOf_9075b_15 : decode cJ7_copyOf_9075b 15 = .ok (.newarray .byte, 2) := by decide +kernel
theorem dJ7_copyOf_9075b_17 : decode cJ7_copyOf_9075b 17 = .ok (.astore_n 2, 1) := by decide +kernel
theorem dJ7_copyOf_9075b_18 : decode cJ7_copyOf_9075b 18 = .ok (.aload_n 0, 1) := by decide +kernel
theorem dJ7_copyOf_9075b_19 : decode cJ7_copyOf_9075b 19 = .ok (.iconst 0, 1) := by decide +kernel
theorem dJ7_copyOf_9075b_20 : decode cJ7_copyOf_9075b 20 = .ok (.aload_n 2, 1) := by decide +kernel
theorem dJ7_copyOf_9075b_21 : decode cJ7_copyOf_9075b 21 = .ok (.iconst 0, 1) := by decide +kernel
theorem dJ7_copyOf_9075b_22 : decode cJ7_copyOf_9075b 22 = .ok (.aload_n 0, 1) := by decide +kernel
theorem dJ7_copyOf_9075b_23 : decode cJ7_copyOf_9075b 23 = .ok (.arraylength, 1) := by decide +kernel
theorem dJ7_copyOf_9075b_24 : decode cJ7_copyOf_9075b 24 = .ok (.iload_n 1, 1) := by decide +kernel
theorem dJ7_copyOf_9075b_25 : decode cJ7_copyOf_9075b 25 = .ok (.invokestatic 304, 3) := by decide +kernel
theorem dJ7_copyOf_9075b_28 : decode cJ7_copyOf_9075b 28 = .ok (.invokestatic 150, 3) := by decide +kernel
theorem dJ7_copyOf_9075b_31 : decode cJ7_copyOf_9075b 31 = .ok (.aload_n 2, 1) := by decide +kernel
theorem dJ7_copyOf_9075b_32 : decode cJ7_copyOf_9075b 32 = .ok (.areturn, 1) := by decide +kernel
theorem dJ7_checkLength_df160_0 : decode cJ7_checkLength_df160 0 = .ok (.iload_n 1, 1) := by decide +kernel
theorem dJ7_checkLength_df160_1 : decode cJ7_checkLength_df160 1 = .ok (.iload_n 0, 1) := by decide +kernel
theorem dJ7_checkLength_df160_2 : decode cJ7_checkLength_df160 2 = .ok (.if_icmp .ge 35, 3) := by decide +kernel
theorem dJ7_checkLength_df160_5 : decode cJ7_checkLength_df160 5 = .ok (.new 43, 3) := by decide +kernel
theorem dJ7_checkLength_df160_8 : decode cJ7_checkLength_df160 8 = .ok (.dup, 1) := by decide +kernel
theorem dJ7_checkLength_df160_9 : decode cJ7_checkLength_df160 9 = .ok (.new 45, 3) := by decide +kernel
theorem dJ7_checkLength_df160_12 : decode cJ7_checkLength_df160 12 = .ok (.dup, 1) := by decide +kernel
theorem dJ7_checkLength_df160_13 : decode cJ7_checkLength_df160 13 = .ok (.invokespecial 47, 3) := by decide +kernel
theorem dJ7_checkLength_df160_16 : decode cJ7_checkLength_df160 16 = .ok (.iload_n 0, 1) := by decide +kernel
theorem dJ7_checkLength_df160_17 : decode cJ7_checkLength_df160 17 = .ok (.invokevirtual 54, 3) := by decide +kernel
theorem dJ7_checkLength_df160_20 : decode cJ7_checkLength_df160 20 = .ok (.ldc_w 337, 3) := by decide +kernel
theorem dJ7_checkLength_df160_23 : decode cJ7_checkLength_df160 23 = .ok (.invokevirtual 50, 3) := by decide +kernel
theorem dJ7_checkLength_df160_26 : decode cJ7_checkLength_df160 26 = .ok (.iload_n 1, 1) := by decide +kernel
theorem dJ7_checkLength_df160_27 : decode cJ7_checkLength_df160 27 = .ok (.invokevirtual 54, 3) := by decide +kernel
theorem dJ7_checkLength_df160_30 : decode cJ7_checkLength_df160 30 = .ok (.invokevirtual 61, 3) := by decide +kernel
theorem dJ7_checkLength_df160_33 : decode cJ7_checkLength_df160 33 = .ok (.invokespecial 65, 3) := by decide +kernel
theorem dJ7_checkLength_df160_36 : decode cJ7_checkLength_df160 36 = .ok (.athrow, 1) := by decide +kernel
theorem dJ7_checkLength_df160_37 : decode cJ7_checkLength_df160 37 = .ok (.return_, 1) := by decide +kernel
theorem dJ7_copyOfRange_39247_0 : decode cJ7_copyOfRange_39247 0 = .ok (.iload_n 1, 1) := by decide +kernel
theorem dJ7_copyOfRange_39247_1 : decode cJ7_copyOfRange_39247 1 = .ok (.ifCond .ne 9, 3) := by decide +kernel
theorem dJ7_copyOfRange_39247_4 : decode cJ7_copyOfRange_39247 4 = .ok (.iload_n 2, 1) := by decide +kernel
theorem dJ7_copyOfRange_39247_5 : decode cJ7_copyOfRange_39247 5 = .ok (.aload_n 0, 1) := by decide +kernel
theorem dJ7_copyOfRange_39247_6 : decode cJ7_copyOfRange_39247 6 = .ok (.arraylength, 1) := by decide +kernel
theorem dJ7_copyOfRange_39247_7 : decode cJ7_copyOfRange_39247 7 = .ok (.if_icmp .eq 10, 3) := by decide +kernel
theorem dJ7_copyOfRange_39247_10 : decode cJ7_copyOfRange_39247 10 = .ok (.aload_n 0, 1) := by decide +kernel
theorem dJ7_copyOfRange_39247_11 : decode cJ7_copyOfRange_39247 11 = .ok (.iload_n 1, 1) := by decide +kernel
theorem dJ7_copyOfRange_39247_12 : decode cJ7_copyOfRange_39247 12 = .ok (.iload_n 2, 1) := by decide +kernel
theorem dJ7_copyOfRange_39247_13 : decode cJ7_copyOfRange_39247 13 = .ok (.invokestatic 339, 3) := by decide +kernel
theorem dJ7_copyOfRange_39247_16 : decode cJ7_copyOfRange_39247 16 = .ok (.areturn, 1) := by decide +kernel
theorem dJ7_copyOfRange_39247_17 : decode cJ7_copyOfRange_39247 17 = .ok (.aload_n 0, 1) := by decide +kernel
theorem dJ7_copyOfRange_39247_18 : decode cJ7_copyOfRange_39247 18 = .ok (.invokevirtual 310, 3) := by decide +kernel
theorem dJ7_copyOfRange_39247_21 : decode cJ7_copyOfRange_39247 21 = .ok (.checkcast 311, 3) := by decide +kernel
theorem dJ7_copyOfRange_39247_24 : decode cJ7_copyOfRange_39247 24 = .ok (.areturn, 1) := by decide +kernel
theorem dJ7_copyOfRangeByte_39247_0 : decode cJ7_copyOfRangeByte_39247 0 = .ok (.iload_n 1, 1) := by decide +kernel
theorem dJ7_copyOfRangeByte_39247_1 : decode cJ7_copyOfRangeByte_39247 1 = .ok (.iload_n 2, 1) := by decide +kernel
theorem dJ7_copyOfRangeByte_39247_2 : decode cJ7_copyOfRangeByte_39247 2 = .ok (.invokestatic 343, 3) := by decide +kernel
theorem dJ7_copyOfRangeByte_39247_5 : decode cJ7_copyOfRangeByte_39247 5 = .ok (.iload_n 2, 1) := by decide +kernel
theorem dJ7_copyOfRangeByte_39247_6 : decode cJ7_copyOfRangeByte_39247 6 = .ok (.iload_n 1, 1) := by decide +kernel
theorem dJ7_copyOfRangeByte_39247_7 : decode cJ7_copyOfRangeByte_39247 7 = .ok (.isub, 1) := by decide +kernel
theorem dJ7_copyOfRangeByte_39247_8 : decode cJ7_copyOfRangeByte_39247 8 = .ok (.istore_n 3, 1) := by decide +kernel
theorem dJ7_copyOfRangeByte_39247_9 : decode cJ7_copyOfRangeByte_39247 9 = .ok (.iload_n 3, 1) := by decide +kernel
theorem dJ7_copyOfRangeByte_39247_10 : decode cJ7_copyOfRangeByte_39247 10 = .ok (.newarray .byte, 2) := by decide +kernel
theorem dJ7_copyOfRangeByte_39247_12 : decode cJ7_copyOfRangeByte_39247 12 = .ok (.astore 4, 2) := by decide +kernel
theorem dJ7_copyOfRangeByte_39247_14 : decode cJ7_copyOfRangeByte_39247 14 = .ok (.aload_n 0, 1) := by decide +kernel
theorem dJ7_copyOfRangeByte_39247_15 : decode cJ7_copyOfRangeByte_39247 15 = .ok (.iload_n 1, 1) := by decide +kernel
theorem dJ7_copyOfRangeByte_39247_16 : decode cJ7_copyOfRangeByte_39247 16 = .ok (.aload 4, 2) := by decide +kernel
theorem dJ7_copyOfRangeByte_39247_18 : decode cJ7_copyOfRangeByte_39247 18 = .ok (.iconst 0, 1) := by decide +kernel
theorem dJ7_copyOfRangeByte_39247_19 : decode cJ7_copyOfRangeByte_39247 19 = .ok (.aload_n 0, 1) := by decide +kernel
theorem dJ7_copyOfRangeByte_39247_20 : decode cJ7_copyOfRangeByte_39247 20 = .ok (.arraylength, 1) := by decide +kernel
theorem dJ7_copyOfRangeByte_39247_21 : decode cJ7_copyOfRangeByte_39247 21 = .ok (.iload_n 1, 1) := by decide +kernel
theorem dJ7_copyOfRangeByte_39247_22 : decode cJ7_copyOfRangeByte_39247 22 = .ok (.isub, 1) := by decide +kernel
theorem dJ7_copyOfRangeByte_39247_23 : decode cJ7_copyOfRangeByte_39247 23 = .ok (.iload_n 3, 1) := by decide +kernel
theorem dJ7_copyOfRangeByte_39247_24 : decode cJ7_copyOfRangeByte_39247 24 = .ok (.invokestatic 304, 3) := by decide +kernel
theorem dJ7_copyOfRangeByte_39247_27 : decode cJ7_copyOfRangeByte_39247 27 = .ok (.invokestatic 150, 3) := by decide +kernel
theorem dJ7_copyOfRangeByte_39247_30 : decode cJ7_copyOfRangeByte_39247 30 = .ok (.aload 4, 2) := by decide +kernel
theorem dJ7_copyOfRangeByte_39247_32 : decode cJ7_copyOfRangeByte_39247 32 = .ok (.areturn, 1) := by decide +kernel
theorem dJ8_newLength_cabcc_0 : decode cJ8_newLength_cabcc 0 = .ok (.iload_n 0, 1) := by decide +kernel
theorem dJ8_newLength_cabcc_1 : decode cJ8_newLength_cabcc 1 = .ok (.iload_n 1, 1) := by decide +kernel
theorem dJ8_newLength_cabcc_2 : decode cJ8_newLength_cabcc 2 = .ok (.iload_n 2, 1) := by decide +kernel
theorem dJ8_newLength_cabcc_3 : decode cJ8_newLength_cabcc 3 = .ok (.invokestatic 194, 3) := by decide +kernel
theorem dJ8_newLength_cabcc_6 : decode cJ8_newLength_cabcc 6 = .ok (.iadd, 1) := by decide +kernel
theorem dJ8_newLength_cabcc_7 : decode cJ8_newLength_cabcc 7 = .ok (.istore_n 3, 1) := by decide +kernel
theorem dJ8_newLength_cabcc_8 : decode cJ8_newLength_cabcc 8 = .ok (.iconst 0, 1) := by decide +kernel
theorem dJ8_newLength_cabcc_9 : decode cJ8_newLength_cabcc 9 = .ok (.iload_n 3, 1) := by decide +kernel
theorem dJ8_newLength_cabcc_10 : decode cJ8_newLength_cabcc 10 = .ok (.if_icmp .ge 11, 3) := by decide +kernel
theorem dJ8_newLength_cabcc_13 : decode cJ8_newLength_cabcc 13 = .ok (.iload_n 3, 1) := by decide +kernel
theorem dJ8_newLength_cabcc_14 : decode cJ8_newLength_cabcc 14 = .ok (.ldc 200, 2) := by decide +kernel
theorem dJ8_newLength_cabcc_16 : decode cJ8_newLength_cabcc 16 = .ok (.if_icmp .gt 5, 3) := by decide +kernel
theorem dJ8_newLength_cabcc_19 : decode cJ8_newLength_cabcc 19 = .ok (.iload_n 3, 1) := by decide +kernel
theorem dJ8_newLength_cabcc_20 : decode cJ8_newLength_cabcc 20 = .ok (.ireturn, 1) := by decide +kernel
theorem dJ8_newLength_cabcc_21 : decode cJ8_newLength_cabcc 21 = .ok (.iload_n 0, 1) := by decide +kernel
theorem dJ8_newLength_cabcc_22 : decode cJ8_newLength_cabcc 22 = .ok (.iload_n 1, 1) := by decide +kernel
theorem dJ8_newLength_cabcc_23 : decode cJ8_newLength_cabcc 23 = .ok (.invokestatic 201, 3) := by decide +kernel
theorem dJ8_newLength_cabcc_26 : decode cJ8_newLength_cabcc 26 = .ok (.ireturn, 1) := by decide +kernel
theorem dJ8_hugeLength_7cf53_0 : decode cJ8_hugeLength_7cf53 0 = .ok (.iload_n 0, 1) := by decide +kernel
theorem dJ8_hugeLength_7cf53_1 : decode cJ8_hugeLength_7cf53 1 = .ok (.iload_n 1, 1) := by decide +kernel
theorem dJ8_hugeLength_7cf53_2 : decode cJ8_hugeLength_7cf53 2 = .ok (.iadd, 1) := by decide +kernel
theorem dJ8_hugeLength_7cf53_3 : decode cJ8_hugeLength_7cf53 3 = .ok (.istore_n 2, 1) := by decide +kernel
theorem dJ8_hugeLength_7cf53_4 : decode cJ8_hugeLength_7cf53 4 = .ok (.iload_n 2, 1) := by decide +kernel
theorem dJ8_hugeLength_7cf53_5 : decode cJ8_hugeLength_7cf53 5 = .ok (.ifCond .ge 44, 3) := by decide +kernel
theorem dJ8_hugeLength_7cf53_8 : decode cJ8_hugeLength_7cf53 8 = .ok (.new 204, 3) := by decide +kernel
theorem dJ8_hugeLength_7cf53_11 : decode cJ8_hugeLength_7cf53 11 = .ok (.dup, 1) := by decide +kernel
theorem dJ8_hugeLength_7cf53_12 : decode cJ8_hugeLength_7cf53 12 = .ok (.new 89, 3) := by decide +kernel
theorem dJ8_hugeLength_7cf53_15 : decode cJ8_hugeLength_7cf53 15 = .ok (.dup, 1) := by decide +kernel
theorem dJ8_hugeLength_7cf53_16 : decode cJ8_hugeLength_7cf53 16 = .ok (.invokespecial 91, 3) := by decide +kernel
theorem dJ8_hugeLength_7cf53_19 : decode cJ8_hugeLength_7cf53 19 = .ok (.ldc 206, 2) := by decide +kernel
theorem dJ8_hugeLength_7cf53_21 : decode cJ8_hugeLength_7cf53 21 = .ok (.invokevirtual 94, 3) := by decide +kernel
theorem dJ8_hugeLength_7cf53_24 : decode cJ8_hugeLength_7cf53 24 = .ok (.iload_n 0, 1) := by decide +kernel
theorem dJ8_hugeLength_7cf53_25 : decode cJ8_hugeLength_7cf53 25 = .ok (.invokevirtual 98, 3) := by decide +kernel
theorem dJ8_hugeLength_7cf53_28 : decode cJ8_hugeLength_7cf53 28 = .ok (.ldc 208, 2) := by decide +kernel
theorem dJ8_hugeLength_7cf53_30 : decode cJ8_hugeLength_7cf53 30 = .ok (.invokevirtual 94, 3) := by decide +kernel
theorem dJ8_hugeLength_7cf53_33 : decode cJ8_hugeLength_7cf53 33 = .ok (.iload_n 1, 1) := by decide +kernel
theorem dJ8_hugeLength_7cf53_34 : decode cJ8_hugeLength_7cf53 34 = .ok (.invokevirtual 98, 3) := by decide +kernel
theorem dJ8_hugeLength_7cf53_37 : decode cJ8_hugeLength_7cf53 37 = .ok (.ldc 210, 2) := by decide +kernel
theorem dJ8_hugeLength_7cf53_39 : decode cJ8_hugeLength_7cf53 39 = .ok (.invokevirtual 94, 3) := by decide +kernel
theorem dJ8_hugeLength_7cf53_42 : decode cJ8_hugeLength_7cf53 42 = .ok (.invokevirtual 101, 3) := by decide +kernel
theorem dJ8_hugeLength_7cf53_45 : decode cJ8_hugeLength_7cf53 45 = .ok (.invokespecial 212, 3) := by decide +kernel
theorem dJ8_hugeLength_7cf53_48 : decode cJ8_hugeLength_7cf53 48 = .ok (.athrow, 1) := by decide +kernel
theorem dJ8_hugeLength_7cf53_49 : decode cJ8_hugeLength_7cf53 49 = .ok (.iload_n 2, 1) := by decide +kernel
theorem dJ8_hugeLength_7cf53_50 : decode cJ8_hugeLength_7cf53 50 = .ok (.ldc 200, 2) := by decide +kernel
theorem dJ8_hugeLength_7cf53_52 : decode cJ8_hugeLength_7cf53 52 = .ok (.if_icmp .gt 6, 3) := by decide +kernel
theorem dJ8_hugeLength_7cf53_55 : decode cJ8_hugeLength_7cf53 55 = .ok (.ldc 200, 2) := by decide +kernel
theorem dJ8_hugeLength_7cf53_57 : decode cJ8_hugeLength_7cf53 57 = .ok (.ireturn, 1) := by decide +kernel
theorem dJ8_hugeLength_7cf53_58 : decode cJ8_hugeLength_7cf53 58 = .ok (.iload_n 2, 1) := by decide +kernel
theorem dJ8_hugeLength_7cf53_59 : decode cJ8_hugeLength_7cf53 59 = .ok (.ireturn, 1) := by decide +kernel
theorem dJ3_checkIndex_8e157_0 : decode cJ3_checkIndex_8e157 0 = .ok (.iload_n 0, 1) := by decide +kernel
theorem dJ3_checkIndex_8e157_1 : decode cJ3_checkIndex_8e157 1 = .ok (.ifCond .lt 8, 3) := by decide +kernel
theorem dJ3_checkIndex_8e157_4 : decode cJ3_checkIndex_8e157 4 = .ok (.iload_n 0, 1) := by decide +kernel
theorem dJ3_checkIndex_8e157_5 : decode cJ3_checkIndex_8e157 5 = .ok (.iload_n 1, 1) := by decide +kernel
theorem dJ3_checkIndex_8e157_6 : decode cJ3_checkIndex_8e157 6 = .ok (.if_icmp .lt 10, 3) := by decide +kernel
theorem dJ3_checkIndex_8e157_9 : decode cJ3_checkIndex_8e157 9 = .ok (.aload_n 2, 1) := by decide +kernel
theorem dJ3_checkIndex_8e157_10 : decode cJ3_checkIndex_8e157 10 = .ok (.iload_n 0, 1) := by decide +kernel
theorem dJ3_checkIndex_8e157_11 : decode cJ3_checkIndex_8e157 11 = .ok (.iload_n 1, 1) := by decide +kernel
theorem dJ3_checkIndex_8e157_12 : decode cJ3_checkIndex_8e157 12 = .ok (.invokestatic 95, 3) := by decide +kernel
theorem dJ3_checkIndex_8e157_15 : decode cJ3_checkIndex_8e157 15 = .ok (.athrow, 1) := by decide +kernel
theorem dJ3_checkIndex_8e157_16 : decode cJ3_checkIndex_8e157 16 = .ok (.iload_n 0, 1) := by decide +kernel
theorem dJ3_checkIndex_8e157_17 : decode cJ3_checkIndex_8e157 17 = .ok (.ireturn, 1) := by decide +kernel
theorem dJ3_checkFromToIndex_8c36e_0 : decode cJ3_checkFromToIndex_8c36e 0 = .ok (.iload_n 0, 1) := by decide +kernel
theorem dJ3_checkFromToIndex_8c36e_1 : decode cJ3_checkFromToIndex_8c36e 1 = .ok (.ifCond .lt 13, 3) := by decide +kernel
theorem dJ3_checkFromToIndex_8c36e_4 : decode cJ3_checkFromToIndex_8c36e 4 = .ok (.iload_n 0, 1) := by decide +kernel
theorem dJ3_checkFromToIndex_8c36e_5 : decode cJ3_checkFromToIndex_8c36e 5 = .ok (.iload_n 1, 1) := by decide +kernel
theorem dJ3_checkFromToIndex_8c36e_6 : decode cJ3_checkFromToIndex_8c36e 6 = .ok (.if_icmp .gt 8, 3) := by decide +kernel
theorem dJ3_checkFromToIndex_8c36e_9 : decode cJ3_checkFromToIndex_8c36e 9 = .ok (.iload_n 1, 1) := by decide +kernel
theorem dJ3_checkFromToIndex_8c36e_10 : decode cJ3_checkFromToIndex_8c36e 10 = .ok (.iload_n 2, 1) := by decide +kernel
theorem dJ3_checkFromToIndex_8c36e_11 : decode cJ3_checkFromToIndex_8c36e 11 = .ok (.if_icmp .le 11, 3) := by decide +kernel
theorem dJ3_checkFromToIndex_8c36e_14 : decode cJ3_checkFromToIndex_8c36e 14 = .ok (.aload_n 3, 1) := by decide +kernel
theorem dJ3_checkFromToIndex_8c36e_15 : decode cJ3_checkFromToIndex_8c36e 15 = .ok (.iload_n 0, 1) := by decide +kernel
theorem dJ3_checkFromToIndex_8c36e_16 : decode cJ3_checkFromToIndex_8c36e 16 = .ok (.iload_n 1, 1) := by decide +kernel
theorem dJ3_checkFromToIndex_8c36e_17 : decode cJ3_checkFromToIndex_8c36e 17 = .ok (.iload_n 2, 1) := by decide +kernel
theorem dJ3_checkFromToIndex_8c36e_18 : decode cJ3_checkFromToIndex_8c36e 18 = .ok (.invokestatic 99, 3) := by decide +kernel
theorem dJ3_checkFromToIndex_8c36e_21 : decode cJ3_checkFromToIndex_8c36e 21 = .ok (.athrow, 1) := by decide +kernel
theorem dJ3_checkFromToIndex_8c36e_22 : decode cJ3_checkFromToIndex_8c36e 22 = .ok (.iload_n 0, 1) := by decide +kernel
theorem dJ3_checkFromToIndex_8c36e_23 : decode cJ3_checkFromToIndex_8c36e 23 = .ok (.ireturn, 1) := by decide +kernel
theorem dJ3_checkFromIndexSize_8c36e_0 : decode cJ3_checkFromIndexSize_8c36e 0 = .ok (.iload_n 2, 1) := by decide +kernel
theorem dJ3_checkFromIndexSize_8c36e_1 : decode cJ3_checkFromIndexSize_8c36e 1 = .ok (.iload_n 0, 1) := by decide +kernel
theorem dJ3_checkFromIndexSize_8c36e_2 : decode cJ3_checkFromIndexSize_8c36e 2 = .ok (.ior, 1) := by decide +kernel
theorem dJ3_checkFromIndexSize_8c36e_3 : decode cJ3_checkFromIndexSize_8c36e 3 = .ok (.iload_n 1, 1) := by decide +kernel
theorem dJ3_checkFromIndexSize_8c36e_4 : decode cJ3_checkFromIndexSize_8c36e 4 = .ok (.ior, 1) := by decide +kernel
theorem dJ3_checkFromIndexSize_8c36e_5 : decode cJ3_checkFromIndexSize_8c36e 5 = .ok (.ifCond .lt 10, 3) := by decide +kernel
theorem dJ3_checkFromIndexSize_8c36e_8 : decode cJ3_checkFromIndexSize_8c36e 8 = .ok (.iload_n 1, 1) := by decide +kernel
theorem dJ3_checkFromIndexSize_8c36e_9 : decode cJ3_checkFromIndexSize_8c36e 9 = .ok (.iload_n 2, 1) := by decide +kernel
theorem dJ3_checkFromIndexSize_8c36e_10 : decode cJ3_checkFromIndexSize_8c36e 10 = .ok (.iload_n 0, 1) := by decide +kernel
theorem dJ3_checkFromIndexSize_8c36e_11 : decode cJ3_checkFromIndexSize_8c36e 11 = .ok (.isub, 1) := by decide +kernel
theorem dJ3_checkFromIndexSize_8c36e_12 : decode cJ3_checkFromIndexSize_8c36e 12 = .ok (.if_icmp .le 11, 3) := by decide +kernel
theorem dJ3_checkFromIndexSize_8c36e_15 : decode cJ3_checkFromIndexSize_8c36e 15 = .ok (.aload_n 3, 1) := by decide +kernel
theorem dJ3_checkFromIndexSize_8c36e_16 : decode cJ3_checkFromIndexSize_8c36e 16 = .ok (.iload_n 0, 1) := by decide +kernel
theorem dJ3_checkFromIndexSize_8c36e_17 : decode cJ3_checkFromIndexSize_8c36e 17 = .ok (.iload_n 1, 1) := by decide +kernel
theorem dJ3_checkFromIndexSize_8c36e_18 : decode cJ3_checkFromIndexSize_8c36e 18 = .ok (.iload_n 2, 1) := by decide +kernel
theorem dJ3_checkFromIndexSize_8c36e_19 : decode cJ3_checkFromIndexSize_8c36e 19 = .ok (.invokestatic 103, 3) := by decide +kernel
theorem dJ3_checkFromIndexSize_8c36e_22 : decode cJ3_checkFromIndexSize_8c36e 22 = .ok (.athrow, 1) := by decide +kernel
theorem dJ3_checkFromIndexSize_8c36e_23 : decode cJ3_checkFromIndexSize_8c36e 23 = .ok (.iload_n 0, 1) := by decide +kernel
theorem dJ3_checkFromIndexSize_8c36e_24 : decode cJ3_checkFromIndexSize_8c36e 24 = .ok (.ireturn, 1) := by decide +kernel
