theorem dL_cell_0 : decode cL_cell 0 = .ok (.iload_n 1, 1) := by decide +kernel
theorem dL_cell_1 : decode cL_cell 1 = .ok (.aload_n 0, 1) := by decide +kernel
theorem dL_cell_2 : decode cL_cell 2 = .ok (.arraylength, 1) := by decide +kernel
theorem dL_cell_3 : decode cL_cell 3 = .ok (.if_icmp .ge 12, 3) := by decide +kernel
theorem dL_cell_6 : decode cL_cell 6 = .ok (.aload_n 0, 1) := by decide +kernel
theorem dL_cell_7 : decode cL_cell 7 = .ok (.iload_n 1, 1) := by decide +kernel
theorem dL_cell_8 : decode cL_cell 8 = .ok (.iaload, 1) := by decide +kernel
theorem dL_cell_9 : decode cL_cell 9 = .ok (.ldc 7, 2) := by decide +kernel
theorem dL_cell_11 : decode cL_cell 11 = .ok (.iand, 1) := by decide +kernel
theorem dL_cell_12 : decode cL_cell 12 = .ok (.goto 4, 3) := by decide +kernel
theorem dL_cell_15 : decode cL_cell 15 = .ok (.iconst 0, 1) := by decide +kernel
theorem dL_cell_16 : decode cL_cell 16 = .ok (.ireturn, 1) := by decide +kernel
theorem dL_says_0 : decode cL_says 0 = .ok (.iconst 0, 1) := by decide +kernel
theorem dL_says_1 : decode cL_says 1 = .ok (.istore_n 2, 1) := by decide +kernel
theorem dL_says_2 : decode cL_says 2 = .ok (.iload_n 2, 1) := by decide +kernel
theorem dL_says_3 : decode cL_says 3 = .ok (.aload_n 1, 1) := by decide +kernel
theorem dL_says_4 : decode cL_says 4 = .ok (.invokevirtual 8, 3) := by decide +kernel
theorem dL_says_7 : decode cL_says 7 = .ok (.if_icmp .ge 89, 3) := by decide +kernel
theorem dL_says_10 : decode cL_says 10 = .ok (.iconst 5, 1) := by decide +kernel
theorem dL_says_11 : decode cL_says 11 = .ok (.newarray .int, 2) := by decide +kernel
theorem dL_says_13 : decode cL_says 13 = .ok (.astore_n 3, 1) := by decide +kernel
theorem dL_says_14 : decode cL_says 14 = .ok (.iconst 0, 1) := by decide +kernel
theorem dL_says_15 : decode cL_says 15 = .ok (.istore 4, 2) := by decide +kernel
theorem dL_says_17 : decode cL_says 17 = .ok (.iload 4, 2) := by decide +kernel
theorem dL_says_19 : decode cL_says 19 = .ok (.bipush 20, 2) := by decide +kernel
theorem dL_says_21 : decode cL_says 21 = .ok (.if_icmp .ge 49, 3) := by decide +kernel
theorem dL_says_24 : decode cL_says 24 = .ok (.aload_n 3, 1) := by decide +kernel
theorem dL_says_25 : decode cL_says 25 = .ok (.iload 4, 2) := by decide +kernel
theorem dL_says_27 : decode cL_says 27 = .ok (.iconst 4, 1) := by decide +kernel
theorem dL_says_28 : decode cL_says 28 = .ok (.idiv, 1) := by decide +kernel
theorem dL_says_29 : decode cL_says 29 = .ok (.aload_n 3, 1) := by decide +kernel
theorem dL_says_30 : decode cL_says 30 = .ok (.iload 4, 2) := by decide +kernel
theorem dL_says_32 : decode cL_says 32 = .ok (.iconst 4, 1) := by decide +kernel
theorem dL_says_33 : decode cL_says 33 = .ok (.idiv, 1) := by decide +kernel
theorem dL_says_34 : decode cL_says 34 = .ok (.iaload, 1) := by decide +kernel
theorem dL_says_35 : decode cL_says 35 = .ok (.bipush 8, 2) := by decide +kernel
theorem dL_says_37 : decode cL_says 37 = .ok (.ishl, 1) := by decide +kernel
theorem dL_says_38 : decode cL_says 38 = .ok (.iload_n 2, 1) := by decide +kernel
theorem dL_says_39 : decode cL_says 39 = .ok (.iload 4, 2) := by decide +kernel
theorem dL_says_41 : decode cL_says 41 = .ok (.iadd, 1) := by decide +kernel
theorem dL_says_42 : decode cL_says 42 = .ok (.aload_n 1, 1) := by decide +kernel
theorem dL_says_43 : decode cL_says 43 = .ok (.invokevirtual 8, 3) := by decide +kernel
theorem dL_says_46 : decode cL_says 46 = .ok (.if_icmp .ge 14, 3) := by decide +kernel
theorem dL_says_49 : decode cL_says 49 = .ok (.aload_n 1, 1) := by decide +kernel
theorem dL_says_50 : decode cL_says 50 = .ok (.iload_n 2, 1) := by decide +kernel
theorem dL_says_51 : decode cL_says 51 = .ok (.iload 4, 2) := by decide +kernel
theorem dL_says_53 : decode cL_says 53 = .ok (.iadd, 1) := by decide +kernel
theorem dL_says_54 : decode cL_says 54 = .ok (.invokevirtual 14, 3) := by decide +kernel
theorem dL_says_57 : decode cL_says 57 = .ok (.goto 5, 3) := by decide +kernel
theorem dL_says_60 : decode cL_says 60 = .ok (.bipush 32, 2) := by decide +kernel
theorem dL_says_62 : decode cL_says 62 = .ok (.ior, 1) := by decide +kernel
theorem dL_says_63 : decode cL_says 63 = .ok (.iastore, 1) := by decide +kernel
theorem dL_says_64 : decode cL_says 64 = .ok (.iinc 4 1, 3) := by decide +kernel
theorem dL_says_67 : decode cL_says 67 = .ok (.goto (-50), 3) := by decide +kernel
theorem dL_says_70 : decode cL_says 70 = .ok (.aload_n 0, 1) := by decide +kernel
theorem dL_says_71 : decode cL_says 71 = .ok (.aload_n 3, 1) := by decide +kernel
theorem dL_says_72 : decode cL_says 72 = .ok (.iconst 0, 1) := by decide +kernel
theorem dL_says_73 : decode cL_says 73 = .ok (.iaload, 1) := by decide +kernel
theorem dL_says_74 : decode cL_says 74 = .ok (.aload_n 3, 1) := by decide +kernel
theorem dL_says_75 : decode cL_says 75 = .ok (.iconst 1, 1) := by decide +kernel
theorem dL_says_76 : decode cL_says 76 = .ok (.iaload, 1) := by decide +kernel
theorem dL_says_77 : decode cL_says 77 = .ok (.aload_n 3, 1) := by decide +kernel
theorem dL_says_78 : decode cL_says 78 = .ok (.iconst 2, 1) := by decide +kernel
theorem dL_says_79 : decode cL_says 79 = .ok (.iaload, 1) := by decide +kernel
theorem dL_says_80 : decode cL_says 80 = .ok (.aload_n 3, 1) := by decide +kernel
theorem dL_says_81 : decode cL_says 81 = .ok (.iconst 3, 1) := by decide +kernel
theorem dL_says_82 : decode cL_says 82 = .ok (.iaload, 1) := by decide +kernel
theorem dL_says_83 : decode cL_says 83 = .ok (.aload_n 3, 1) := by decide +kernel
theorem dL_says_84 : decode cL_says 84 = .ok (.iconst 4, 1) := by decide +kernel
theorem dL_says_85 : decode cL_says 85 = .ok (.iaload, 1) := by decide +kernel
theorem dL_says_86 : decode cL_says 86 = .ok (.invokevirtual 18, 3) := by decide +kernel
theorem dL_says_89 : decode cL_says 89 = .ok (.pop, 1) := by decide +kernel
theorem dL_says_90 : decode cL_says 90 = .ok (.iinc 2 20, 3) := by decide +kernel
theorem dL_says_93 : decode cL_says 93 = .ok (.goto (-91), 3) := by decide +kernel
theorem dL_says_96 : decode cL_says 96 = .ok (.aload_n 0, 1) := by decide +kernel
theorem dL_says_97 : decode cL_says 97 = .ok (.aload_n 1, 1) := by decide +kernel
theorem dL_says_98 : decode cL_says 98 = .ok (.invokevirtual 8, 3) := by decide +kernel
theorem dL_says_101 : decode cL_says 101 = .ok (.invokevirtual 24, 3) := by decide +kernel
theorem dL_says_104 : decode cL_says 104 = .ok (.pop, 1) := by decide +kernel
theorem dL_says_105 : decode cL_says 105 = .ok (.return_, 1) := by decide +kernel
theorem dL_loaded_0 : decode cL_loaded 0 = .ok (.aload_n 0, 1) := by decide +kernel
theorem dL_loaded_1 : decode cL_loaded 1 = .ok (.invokevirtual 28, 3) := by decide +kernel
theorem dL_loaded_4 : decode cL_loaded 4 = .ok (.ireturn, 1) := by decide +kernel
theorem dL_loaded_5 : decode cL_loaded 5 = .ok (.astore_n 1, 1) := by decide +kernel
theorem dL_loaded_6 : decode cL_loaded 6 = .ok (.bipush (-9), 2) := by decide +kernel
theorem dL_loaded_8 : decode cL_loaded 8 = .ok (.ireturn, 1) := by decide +kernel
theorem dL_offset_0 : decode cL_offset 0 = .ok (.iload_n 0, 1) := by decide +kernel
theorem dL_offset_1 : decode cL_offset 1 = .ok (.bipush 7, 2) := by decide +kernel
theorem dL_offset_3 : decode cL_offset 3 = .ok (.irem, 1) := by decide +kernel
theorem dL_offset_4 : decode cL_offset 4 = .ok (.iconst 3, 1) := by decide +kernel
theorem dL_offset_5 : decode cL_offset 5 = .ok (.isub, 1) := by decide +kernel
theorem dL_offset_6 : decode cL_offset 6 = .ok (.ireturn, 1) := by decide +kernel
theorem dL_clock_0 : decode cL_clock 0 = .ok (.iload_n 0, 1) := by decide +kernel
theorem dL_clock_1 : decode cL_clock 1 = .ok (.invokestatic 33, 3) := by decide +kernel
theorem dL_clock_4 : decode cL_clock 4 = .ok (.ifCond .ne 8, 3) := by decide +kernel
theorem dL_clock_7 : decode cL_clock 7 = .ok (.ldc 38, 2) := by decide +kernel
theorem dL_clock_9 : decode cL_clock 9 = .ok (.goto 68, 3) := by decide +kernel
theorem dL_clock_12 : decode cL_clock 12 = .ok (.iload_n 0, 1) := by decide +kernel
theorem dL_clock_13 : decode cL_clock 13 = .ok (.invokestatic 33, 3) := by decide +kernel
theorem dL_clock_16 : decode cL_clock 16 = .ok (.ifCond .le 33, 3) := by decide +kernel
theorem dL_clock_19 : decode cL_clock 19 = .ok (.new 40, 3) := by decide +kernel
theorem dL_clock_22 : decode cL_clock 22 = .ok (.dup, 1) := by decide +kernel
theorem dL_clock_23 : decode cL_clock 23 = .ok (.invokespecial 42, 3) := by decide +kernel
theorem dL_clock_26 : decode cL_clock 26 = .ok (.ldc 43, 2) := by decide +kernel
theorem dL_clock_28 : decode cL_clock 28 = .ok (.invokevirtual 45, 3) := by decide +kernel
theorem dL_clock_31 : decode cL_clock 31 = .ok (.iload_n 0, 1) := by decide +kernel
theorem dL_clock_32 : decode cL_clock 32 = .ok (.invokestatic 33, 3) := by decide +kernel
theorem dL_clock_35 : decode cL_clock 35 = .ok (.invokevirtual 49, 3) := by decide +kernel
theorem dL_clock_38 : decode cL_clock 38 = .ok (.ldc 52, 2) := by decide +kernel
theorem dL_clock_40 : decode cL_clock 40 = .ok (.invokevirtual 45, 3) := by decide +kernel
theorem dL_clock_43 : decode cL_clock 43 = .ok (.invokevirtual 54, 3) := by decide +kernel
theorem dL_clock_46 : decode cL_clock 46 = .ok (.goto 31, 3) := by decide +kernel
theorem dL_clock_49 : decode cL_clock 49 = .ok (.new 40, 3) := by decide +kernel
theorem dL_clock_52 : decode cL_clock 52 = .ok (.dup, 1) := by decide +kernel
theorem dL_clock_53 : decode cL_clock 53 = .ok (.invokespecial 42, 3) := by decide +kernel
theorem dL_clock_56 : decode cL_clock 56 = .ok (.ldc 58, 2) := by decide +kernel
theorem dL_clock_58 : decode cL_clock 58 = .ok (.invokevirtual 45, 3) := by decide +kernel
theorem dL_clock_61 : decode cL_clock 61 = .ok (.iload_n 0, 1) := by decide +kernel
theorem dL_clock_62 : decode cL_clock 62 = .ok (.invokestatic 33, 3) := by decide +kernel
theorem dL_clock_65 : decode cL_clock 65 = .ok (.ineg, 1) := by decide +kernel
theorem dL_clock_66 : decode cL_clock 66 = .ok (.invokevirtual 49, 3) := by decide +kernel
theorem dL_clock_69 : decode cL_clock 69 = .ok (.ldc 52, 2) := by decide +kernel
theorem dL_clock_71 : decode cL_clock 71 = .ok (.invokevirtual 45, 3) := by decide +kernel
theorem dL_clock_74 : decode cL_clock 74 = .ok (.invokevirtual 54, 3) := by decide +kernel
theorem dL_clock_77 : decode cL_clock 77 = .ok (.areturn, 1) := by decide +kernel
theorem dL_isTrusted_0 : decode cL_isTrusted 0 = .ok (.iload_n 1, 1) := by decide +kernel
theorem dL_isTrusted_1 : decode cL_isTrusted 1 = .ok (.iload_n 2, 1) := by decide +kernel
theorem dL_isTrusted_2 : decode cL_isTrusted 2 = .ok (.if_icmp .eq 24, 3) := by decide +kernel
theorem dL_isTrusted_5 : decode cL_isTrusted 5 = .ok (.aload_n 0, 1) := by decide +kernel
theorem dL_isTrusted_6 : decode cL_isTrusted 6 = .ok (.iconst 4, 1) := by decide +kernel
theorem dL_isTrusted_7 : decode cL_isTrusted 7 = .ok (.invokestatic 60, 3) := by decide +kernel
theorem dL_isTrusted_10 : decode cL_isTrusted 10 = .ok (.iconst 3, 1) := by decide +kernel
theorem dL_isTrusted_11 : decode cL_isTrusted 11 = .ok (.iload_n 1, 1) := by decide +kernel
theorem dL_isTrusted_12 : decode cL_isTrusted 12 = .ok (.imul, 1) := by decide +kernel
theorem dL_isTrusted_13 : decode cL_isTrusted 13 = .ok (.iload_n 2, 1) := by decide +kernel
theorem dL_isTrusted_14 : decode cL_isTrusted 14 = .ok (.iadd, 1) := by decide +kernel
theorem dL_isTrusted_15 : decode cL_isTrusted 15 = .ok (.ishr, 1) := by decide +kernel
theorem dL_isTrusted_16 : decode cL_isTrusted 16 = .ok (.iconst 1, 1) := by decide +kernel
theorem dL_isTrusted_17 : decode cL_isTrusted 17 = .ok (.iand, 1) := by decide +kernel
theorem dL_isTrusted_18 : decode cL_isTrusted 18 = .ok (.iconst 1, 1) := by decide +kernel
theorem dL_isTrusted_19 : decode cL_isTrusted 19 = .ok (.if_icmp .ne 7, 3) := by decide +kernel
theorem dL_isTrusted_22 : decode cL_isTrusted 22 = .ok (.iconst 1, 1) := by decide +kernel
theorem dL_isTrusted_23 : decode cL_isTrusted 23 = .ok (.goto 4, 3) := by decide +kernel
theorem dL_isTrusted_26 : decode cL_isTrusted 26 = .ok (.iconst 0, 1) := by decide +kernel
theorem dL_isTrusted_27 : decode cL_isTrusted 27 = .ok (.ireturn, 1) := by decide +kernel
theorem dL_password_0 : decode cL_password 0 = .ok (.aload_n 0, 1) := by decide +kernel
theorem dL_password_1 : decode cL_password 1 = .ok (.iconst 5, 1) := by decide +kernel
theorem dL_password_2 : decode cL_password 2 = .ok (.iload_n 1, 1) := by decide +kernel
theorem dL_password_3 : decode cL_password 3 = .ok (.iadd, 1) := by decide +kernel
theorem dL_password_4 : decode cL_password 4 = .ok (.invokestatic 60, 3) := by decide +kernel
theorem dL_password_7 : decode cL_password 7 = .ok (.iconst 4, 1) := by decide +kernel
theorem dL_password_8 : decode cL_password 8 = .ok (.idiv, 1) := by decide +kernel
theorem dL_password_9 : decode cL_password 9 = .ok (.bipush 100, 2) := by decide +kernel
theorem dL_password_11 : decode cL_password 11 = .ok (.irem, 1) := by decide +kernel
theorem dL_password_12 : decode cL_password 12 = .ok (.ireturn, 1) := by decide +kernel
theorem dL_text_0 : decode cL_text 0 = .ok (.aload_n 0, 1) := by decide +kernel
theorem dL_text_1 : decode cL_text 1 = .ok (.iconst 0, 1) := by decide +kernel
theorem dL_text_2 : decode cL_text 2 = .ok (.invokestatic 60, 3) := by decide +kernel
theorem dL_text_5 : decode cL_text 5 = .ok (.istore_n 1, 1) := by decide +kernel
theorem dL_text_6 : decode cL_text 6 = .ok (.new 40, 3) := by decide +kernel
theorem dL_text_9 : decode cL_text 9 = .ok (.dup, 1) := by decide +kernel
theorem dL_text_10 : decode cL_text 10 = .ok (.ldc 64, 2) := by decide +kernel
theorem dL_text_12 : decode cL_text 12 = .ok (.invokespecial 66, 3) := by decide +kernel
theorem dL_text_15 : decode cL_text 15 = .ok (.iload_n 1, 1) := by decide +kernel
theorem dL_text_16 : decode cL_text 16 = .ok (.iconst 4, 1) := by decide +kernel
theorem dL_text_17 : decode cL_text 17 = .ok (.irem, 1) := by decide +kernel
theorem dL_text_18 : decode cL_text 18 = .ok (.invokevirtual 49, 3) := by decide +kernel
theorem dL_text_21 : decode cL_text 21 = .ok (.bipush 32, 2) := by decide +kernel
theorem dL_text_23 : decode cL_text 23 = .ok (.invokevirtual 69, 3) := by decide +kernel
theorem dL_text_26 : decode cL_text 26 = .ok (.iload_n 1, 1) := by decide +kernel
theorem dL_text_27 : decode cL_text 27 = .ok (.iconst 4, 1) := by decide +kernel
theorem dL_text_28 : decode cL_text 28 = .ok (.idiv, 1) := by decide +kernel
theorem dL_text_29 : decode cL_text 29 = .ok (.sipush 1024, 3) := by decide +kernel
theorem dL_text_32 : decode cL_text 32 = .ok (.irem, 1) := by decide +kernel
theorem dL_text_33 : decode cL_text 33 = .ok (.invokevirtual 49, 3) := by decide +kernel
theorem dL_text_36 : decode cL_text 36 = .ok (.bipush 59, 2) := by decide +kernel
theorem dL_text_38 : decode cL_text 38 = .ok (.invokevirtual 69, 3) := by decide +kernel
theorem dL_text_41 : decode cL_text 41 = .ok (.astore_n 2, 1) := by decide +kernel
theorem dL_text_42 : decode cL_text 42 = .ok (.iconst 0, 1) := by decide +kernel
theorem dL_text_43 : decode cL_text 43 = .ok (.istore_n 3, 1) := by decide +kernel
theorem dL_text_44 : decode cL_text 44 = .ok (.iload_n 3, 1) := by decide +kernel
theorem dL_text_45 : decode cL_text 45 = .ok (.iconst 3, 1) := by decide +kernel
theorem dL_text_46 : decode cL_text 46 = .ok (.if_icmp .ge 77, 3) := by decide +kernel
theorem dL_text_49 : decode cL_text 49 = .ok (.aload_n 0, 1) := by decide +kernel
theorem dL_text_50 : decode cL_text 50 = .ok (.iconst 1, 1) := by decide +kernel
theorem dL_text_51 : decode cL_text 51 = .ok (.iload_n 3, 1) := by decide +kernel
theorem dL_text_52 : decode cL_text 52 = .ok (.iadd, 1) := by decide +kernel
theorem dL_text_53 : decode cL_text 53 = .ok (.invokestatic 60, 3) := by decide +kernel
theorem dL_text_56 : decode cL_text 56 = .ok (.istore 4, 2) := by decide +kernel
theorem dL_text_58 : decode cL_text 58 = .ok (.aload_n 2, 1) := by decide +kernel
theorem dL_text_59 : decode cL_text 59 = .ok (.ldc 72, 2) := by decide +kernel
theorem dL_text_61 : decode cL_text 61 = .ok (.invokevirtual 45, 3) := by decide +kernel
theorem dL_text_64 : decode cL_text 64 = .ok (.bipush 97, 2) := by decide +kernel
theorem dL_text_66 : decode cL_text 66 = .ok (.iload_n 3, 1) := by decide +kernel
theorem dL_text_67 : decode cL_text 67 = .ok (.iadd, 1) := by decide +kernel
theorem dL_text_68 : decode cL_text 68 = .ok (.i2c, 1) := by decide +kernel
theorem dL_text_69 : decode cL_text 69 = .ok (.invokevirtual 69, 3) := by decide +kernel
theorem dL_text_72 : decode cL_text 72 = .ok (.bipush 32, 2) := by decide +kernel
theorem dL_text_74 : decode cL_text 74 = .ok (.invokevirtual 69, 3) := by decide +kernel
theorem dL_text_77 : decode cL_text 77 = .ok (.iconst 1, 1) := by decide +kernel
theorem dL_text_78 : decode cL_text 78 = .ok (.iload 4, 2) := by decide +kernel
theorem dL_text_80 : decode cL_text 80 = .ok (.bipush 60, 2) := by decide +kernel
theorem dL_text_82 : decode cL_text 82 = .ok (.irem, 1) := by decide +kernel
theorem dL_text_83 : decode cL_text 83 = .ok (.iadd, 1) := by decide +kernel
theorem dL_text_84 : decode cL_text 84 = .ok (.invokevirtual 49, 3) := by decide +kernel
theorem dL_text_87 : decode cL_text 87 = .ok (.bipush 32, 2) := by decide +kernel
theorem dL_text_89 : decode cL_text 89 = .ok (.invokevirtual 69, 3) := by decide +kernel
theorem dL_text_92 : decode cL_text 92 = .ok (.iload 4, 2) := by decide +kernel
theorem dL_text_94 : decode cL_text 94 = .ok (.bipush 64, 2) := by decide +kernel
theorem dL_text_96 : decode cL_text 96 = .ok (.idiv, 1) := by decide +kernel
theorem dL_text_97 : decode cL_text 97 = .ok (.sipush 200, 3) := by decide +kernel
theorem dL_text_100 : decode cL_text 100 = .ok (.irem, 1) := by decide +kernel
theorem dL_text_101 : decode cL_text 101 = .ok (.invokevirtual 49, 3) := by decide +kernel
theorem dL_text_104 : decode cL_text 104 = .ok (.iload 4, 2) := by decide +kernel
theorem dL_text_106 : decode cL_text 106 = .ok (.sipush 16384, 3) := by decide +kernel
theorem dL_text_109 : decode cL_text 109 = .ok (.idiv, 1) := by decide +kernel
theorem dL_text_110 : decode cL_text 110 = .ok (.invokestatic 74, 3) := by decide +kernel
theorem dL_text_113 : decode cL_text 113 = .ok (.invokevirtual 45, 3) := by decide +kernel
theorem dL_text_116 : decode cL_text 116 = .ok (.pop, 1) := by decide +kernel
theorem dL_text_117 : decode cL_text 117 = .ok (.iinc 3 1, 3) := by decide +kernel
theorem dL_text_120 : decode cL_text 120 = .ok (.goto (-76), 3) := by decide +kernel
theorem dL_text_123 : decode cL_text 123 = .ok (.iconst 0, 1) := by decide +kernel
theorem dL_text_124 : decode cL_text 124 = .ok (.istore_n 3, 1) := by decide +kernel
theorem dL_text_125 : decode cL_text 125 = .ok (.iload_n 3, 1) := by decide +kernel
theorem dL_text_126 : decode cL_text 126 = .ok (.iconst 3, 1) := by decide +kernel
theorem dL_text_127 : decode cL_text 127 = .ok (.if_icmp .ge 68, 3) := by decide +kernel
theorem dL_text_130 : decode cL_text 130 = .ok (.iconst 0, 1) := by decide +kernel
theorem dL_text_131 : decode cL_text 131 = .ok (.istore 4, 2) := by decide +kernel
theorem dL_text_133 : decode cL_text 133 = .ok (.iload 4, 2) := by decide +kernel
theorem dL_text_135 : decode cL_text 135 = .ok (.iconst 3, 1) := by decide +kernel
theorem dL_text_136 : decode cL_text 136 = .ok (.if_icmp .ge 53, 3) := by decide +kernel
theorem dL_text_139 : decode cL_text 139 = .ok (.aload_n 0, 1) := by decide +kernel
theorem dL_text_140 : decode cL_text 140 = .ok (.iload_n 3, 1) := by decide +kernel
theorem dL_text_141 : decode cL_text 141 = .ok (.iload 4, 2) := by decide +kernel
theorem dL_text_143 : decode cL_text 143 = .ok (.invokestatic 78, 3) := by decide +kernel
theorem dL_text_146 : decode cL_text 146 = .ok (.ifCond .eq 37, 3) := by decide +kernel
theorem dL_text_149 : decode cL_text 149 = .ok (.aload_n 2, 1) := by decide +kernel
theorem dL_text_150 : decode cL_text 150 = .ok (.ldc 82, 2) := by decide +kernel
theorem dL_text_152 : decode cL_text 152 = .ok (.invokevirtual 45, 3) := by decide +kernel
theorem dL_text_155 : decode cL_text 155 = .ok (.bipush 97, 2) := by decide +kernel
theorem dL_text_157 : decode cL_text 157 = .ok (.iload_n 3, 1) := by decide +kernel
theorem dL_text_158 : decode cL_text 158 = .ok (.iadd, 1) := by decide +kernel
theorem dL_text_159 : decode cL_text 159 = .ok (.i2c, 1) := by decide +kernel
theorem dL_text_160 : decode cL_text 160 = .ok (.invokevirtual 69, 3) := by decide +kernel
theorem dL_text_163 : decode cL_text 163 = .ok (.bipush 32, 2) := by decide +kernel
theorem dL_text_165 : decode cL_text 165 = .ok (.invokevirtual 69, 3) := by decide +kernel
theorem dL_text_168 : decode cL_text 168 = .ok (.bipush 97, 2) := by decide +kernel
theorem dL_text_170 : decode cL_text 170 = .ok (.iload 4, 2) := by decide +kernel
theorem dL_text_172 : decode cL_text 172 = .ok (.iadd, 1) := by decide +kernel
theorem dL_text_173 : decode cL_text 173 = .ok (.i2c, 1) := by decide +kernel
theorem dL_text_174 : decode cL_text 174 = .ok (.invokevirtual 69, 3) := by decide +kernel
theorem dL_text_177 : decode cL_text 177 = .ok (.bipush 59, 2) := by decide +kernel
theorem dL_text_179 : decode cL_text 179 = .ok (.invokevirtual 69, 3) := by decide +kernel
theorem dL_text_182 : decode cL_text 182 = .ok (.pop, 1) := by decide +kernel
theorem dL_text_183 : decode cL_text 183 = .ok (.iinc 4 1, 3) := by decide +kernel
theorem dL_text_186 : decode cL_text 186 = .ok (.goto (-53), 3) := by decide +kernel
theorem dL_text_189 : decode cL_text 189 = .ok (.iinc 3 1, 3) := by decide +kernel
theorem dL_text_192 : decode cL_text 192 = .ok (.goto (-67), 3) := by decide +kernel
theorem dL_text_195 : decode cL_text 195 = .ok (.iconst 0, 1) := by decide +kernel
theorem dL_text_196 : decode cL_text 196 = .ok (.istore_n 3, 1) := by decide +kernel
theorem dL_text_197 : decode cL_text 197 = .ok (.iload_n 3, 1) := by decide +kernel
theorem dL_text_198 : decode cL_text 198 = .ok (.iconst 3, 1) := by decide +kernel
theorem dL_text_199 : decode cL_text 199 = .ok (.if_icmp .ge 75, 3) := by decide +kernel
theorem dL_text_202 : decode cL_text 202 = .ok (.aload_n 2, 1) := by decide +kernel
theorem dL_text_203 : decode cL_text 203 = .ok (.ldc 84, 2) := by decide +kernel
theorem dL_text_205 : decode cL_text 205 = .ok (.invokevirtual 45, 3) := by decide +kernel
theorem dL_text_208 : decode cL_text 208 = .ok (.bipush 117, 2) := by decide +kernel
theorem dL_text_210 : decode cL_text 210 = .ok (.iload_n 3, 1) := by decide +kernel
theorem dL_text_211 : decode cL_text 211 = .ok (.iadd, 1) := by decide +kernel
theorem dL_text_212 : decode cL_text 212 = .ok (.i2c, 1) := by decide +kernel
theorem dL_text_213 : decode cL_text 213 = .ok (.invokevirtual 69, 3) := by decide +kernel
theorem dL_text_216 : decode cL_text 216 = .ok (.bipush 32, 2) := by decide +kernel
theorem dL_text_218 : decode cL_text 218 = .ok (.invokevirtual 69, 3) := by decide +kernel
theorem dL_text_221 : decode cL_text 221 = .ok (.bipush 97, 2) := by decide +kernel
theorem dL_text_223 : decode cL_text 223 = .ok (.aload_n 0, 1) := by decide +kernel
theorem dL_text_224 : decode cL_text 224 = .ok (.iconst 5, 1) := by decide +kernel
theorem dL_text_225 : decode cL_text 225 = .ok (.iload_n 3, 1) := by decide +kernel
theorem dL_text_226 : decode cL_text 226 = .ok (.iadd, 1) := by decide +kernel
theorem dL_text_227 : decode cL_text 227 = .ok (.invokestatic 60, 3) := by decide +kernel
theorem dL_text_230 : decode cL_text 230 = .ok (.iconst 3, 1) := by decide +kernel
theorem dL_text_231 : decode cL_text 231 = .ok (.irem, 1) := by decide +kernel
theorem dL_text_232 : decode cL_text 232 = .ok (.iadd, 1) := by decide +kernel
theorem dL_text_233 : decode cL_text 233 = .ok (.i2c, 1) := by decide +kernel
theorem dL_text_234 : decode cL_text 234 = .ok (.invokevirtual 69, 3) := by decide +kernel
theorem dL_text_237 : decode cL_text 237 = .ok (.bipush 32, 2) := by decide +kernel
theorem dL_text_239 : decode cL_text 239 = .ok (.invokevirtual 69, 3) := by decide +kernel
theorem dL_text_242 : decode cL_text 242 = .ok (.aload_n 0, 1) := by decide +kernel
theorem dL_text_243 : decode cL_text 243 = .ok (.iload_n 3, 1) := by decide +kernel
theorem dL_text_244 : decode cL_text 244 = .ok (.invokestatic 86, 3) := by decide +kernel
theorem dL_text_247 : decode cL_text 247 = .ok (.invokevirtual 49, 3) := by decide +kernel
theorem dL_text_250 : decode cL_text 250 = .ok (.aload_n 0, 1) := by decide +kernel
theorem dL_text_251 : decode cL_text 251 = .ok (.iconst 5, 1) := by decide +kernel
theorem dL_text_252 : decode cL_text 252 = .ok (.iload_n 3, 1) := by decide +kernel
theorem dL_text_253 : decode cL_text 253 = .ok (.iadd, 1) := by decide +kernel
theorem dL_text_254 : decode cL_text 254 = .ok (.invokestatic 60, 3) := by decide +kernel
theorem dL_text_257 : decode cL_text 257 = .ok (.sipush 512, 3) := by decide +kernel
theorem dL_text_260 : decode cL_text 260 = .ok (.idiv, 1) := by decide +kernel
theorem dL_text_261 : decode cL_text 261 = .ok (.invokestatic 74, 3) := by decide +kernel
theorem dL_text_264 : decode cL_text 264 = .ok (.invokevirtual 45, 3) := by decide +kernel
theorem dL_text_267 : decode cL_text 267 = .ok (.pop, 1) := by decide +kernel
theorem dL_text_268 : decode cL_text 268 = .ok (.iinc 3 1, 3) := by decide +kernel
theorem dL_text_271 : decode cL_text 271 = .ok (.goto (-74), 3) := by decide +kernel
theorem dL_text_274 : decode cL_text 274 = .ok (.iconst 0, 1) := by decide +kernel
theorem dL_text_275 : decode cL_text 275 = .ok (.istore_n 3, 1) := by decide +kernel
theorem dL_text_276 : decode cL_text 276 = .ok (.iload_n 3, 1) := by decide +kernel
theorem dL_text_277 : decode cL_text 277 = .ok (.iconst 2, 1) := by decide +kernel
theorem dL_text_278 : decode cL_text 278 = .ok (.if_icmp .ge 72, 3) := by decide +kernel
theorem dL_text_281 : decode cL_text 281 = .ok (.aload_n 2, 1) := by decide +kernel
theorem dL_text_282 : decode cL_text 282 = .ok (.ldc 89, 2) := by decide +kernel
theorem dL_text_284 : decode cL_text 284 = .ok (.invokevirtual 45, 3) := by decide +kernel
theorem dL_text_287 : decode cL_text 287 = .ok (.bipush 109, 2) := by decide +kernel
theorem dL_text_289 : decode cL_text 289 = .ok (.iload_n 3, 1) := by decide +kernel
theorem dL_text_290 : decode cL_text 290 = .ok (.iadd, 1) := by decide +kernel
theorem dL_text_291 : decode cL_text 291 = .ok (.i2c, 1) := by decide +kernel
theorem dL_text_292 : decode cL_text 292 = .ok (.invokevirtual 69, 3) := by decide +kernel
theorem dL_text_295 : decode cL_text 295 = .ok (.bipush 32, 2) := by decide +kernel
theorem dL_text_297 : decode cL_text 297 = .ok (.invokevirtual 69, 3) := by decide +kernel
theorem dL_text_300 : decode cL_text 300 = .ok (.bipush 97, 2) := by decide +kernel
theorem dL_text_302 : decode cL_text 302 = .ok (.aload_n 0, 1) := by decide +kernel
theorem dL_text_303 : decode cL_text 303 = .ok (.bipush 8, 2) := by decide +kernel
theorem dL_text_305 : decode cL_text 305 = .ok (.iload_n 3, 1) := by decide +kernel
theorem dL_text_306 : decode cL_text 306 = .ok (.iadd, 1) := by decide +kernel
theorem dL_text_307 : decode cL_text 307 = .ok (.invokestatic 60, 3) := by decide +kernel
theorem dL_text_310 : decode cL_text 310 = .ok (.iconst 3, 1) := by decide +kernel
theorem dL_text_311 : decode cL_text 311 = .ok (.irem, 1) := by decide +kernel
theorem dL_text_312 : decode cL_text 312 = .ok (.iadd, 1) := by decide +kernel
theorem dL_text_313 : decode cL_text 313 = .ok (.i2c, 1) := by decide +kernel
theorem dL_text_314 : decode cL_text 314 = .ok (.invokevirtual 69, 3) := by decide +kernel
theorem dL_text_317 : decode cL_text 317 = .ok (.bipush 32, 2) := by decide +kernel
theorem dL_text_319 : decode cL_text 319 = .ok (.invokevirtual 69, 3) := by decide +kernel
theorem dL_text_322 : decode cL_text 322 = .ok (.aload_n 0, 1) := by decide +kernel
theorem dL_text_323 : decode cL_text 323 = .ok (.bipush 8, 2) := by decide +kernel
theorem dL_text_325 : decode cL_text 325 = .ok (.iload_n 3, 1) := by decide +kernel
theorem dL_text_326 : decode cL_text 326 = .ok (.iadd, 1) := by decide +kernel
theorem dL_text_327 : decode cL_text 327 = .ok (.invokestatic 60, 3) := by decide +kernel
theorem dL_text_330 : decode cL_text 330 = .ok (.iconst 4, 1) := by decide +kernel
theorem dL_text_331 : decode cL_text 331 = .ok (.idiv, 1) := by decide +kernel
theorem dL_text_332 : decode cL_text 332 = .ok (.bipush 6, 2) := by decide +kernel
theorem dL_text_334 : decode cL_text 334 = .ok (.irem, 1) := by decide +kernel
theorem dL_text_335 : decode cL_text 335 = .ok (.invokevirtual 49, 3) := by decide +kernel
theorem dL_text_338 : decode cL_text 338 = .ok (.bipush 59, 2) := by decide +kernel
theorem dL_text_340 : decode cL_text 340 = .ok (.invokevirtual 69, 3) := by decide +kernel
theorem dL_text_343 : decode cL_text 343 = .ok (.pop, 1) := by decide +kernel
theorem dL_text_344 : decode cL_text 344 = .ok (.iinc 3 1, 3) := by decide +kernel
theorem dL_text_347 : decode cL_text 347 = .ok (.goto (-71), 3) := by decide +kernel
theorem dL_text_350 : decode cL_text 350 = .ok (.aload_n 2, 1) := by decide +kernel
theorem dL_text_351 : decode cL_text 351 = .ok (.invokevirtual 54, 3) := by decide +kernel
theorem dL_text_354 : decode cL_text 354 = .ok (.areturn, 1) := by decide +kernel
theorem dL_acts_0 : decode cL_acts 0 = .ok (.iload_n 2, 1) := by decide +kernel
theorem dL_acts_1 : decode cL_acts 1 = .ok (.bipush 32, 2) := by decide +kernel
theorem dL_acts_3 : decode cL_acts 3 = .ok (.idiv, 1) := by decide +kernel
theorem dL_acts_4 : decode cL_acts 4 = .ok (.istore_n 3, 1) := by decide +kernel
theorem dL_acts_5 : decode cL_acts 5 = .ok (.iload_n 3, 1) := by decide +kernel
theorem dL_acts_6 : decode cL_acts 6 = .ok (.iconst 3, 1) := by decide +kernel
theorem dL_acts_7 : decode cL_acts 7 = .ok (.irem, 1) := by decide +kernel
theorem dL_acts_8 : decode cL_acts 8 = .ok (.istore 4, 2) := by decide +kernel
theorem dL_acts_10 : decode cL_acts 10 = .ok (.iload_n 3, 1) := by decide +kernel
theorem dL_acts_11 : decode cL_acts 11 = .ok (.bipush 16, 2) := by decide +kernel
theorem dL_acts_13 : decode cL_acts 13 = .ok (.idiv, 1) := by decide +kernel
theorem dL_acts_14 : decode cL_acts 14 = .ok (.istore 5, 2) := by decide +kernel
theorem dL_acts_16 : decode cL_acts 16 = .ok (.iload_n 2, 1) := by decide +kernel
theorem dL_acts_17 : decode cL_acts 17 = .ok (.bipush 32, 2) := by decide +kernel
theorem dL_acts_19 : decode cL_acts 19 = .ok (.irem, 1) := by decide +kernel
theorem dL_acts_20 : decode cL_acts 20 = .ok (.bipush 7, 2) := by decide +kernel
theorem dL_acts_22 : decode cL_acts 22 = .ok (.if_icmp .lt 16, 3) := by decide +kernel
theorem dL_acts_25 : decode cL_acts 25 = .ok (.iload_n 2, 1) := by decide +kernel
theorem dL_acts_26 : decode cL_acts 26 = .ok (.bipush 32, 2) := by decide +kernel
theorem dL_acts_28 : decode cL_acts 28 = .ok (.irem, 1) := by decide +kernel
theorem dL_acts_29 : decode cL_acts 29 = .ok (.bipush 25, 2) := by decide +kernel
theorem dL_acts_31 : decode cL_acts 31 = .ok (.if_icmp .ge 7, 3) := by decide +kernel
theorem dL_acts_34 : decode cL_acts 34 = .ok (.iconst 1, 1) := by decide +kernel
theorem dL_acts_35 : decode cL_acts 35 = .ok (.goto 4, 3) := by decide +kernel
theorem dL_acts_38 : decode cL_acts 38 = .ok (.iconst 0, 1) := by decide +kernel
theorem dL_acts_39 : decode cL_acts 39 = .ok (.istore 6, 2) := by decide +kernel
theorem dL_acts_41 : decode cL_acts 41 = .ok (.iload 6, 2) := by decide +kernel
theorem dL_acts_43 : decode cL_acts 43 = .ok (.ifCond .eq 13, 3) := by decide +kernel
theorem dL_acts_46 : decode cL_acts 46 = .ok (.aload_n 0, 1) := by decide +kernel
theorem dL_acts_47 : decode cL_acts 47 = .ok (.invokevirtual 91, 3) := by decide +kernel
theorem dL_acts_50 : decode cL_acts 50 = .ok (.ifCond .ne 6, 3) := by decide +kernel
theorem dL_acts_53 : decode cL_acts 53 = .ok (.bipush (-8), 2) := by decide +kernel
theorem dL_acts_55 : decode cL_acts 55 = .ok (.ireturn, 1) := by decide +kernel
theorem dL_acts_56 : decode cL_acts 56 = .ok (.aload_n 0, 1) := by decide +kernel
theorem dL_acts_57 : decode cL_acts 57 = .ok (.invokevirtual 91, 3) := by decide +kernel
theorem dL_acts_60 : decode cL_acts 60 = .ok (.ifCond .ne 7, 3) := by decide +kernel
theorem dL_acts_63 : decode cL_acts 63 = .ok (.iconst 0, 1) := by decide +kernel
theorem dL_acts_64 : decode cL_acts 64 = .ok (.goto 13, 3) := by decide +kernel
theorem dL_acts_67 : decode cL_acts 67 = .ok (.aload_n 0, 1) := by decide +kernel
theorem dL_acts_68 : decode cL_acts 68 = .ok (.iload_n 3, 1) := by decide +kernel
theorem dL_acts_69 : decode cL_acts 69 = .ok (.aload_n 0, 1) := by decide +kernel
theorem dL_acts_70 : decode cL_acts 70 = .ok (.invokevirtual 91, 3) := by decide +kernel
theorem dL_acts_73 : decode cL_acts 73 = .ok (.irem, 1) := by decide +kernel
theorem dL_acts_74 : decode cL_acts 74 = .ok (.invokevirtual 94, 3) := by decide +kernel
theorem dL_acts_77 : decode cL_acts 77 = .ok (.istore 7, 2) := by decide +kernel
theorem dL_acts_79 : decode cL_acts 79 = .ok (.iload_n 2, 1) := by decide +kernel
theorem dL_acts_80 : decode cL_acts 80 = .ok (.bipush 32, 2) := by decide +kernel
theorem dL_acts_82 : decode cL_acts 82 = .ok (.irem, 1) := by decide +kernel
theorem dL_acts_83 : decode cL_acts 83 = .ok (.tableswitch 222 0 26 #[121, 121, 121, 121, 121, 121, 121, 162, 162, 162, 162, 173, 173, 173, 173, 184, 184, 184, 191, 191, 191, 191, 191, 191, 198, 205, 210], 121) := by decide +kernel
theorem dL_acts_204 : decode cL_acts 204 = .ok (.aload_n 0, 1) := by decide +kernel
theorem dL_acts_205 : decode cL_acts 205 = .ok (.iload 4, 2) := by decide +kernel
theorem dL_acts_207 : decode cL_acts 207 = .ok (.iload 5, 2) := by decide +kernel
theorem dL_acts_209 : decode cL_acts 209 = .ok (.bipush 8, 2) := by decide +kernel
theorem dL_acts_211 : decode cL_acts 211 = .ok (.irem, 1) := by decide +kernel
theorem dL_acts_212 : decode cL_acts 212 = .ok (.ifCond .ne 8, 3) := by decide +kernel
theorem dL_acts_215 : decode cL_acts 215 = .ok (.bipush 100, 2) := by decide +kernel
theorem dL_acts_217 : decode cL_acts 217 = .ok (.goto 9, 3) := by decide +kernel
theorem dL_acts_220 : decode cL_acts 220 = .ok (.aload_n 1, 1) := by decide +kernel
theorem dL_acts_221 : decode cL_acts 221 = .ok (.iload 4, 2) := by decide +kernel
theorem dL_acts_223 : decode cL_acts 223 = .ok (.invokestatic 86, 3) := by decide +kernel
theorem dL_acts_226 : decode cL_acts 226 = .ok (.iload 5, 2) := by decide +kernel
theorem dL_acts_228 : decode cL_acts 228 = .ok (.bipush 8, 2) := by decide +kernel
theorem dL_acts_230 : decode cL_acts 230 = .ok (.idiv, 1) := by decide +kernel
theorem dL_acts_231 : decode cL_acts 231 = .ok (.iconst 2, 1) := by decide +kernel
theorem dL_acts_232 : decode cL_acts 232 = .ok (.irem, 1) := by decide +kernel
theorem dL_acts_233 : decode cL_acts 233 = .ok (.ifCond .ne 7, 3) := by decide +kernel
theorem dL_acts_236 : decode cL_acts 236 = .ok (.iconst 1, 1) := by decide +kernel
theorem dL_acts_237 : decode cL_acts 237 = .ok (.goto 4, 3) := by decide +kernel
theorem dL_acts_240 : decode cL_acts 240 = .ok (.iconst 0, 1) := by decide +kernel
theorem dL_acts_241 : decode cL_acts 241 = .ok (.invokevirtual 97, 3) := by decide +kernel
theorem dL_acts_244 : decode cL_acts 244 = .ok (.ireturn, 1) := by decide +kernel
theorem dL_acts_245 : decode cL_acts 245 = .ok (.aload_n 0, 1) := by decide +kernel
theorem dL_acts_246 : decode cL_acts 246 = .ok (.iload 7, 2) := by decide +kernel
theorem dL_acts_248 : decode cL_acts 248 = .ok (.iload 5, 2) := by decide +kernel
theorem dL_acts_250 : decode cL_acts 250 = .ok (.iconst 3, 1) := by decide +kernel
theorem dL_acts_251 : decode cL_acts 251 = .ok (.irem, 1) := by decide +kernel
theorem dL_acts_252 : decode cL_acts 252 = .ok (.invokevirtual 101, 3) := by decide +kernel
theorem dL_acts_255 : decode cL_acts 255 = .ok (.ireturn, 1) := by decide +kernel
theorem dL_acts_256 : decode cL_acts 256 = .ok (.aload_n 0, 1) := by decide +kernel
theorem dL_acts_257 : decode cL_acts 257 = .ok (.iload 7, 2) := by decide +kernel
theorem dL_acts_259 : decode cL_acts 259 = .ok (.iload 5, 2) := by decide +kernel
theorem dL_acts_261 : decode cL_acts 261 = .ok (.iconst 2, 1) := by decide +kernel
theorem dL_acts_262 : decode cL_acts 262 = .ok (.irem, 1) := by decide +kernel
theorem dL_acts_263 : decode cL_acts 263 = .ok (.invokevirtual 105, 3) := by decide +kernel
theorem dL_acts_266 : decode cL_acts 266 = .ok (.ireturn, 1) := by decide +kernel
theorem dL_acts_267 : decode cL_acts 267 = .ok (.aload_n 0, 1) := by decide +kernel
theorem dL_acts_268 : decode cL_acts 268 = .ok (.iload 7, 2) := by decide +kernel
theorem dL_acts_270 : decode cL_acts 270 = .ok (.invokevirtual 108, 3) := by decide +kernel
theorem dL_acts_273 : decode cL_acts 273 = .ok (.ireturn, 1) := by decide +kernel
theorem dL_acts_274 : decode cL_acts 274 = .ok (.aload_n 0, 1) := by decide +kernel
theorem dL_acts_275 : decode cL_acts 275 = .ok (.iload 7, 2) := by decide +kernel
theorem dL_acts_277 : decode cL_acts 277 = .ok (.invokevirtual 111, 3) := by decide +kernel
theorem dL_acts_280 : decode cL_acts 280 = .ok (.ireturn, 1) := by decide +kernel
theorem dL_acts_281 : decode cL_acts 281 = .ok (.aload_n 0, 1) := by decide +kernel
theorem dL_acts_282 : decode cL_acts 282 = .ok (.iload 7, 2) := by decide +kernel
theorem dL_acts_284 : decode cL_acts 284 = .ok (.invokevirtual 114, 3) := by decide +kernel
theorem dL_acts_287 : decode cL_acts 287 = .ok (.ireturn, 1) := by decide +kernel
theorem dL_acts_288 : decode cL_acts 288 = .ok (.aload_n 0, 1) := by decide +kernel
theorem dL_acts_289 : decode cL_acts 289 = .ok (.invokevirtual 117, 3) := by decide +kernel
theorem dL_acts_292 : decode cL_acts 292 = .ok (.ireturn, 1) := by decide +kernel
theorem dL_acts_293 : decode cL_acts 293 = .ok (.aload_n 0, 1) := by decide +kernel
theorem dL_acts_294 : decode cL_acts 294 = .ok (.iload 4, 2) := by decide +kernel
theorem dL_acts_296 : decode cL_acts 296 = .ok (.iload 5, 2) := by decide +kernel
theorem dL_acts_298 : decode cL_acts 298 = .ok (.invokestatic 33, 3) := by decide +kernel
theorem dL_acts_301 : decode cL_acts 301 = .ok (.invokevirtual 120, 3) := by decide +kernel
theorem dL_acts_304 : decode cL_acts 304 = .ok (.ireturn, 1) := by decide +kernel
theorem dL_acts_305 : decode cL_acts 305 = .ok (.aload_n 0, 1) := by decide +kernel
theorem dL_acts_306 : decode cL_acts 306 = .ok (.iconst 1, 1) := by decide +kernel
theorem dL_acts_307 : decode cL_acts 307 = .ok (.iload 5, 2) := by decide +kernel
theorem dL_acts_309 : decode cL_acts 309 = .ok (.iload_n 2, 1) := by decide +kernel
theorem dL_acts_310 : decode cL_acts 310 = .ok (.bipush 32, 2) := by decide +kernel
theorem dL_acts_312 : decode cL_acts 312 = .ok (.irem, 1) := by decide +kernel
theorem dL_acts_313 : decode cL_acts 313 = .ok (.bipush 30, 2) := by decide +kernel
theorem dL_acts_315 : decode cL_acts 315 = .ok (.if_icmp .ge 7, 3) := by decide +kernel
theorem dL_acts_318 : decode cL_acts 318 = .ok (.iconst 4, 1) := by decide +kernel
theorem dL_acts_319 : decode cL_acts 319 = .ok (.goto 5, 3) := by decide +kernel
theorem dL_acts_322 : decode cL_acts 322 = .ok (.bipush 40, 2) := by decide +kernel
theorem dL_acts_324 : decode cL_acts 324 = .ok (.irem, 1) := by decide +kernel
theorem dL_acts_325 : decode cL_acts 325 = .ok (.iadd, 1) := by decide +kernel
theorem dL_acts_326 : decode cL_acts 326 = .ok (.invokevirtual 123, 3) := by decide +kernel
theorem dL_acts_329 : decode cL_acts 329 = .ok (.ireturn, 1) := by decide +kernel
theorem dL_acts_330 : decode cL_acts 330 = .ok (.astore 8, 2) := by decide +kernel
theorem dL_acts_332 : decode cL_acts 332 = .ok (.bipush (-9), 2) := by decide +kernel
theorem dL_acts_334 : decode cL_acts 334 = .ok (.ireturn, 1) := by decide +kernel
theorem dL_law_0 : decode cL_law 0 = .ok (.new 19, 3) := by decide +kernel
theorem dL_law_3 : decode cL_law 3 = .ok (.dup, 1) := by decide +kernel
theorem dL_law_4 : decode cL_law 4 = .ok (.invokespecial 128, 3) := by decide +kernel
theorem dL_law_7 : decode cL_law 7 = .ok (.astore_n 1, 1) := by decide +kernel
theorem dL_law_8 : decode cL_law 8 = .ok (.aload_n 1, 1) := by decide +kernel
theorem dL_law_9 : decode cL_law 9 = .ok (.aload_n 0, 1) := by decide +kernel
theorem dL_law_10 : decode cL_law 10 = .ok (.invokestatic 129, 3) := by decide +kernel
theorem dL_law_13 : decode cL_law 13 = .ok (.invokestatic 133, 3) := by decide +kernel
theorem dL_law_16 : decode cL_law 16 = .ok (.aload_n 1, 1) := by decide +kernel
theorem dL_law_17 : decode cL_law 17 = .ok (.invokestatic 137, 3) := by decide +kernel
theorem dL_law_20 : decode cL_law 20 = .ok (.ifCond .ne 26, 3) := by decide +kernel
theorem dL_law_23 : decode cL_law 23 = .ok (.aload_n 1, 1) := by decide +kernel
theorem dL_law_24 : decode cL_law 24 = .ok (.invokevirtual 141, 3) := by decide +kernel
theorem dL_law_27 : decode cL_law 27 = .ok (.ifCond .ne 19, 3) := by decide +kernel
theorem dL_law_30 : decode cL_law 30 = .ok (.aload_n 1, 1) := by decide +kernel
theorem dL_law_31 : decode cL_law 31 = .ok (.invokevirtual 144, 3) := by decide +kernel
theorem dL_law_34 : decode cL_law 34 = .ok (.iconst 3, 1) := by decide +kernel
theorem dL_law_35 : decode cL_law 35 = .ok (.if_icmp .ne 11, 3) := by decide +kernel
theorem dL_law_38 : decode cL_law 38 = .ok (.aload_n 1, 1) := by decide +kernel
theorem dL_law_39 : decode cL_law 39 = .ok (.invokevirtual 147, 3) := by decide +kernel
theorem dL_law_42 : decode cL_law 42 = .ok (.iconst 2, 1) := by decide +kernel
theorem dL_law_43 : decode cL_law 43 = .ok (.if_icmp .eq 5, 3) := by decide +kernel
theorem dL_law_46 : decode cL_law 46 = .ok (.iconst 0, 1) := by decide +kernel
theorem dL_law_47 : decode cL_law 47 = .ok (.ireturn, 1) := by decide +kernel
theorem dL_law_48 : decode cL_law 48 = .ok (.new 150, 3) := by decide +kernel
theorem dL_law_51 : decode cL_law 51 = .ok (.dup, 1) := by decide +kernel
theorem dL_law_52 : decode cL_law 52 = .ok (.aload_n 0, 1) := by decide +kernel
theorem dL_law_53 : decode cL_law 53 = .ok (.invokespecial 152, 3) := by decide +kernel
theorem dL_law_56 : decode cL_law 56 = .ok (.astore_n 2, 1) := by decide +kernel
theorem dL_law_57 : decode cL_law 57 = .ok (.bipush 10, 2) := by decide +kernel
theorem dL_law_59 : decode cL_law 59 = .ok (.istore_n 3, 1) := by decide +kernel
theorem dL_law_60 : decode cL_law 60 = .ok (.iload_n 3, 1) := by decide +kernel
theorem dL_law_61 : decode cL_law 61 = .ok (.bipush 46, 2) := by decide +kernel
theorem dL_law_63 : decode cL_law 63 = .ok (.if_icmp .ge 68, 3) := by decide +kernel
theorem dL_law_66 : decode cL_law 66 = .ok (.aload_n 0, 1) := by decide +kernel
theorem dL_law_67 : decode cL_law 67 = .ok (.iload_n 3, 1) := by decide +kernel
theorem dL_law_68 : decode cL_law 68 = .ok (.invokestatic 60, 3) := by decide +kernel
theorem dL_law_71 : decode cL_law 71 = .ok (.istore 4, 2) := by decide +kernel
theorem dL_law_73 : decode cL_law 73 = .ok (.aload_n 2, 1) := by decide +kernel
theorem dL_law_74 : decode cL_law 74 = .ok (.aload_n 0, 1) := by decide +kernel
theorem dL_law_75 : decode cL_law 75 = .ok (.iload 4, 2) := by decide +kernel
theorem dL_law_77 : decode cL_law 77 = .ok (.invokevirtual 155, 3) := by decide +kernel
theorem dL_law_80 : decode cL_law 80 = .ok (.istore 5, 2) := by decide +kernel
theorem dL_law_82 : decode cL_law 82 = .ok (.aload_n 1, 1) := by decide +kernel
theorem dL_law_83 : decode cL_law 83 = .ok (.aload_n 0, 1) := by decide +kernel
theorem dL_law_84 : decode cL_law 84 = .ok (.iload 4, 2) := by decide +kernel
theorem dL_law_86 : decode cL_law 86 = .ok (.invokestatic 158, 3) := by decide +kernel
theorem dL_law_89 : decode cL_law 89 = .ok (.iload 5, 2) := by decide +kernel
theorem dL_law_91 : decode cL_law 91 = .ok (.if_icmp .ne 32, 3) := by decide +kernel
theorem dL_law_94 : decode cL_law 94 = .ok (.aload_n 2, 1) := by decide +kernel
theorem dL_law_95 : decode cL_law 95 = .ok (.aload_n 1, 1) := by decide +kernel
theorem dL_law_96 : decode cL_law 96 = .ok (.invokevirtual 161, 3) := by decide +kernel
theorem dL_law_99 : decode cL_law 99 = .ok (.ifCond .eq 24, 3) := by decide +kernel
theorem dL_law_102 : decode cL_law 102 = .ok (.aload_n 1, 1) := by decide +kernel
theorem dL_law_103 : decode cL_law 103 = .ok (.invokevirtual 165, 3) := by decide +kernel
theorem dL_law_106 : decode cL_law 106 = .ok (.ifCond .ne 17, 3) := by decide +kernel
theorem dL_law_109 : decode cL_law 109 = .ok (.aload_n 1, 1) := by decide +kernel
theorem dL_law_110 : decode cL_law 110 = .ok (.invokevirtual 168, 3) := by decide +kernel
theorem dL_law_113 : decode cL_law 113 = .ok (.ifCond .ne 10, 3) := by decide +kernel
theorem dL_law_116 : decode cL_law 116 = .ok (.aload_n 1, 1) := by decide +kernel
theorem dL_law_117 : decode cL_law 117 = .ok (.invokevirtual 171, 3) := by decide +kernel
theorem dL_law_120 : decode cL_law 120 = .ok (.ifCond .eq 5, 3) := by decide +kernel
theorem dL_law_123 : decode cL_law 123 = .ok (.iconst 0, 1) := by decide +kernel
theorem dL_law_124 : decode cL_law 124 = .ok (.ireturn, 1) := by decide +kernel
theorem dL_law_125 : decode cL_law 125 = .ok (.iinc 3 1, 3) := by decide +kernel
theorem dL_law_128 : decode cL_law 128 = .ok (.goto (-68), 3) := by decide +kernel
theorem dL_law_131 : decode cL_law 131 = .ok (.iconst 1, 1) := by decide +kernel
theorem dL_law_132 : decode cL_law 132 = .ok (.ireturn, 1) := by decide +kernel
