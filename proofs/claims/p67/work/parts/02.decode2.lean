theorem dX11_init_0 : decode cX11_init 0 = .ok (.aload_n 0, 1) := by decide +kernel
theorem dX11_init_1 : decode cX11_init 1 = .ok (.invokespecial 1, 3) := by decide +kernel
theorem dX11_init_4 : decode cX11_init 4 = .ok (.aload_n 0, 1) := by decide +kernel
theorem dX11_init_5 : decode cX11_init 5 = .ok (.new 7, 3) := by decide +kernel
theorem dX11_init_8 : decode cX11_init 8 = .ok (.dup, 1) := by decide +kernel
theorem dX11_init_9 : decode cX11_init 9 = .ok (.sipush 600, 3) := by decide +kernel
theorem dX11_init_12 : decode cX11_init 12 = .ok (.invokespecial 11, 3) := by decide +kernel
theorem dX11_init_15 : decode cX11_init 15 = .ok (.putfield 14, 3) := by decide +kernel
theorem dX11_init_18 : decode cX11_init 18 = .ok (.aload_n 0, 1) := by decide +kernel
theorem dX11_init_19 : decode cX11_init 19 = .ok (.new 7, 3) := by decide +kernel
theorem dX11_init_22 : decode cX11_init 22 = .ok (.dup, 1) := by decide +kernel
theorem dX11_init_23 : decode cX11_init 23 = .ok (.bipush 64, 2) := by decide +kernel
theorem dX11_init_25 : decode cX11_init 25 = .ok (.invokespecial 11, 3) := by decide +kernel
theorem dX11_init_28 : decode cX11_init 28 = .ok (.putfield 18, 3) := by decide +kernel
theorem dX11_init_31 : decode cX11_init 31 = .ok (.aload_n 0, 1) := by decide +kernel
theorem dX11_init_32 : decode cX11_init 32 = .ok (.new 21, 3) := by decide +kernel
theorem dX11_init_35 : decode cX11_init 35 = .ok (.dup, 1) := by decide +kernel
theorem dX11_init_36 : decode cX11_init 36 = .ok (.aload_n 0, 1) := by decide +kernel
theorem dX11_init_37 : decode cX11_init 37 = .ok (.getfield 14, 3) := by decide +kernel
theorem dX11_init_40 : decode cX11_init 40 = .ok (.invokespecial 23, 3) := by decide +kernel
theorem dX11_init_43 : decode cX11_init 43 = .ok (.putfield 26, 3) := by decide +kernel
theorem dX11_init_46 : decode cX11_init 46 = .ok (.aload_n 0, 1) := by decide +kernel
theorem dX11_init_47 : decode cX11_init 47 = .ok (.new 30, 3) := by decide +kernel
theorem dX11_init_50 : decode cX11_init 50 = .ok (.dup, 1) := by decide +kernel
theorem dX11_init_51 : decode cX11_init 51 = .ok (.invokespecial 32, 3) := by decide +kernel
theorem dX11_init_54 : decode cX11_init 54 = .ok (.putfield 33, 3) := by decide +kernel
theorem dX11_init_57 : decode cX11_init 57 = .ok (.aload_n 0, 1) := by decide +kernel
theorem dX11_init_58 : decode cX11_init 58 = .ok (.new 37, 3) := by decide +kernel
theorem dX11_init_61 : decode cX11_init 61 = .ok (.dup, 1) := by decide +kernel
theorem dX11_init_62 : decode cX11_init 62 = .ok (.iconst 2, 1) := by decide +kernel
theorem dX11_init_63 : decode cX11_init 63 = .ok (.invokespecial 39, 3) := by decide +kernel
theorem dX11_init_66 : decode cX11_init 66 = .ok (.putfield 40, 3) := by decide +kernel
theorem dX11_init_69 : decode cX11_init 69 = .ok (.aload_n 0, 1) := by decide +kernel
theorem dX11_init_70 : decode cX11_init 70 = .ok (.new 37, 3) := by decide +kernel
theorem dX11_init_73 : decode cX11_init 73 = .ok (.dup, 1) := by decide +kernel
theorem dX11_init_74 : decode cX11_init 74 = .ok (.bipush 8, 2) := by decide +kernel
theorem dX11_init_76 : decode cX11_init 76 = .ok (.invokespecial 39, 3) := by decide +kernel
theorem dX11_init_79 : decode cX11_init 79 = .ok (.putfield 44, 3) := by decide +kernel
theorem dX11_init_82 : decode cX11_init 82 = .ok (.aload_n 0, 1) := by decide +kernel
theorem dX11_init_83 : decode cX11_init 83 = .ok (.getfield 14, 3) := by decide +kernel
theorem dX11_init_86 : decode cX11_init 86 = .ok (.ldc 47, 2) := by decide +kernel
theorem dX11_init_88 : decode cX11_init 88 = .ok (.invokevirtual 49, 3) := by decide +kernel
theorem dX11_init_91 : decode cX11_init 91 = .ok (.aload_n 0, 1) := by decide +kernel
theorem dX11_init_92 : decode cX11_init 92 = .ok (.getfield 14, 3) := by decide +kernel
theorem dX11_init_95 : decode cX11_init 95 = .ok (.ldc 53, 2) := by decide +kernel
theorem dX11_init_97 : decode cX11_init 97 = .ok (.invokevirtual 49, 3) := by decide +kernel
theorem dX11_init_100 : decode cX11_init 100 = .ok (.aload_n 0, 1) := by decide +kernel
theorem dX11_init_101 : decode cX11_init 101 = .ok (.getfield 14, 3) := by decide +kernel
theorem dX11_init_104 : decode cX11_init 104 = .ok (.ldc 55, 2) := by decide +kernel
theorem dX11_init_106 : decode cX11_init 106 = .ok (.invokevirtual 49, 3) := by decide +kernel
theorem dX11_init_109 : decode cX11_init 109 = .ok (.aload_n 0, 1) := by decide +kernel
theorem dX11_init_110 : decode cX11_init 110 = .ok (.getfield 14, 3) := by decide +kernel
theorem dX11_init_113 : decode cX11_init 113 = .ok (.ldc 57, 2) := by decide +kernel
theorem dX11_init_115 : decode cX11_init 115 = .ok (.invokevirtual 49, 3) := by decide +kernel
theorem dX11_init_118 : decode cX11_init 118 = .ok (.aload_n 0, 1) := by decide +kernel
theorem dX11_init_119 : decode cX11_init 119 = .ok (.getfield 14, 3) := by decide +kernel
theorem dX11_init_122 : decode cX11_init 122 = .ok (.ldc 59, 2) := by decide +kernel
theorem dX11_init_124 : decode cX11_init 124 = .ok (.invokevirtual 49, 3) := by decide +kernel
theorem dX11_init_127 : decode cX11_init 127 = .ok (.aload_n 0, 1) := by decide +kernel
theorem dX11_init_128 : decode cX11_init 128 = .ok (.getfield 26, 3) := by decide +kernel
theorem dX11_init_131 : decode cX11_init 131 = .ok (.invokevirtual 61, 3) := by decide +kernel
theorem dX11_init_134 : decode cX11_init 134 = .ok (.pop, 1) := by decide +kernel
theorem dX11_init_135 : decode cX11_init 135 = .ok (.aload_n 0, 1) := by decide +kernel
theorem dX11_init_136 : decode cX11_init 136 = .ok (.getfield 33, 3) := by decide +kernel
theorem dX11_init_139 : decode cX11_init 139 = .ok (.aload_n 0, 1) := by decide +kernel
theorem dX11_init_140 : decode cX11_init 140 = .ok (.getfield 26, 3) := by decide +kernel
theorem dX11_init_143 : decode cX11_init 143 = .ok (.getfield 65, 3) := by decide +kernel
theorem dX11_init_146 : decode cX11_init 146 = .ok (.invokevirtual 68, 3) := by decide +kernel
theorem dX11_init_149 : decode cX11_init 149 = .ok (.aload_n 0, 1) := by decide +kernel
theorem dX11_init_150 : decode cX11_init 150 = .ok (.getfield 14, 3) := by decide +kernel
theorem dX11_init_153 : decode cX11_init 153 = .ok (.iconst 0, 1) := by decide +kernel
theorem dX11_init_154 : decode cX11_init 154 = .ok (.invokevirtual 72, 3) := by decide +kernel
theorem dX11_init_157 : decode cX11_init 157 = .ok (.return_, 1) := by decide +kernel
theorem dX11_appendInput_0 : decode cX11_appendInput 0 = .ok (.aload_n 0, 1) := by decide +kernel
theorem dX11_appendInput_1 : decode cX11_appendInput 1 = .ok (.getfield 14, 3) := by decide +kernel
theorem dX11_appendInput_4 : decode cX11_appendInput 4 = .ok (.invokevirtual 75, 3) := by decide +kernel
theorem dX11_appendInput_7 : decode cX11_appendInput 7 = .ok (.bipush 20, 2) := by decide +kernel
theorem dX11_appendInput_9 : decode cX11_appendInput 9 = .ok (.iadd, 1) := by decide +kernel
theorem dX11_appendInput_10 : decode cX11_appendInput 10 = .ok (.sipush 600, 3) := by decide +kernel
theorem dX11_appendInput_13 : decode cX11_appendInput 13 = .ok (.if_icmp .le 13, 3) := by decide +kernel
theorem dX11_appendInput_16 : decode cX11_appendInput 16 = .ok (.new 79, 3) := by decide +kernel
theorem dX11_appendInput_19 : decode cX11_appendInput 19 = .ok (.dup, 1) := by decide +kernel
theorem dX11_appendInput_20 : decode cX11_appendInput 20 = .ok (.ldc 81, 2) := by decide +kernel
theorem dX11_appendInput_22 : decode cX11_appendInput 22 = .ok (.invokespecial 83, 3) := by decide +kernel
theorem dX11_appendInput_25 : decode cX11_appendInput 25 = .ok (.athrow, 1) := by decide +kernel
theorem dX11_appendInput_26 : decode cX11_appendInput 26 = .ok (.aload_n 0, 1) := by decide +kernel
theorem dX11_appendInput_27 : decode cX11_appendInput 27 = .ok (.getfield 14, 3) := by decide +kernel
theorem dX11_appendInput_30 : decode cX11_appendInput 30 = .ok (.iload_n 1, 1) := by decide +kernel
theorem dX11_appendInput_31 : decode cX11_appendInput 31 = .ok (.invokevirtual 85, 3) := by decide +kernel
theorem dX11_appendInput_34 : decode cX11_appendInput 34 = .ok (.aload_n 0, 1) := by decide +kernel
theorem dX11_appendInput_35 : decode cX11_appendInput 35 = .ok (.getfield 14, 3) := by decide +kernel
theorem dX11_appendInput_38 : decode cX11_appendInput 38 = .ok (.iload_n 2, 1) := by decide +kernel
theorem dX11_appendInput_39 : decode cX11_appendInput 39 = .ok (.invokevirtual 85, 3) := by decide +kernel
theorem dX11_appendInput_42 : decode cX11_appendInput 42 = .ok (.aload_n 0, 1) := by decide +kernel
theorem dX11_appendInput_43 : decode cX11_appendInput 43 = .ok (.getfield 14, 3) := by decide +kernel
theorem dX11_appendInput_46 : decode cX11_appendInput 46 = .ok (.iload_n 3, 1) := by decide +kernel
theorem dX11_appendInput_47 : decode cX11_appendInput 47 = .ok (.invokevirtual 85, 3) := by decide +kernel
theorem dX11_appendInput_50 : decode cX11_appendInput 50 = .ok (.aload_n 0, 1) := by decide +kernel
theorem dX11_appendInput_51 : decode cX11_appendInput 51 = .ok (.getfield 14, 3) := by decide +kernel
theorem dX11_appendInput_54 : decode cX11_appendInput 54 = .ok (.iload 4, 2) := by decide +kernel
theorem dX11_appendInput_56 : decode cX11_appendInput 56 = .ok (.invokevirtual 85, 3) := by decide +kernel
theorem dX11_appendInput_59 : decode cX11_appendInput 59 = .ok (.aload_n 0, 1) := by decide +kernel
theorem dX11_appendInput_60 : decode cX11_appendInput 60 = .ok (.getfield 14, 3) := by decide +kernel
theorem dX11_appendInput_63 : decode cX11_appendInput 63 = .ok (.iload 5, 2) := by decide +kernel
theorem dX11_appendInput_65 : decode cX11_appendInput 65 = .ok (.invokevirtual 85, 3) := by decide +kernel
theorem dX11_appendInput_68 : decode cX11_appendInput 68 = .ok (.aload_n 0, 1) := by decide +kernel
theorem dX11_appendInput_69 : decode cX11_appendInput 69 = .ok (.getfield 14, 3) := by decide +kernel
theorem dX11_appendInput_72 : decode cX11_appendInput 72 = .ok (.invokevirtual 75, 3) := by decide +kernel
theorem dX11_appendInput_75 : decode cX11_appendInput 75 = .ok (.ireturn, 1) := by decide +kernel
theorem dX11_truncateInput_0 : decode cX11_truncateInput 0 = .ok (.iload_n 1, 1) := by decide +kernel
theorem dX11_truncateInput_1 : decode cX11_truncateInput 1 = .ok (.ifCond .lt 14, 3) := by decide +kernel
theorem dX11_truncateInput_4 : decode cX11_truncateInput 4 = .ok (.iload_n 1, 1) := by decide +kernel
theorem dX11_truncateInput_5 : decode cX11_truncateInput 5 = .ok (.aload_n 0, 1) := by decide +kernel
theorem dX11_truncateInput_6 : decode cX11_truncateInput 6 = .ok (.getfield 14, 3) := by decide +kernel
theorem dX11_truncateInput_9 : decode cX11_truncateInput 9 = .ok (.invokevirtual 75, 3) := by decide +kernel
theorem dX11_truncateInput_12 : decode cX11_truncateInput 12 = .ok (.if_icmp .le 13, 3) := by decide +kernel
theorem dX11_truncateInput_15 : decode cX11_truncateInput 15 = .ok (.new 88, 3) := by decide +kernel
theorem dX11_truncateInput_18 : decode cX11_truncateInput 18 = .ok (.dup, 1) := by decide +kernel
theorem dX11_truncateInput_19 : decode cX11_truncateInput 19 = .ok (.ldc 90, 2) := by decide +kernel
theorem dX11_truncateInput_21 : decode cX11_truncateInput 21 = .ok (.invokespecial 92, 3) := by decide +kernel
theorem dX11_truncateInput_24 : decode cX11_truncateInput 24 = .ok (.athrow, 1) := by decide +kernel
theorem dX11_truncateInput_25 : decode cX11_truncateInput 25 = .ok (.aload_n 0, 1) := by decide +kernel
theorem dX11_truncateInput_26 : decode cX11_truncateInput 26 = .ok (.getfield 14, 3) := by decide +kernel
theorem dX11_truncateInput_29 : decode cX11_truncateInput 29 = .ok (.iload_n 1, 1) := by decide +kernel
theorem dX11_truncateInput_30 : decode cX11_truncateInput 30 = .ok (.invokevirtual 72, 3) := by decide +kernel
theorem dX11_truncateInput_33 : decode cX11_truncateInput 33 = .ok (.iload_n 1, 1) := by decide +kernel
theorem dX11_truncateInput_34 : decode cX11_truncateInput 34 = .ok (.ireturn, 1) := by decide +kernel
theorem dX11_load_0 : decode cX11_load 0 = .ok (.aload_n 0, 1) := by decide +kernel
theorem dX11_load_1 : decode cX11_load 1 = .ok (.getfield 26, 3) := by decide +kernel
theorem dX11_load_4 : decode cX11_load 4 = .ok (.invokevirtual 61, 3) := by decide +kernel
theorem dX11_load_7 : decode cX11_load 7 = .ok (.istore_n 1, 1) := by decide +kernel
theorem dX11_load_8 : decode cX11_load 8 = .ok (.aload_n 0, 1) := by decide +kernel
theorem dX11_load_9 : decode cX11_load 9 = .ok (.getfield 14, 3) := by decide +kernel
theorem dX11_load_12 : decode cX11_load 12 = .ok (.iconst 0, 1) := by decide +kernel
theorem dX11_load_13 : decode cX11_load 13 = .ok (.invokevirtual 72, 3) := by decide +kernel
theorem dX11_load_16 : decode cX11_load 16 = .ok (.iload_n 1, 1) := by decide +kernel
theorem dX11_load_17 : decode cX11_load 17 = .ok (.ifCond .ne 13, 3) := by decide +kernel
theorem dX11_load_20 : decode cX11_load 20 = .ok (.new 88, 3) := by decide +kernel
theorem dX11_load_23 : decode cX11_load 23 = .ok (.dup, 1) := by decide +kernel
theorem dX11_load_24 : decode cX11_load 24 = .ok (.ldc 93, 2) := by decide +kernel
theorem dX11_load_26 : decode cX11_load 26 = .ok (.invokespecial 92, 3) := by decide +kernel
theorem dX11_load_29 : decode cX11_load 29 = .ok (.athrow, 1) := by decide +kernel
theorem dX11_load_30 : decode cX11_load 30 = .ok (.aload_n 0, 1) := by decide +kernel
theorem dX11_load_31 : decode cX11_load 31 = .ok (.invokevirtual 95, 3) := by decide +kernel
theorem dX11_load_34 : decode cX11_load 34 = .ok (.aload_n 0, 1) := by decide +kernel
theorem dX11_load_35 : decode cX11_load 35 = .ok (.getfield 33, 3) := by decide +kernel
theorem dX11_load_38 : decode cX11_load 38 = .ok (.aload_n 0, 1) := by decide +kernel
theorem dX11_load_39 : decode cX11_load 39 = .ok (.getfield 26, 3) := by decide +kernel
theorem dX11_load_42 : decode cX11_load 42 = .ok (.getfield 65, 3) := by decide +kernel
theorem dX11_load_45 : decode cX11_load 45 = .ok (.invokevirtual 68, 3) := by decide +kernel
theorem dX11_load_48 : decode cX11_load 48 = .ok (.aload_n 0, 1) := by decide +kernel
theorem dX11_load_49 : decode cX11_load 49 = .ok (.getfield 33, 3) := by decide +kernel
theorem dX11_load_52 : decode cX11_load 52 = .ok (.getfield 98, 3) := by decide +kernel
theorem dX11_load_55 : decode cX11_load 55 = .ok (.invokevirtual 102, 3) := by decide +kernel
theorem dX11_load_58 : decode cX11_load 58 = .ok (.ireturn, 1) := by decide +kernel
theorem dX11_errorCode_0 : decode cX11_errorCode 0 = .ok (.aload_n 0, 1) := by decide +kernel
theorem dX11_errorCode_1 : decode cX11_errorCode 1 = .ok (.getfield 26, 3) := by decide +kernel
theorem dX11_errorCode_4 : decode cX11_errorCode 4 = .ok (.getfield 105, 3) := by decide +kernel
theorem dX11_errorCode_7 : decode cX11_errorCode 7 = .ok (.ireturn, 1) := by decide +kernel
theorem dX11_time_0 : decode cX11_time 0 = .ok (.aload_n 0, 1) := by decide +kernel
theorem dX11_time_1 : decode cX11_time 1 = .ok (.getfield 33, 3) := by decide +kernel
theorem dX11_time_4 : decode cX11_time 4 = .ok (.getfield 112, 3) := by decide +kernel
theorem dX11_time_7 : decode cX11_time 7 = .ok (.ireturn, 1) := by decide +kernel
theorem dX11_seed_0 : decode cX11_seed 0 = .ok (.aload_n 0, 1) := by decide +kernel
theorem dX11_seed_1 : decode cX11_seed 1 = .ok (.getfield 33, 3) := by decide +kernel
theorem dX11_seed_4 : decode cX11_seed 4 = .ok (.getfield 115, 3) := by decide +kernel
theorem dX11_seed_7 : decode cX11_seed 7 = .ok (.ireturn, 1) := by decide +kernel
theorem dX11_realmCount_0 : decode cX11_realmCount 0 = .ok (.aload_n 0, 1) := by decide +kernel
theorem dX11_realmCount_1 : decode cX11_realmCount 1 = .ok (.getfield 33, 3) := by decide +kernel
theorem dX11_realmCount_4 : decode cX11_realmCount 4 = .ok (.getfield 118, 3) := by decide +kernel
theorem dX11_realmCount_7 : decode cX11_realmCount 7 = .ok (.invokevirtual 122, 3) := by decide +kernel
theorem dX11_realmCount_10 : decode cX11_realmCount 10 = .ok (.ireturn, 1) := by decide +kernel
theorem dX11_serviceCount_0 : decode cX11_serviceCount 0 = .ok (.aload_n 0, 1) := by decide +kernel
theorem dX11_serviceCount_1 : decode cX11_serviceCount 1 = .ok (.getfield 33, 3) := by decide +kernel
theorem dX11_serviceCount_4 : decode cX11_serviceCount 4 = .ok (.getfield 132, 3) := by decide +kernel
theorem dX11_serviceCount_7 : decode cX11_serviceCount 7 = .ok (.invokevirtual 136, 3) := by decide +kernel
theorem dX11_serviceCount_10 : decode cX11_serviceCount 10 = .ok (.ireturn, 1) := by decide +kernel
theorem dX11_clockOf_0 : decode cX11_clockOf 0 = .ok (.aload_n 0, 1) := by decide +kernel
theorem dX11_clockOf_1 : decode cX11_clockOf 1 = .ok (.iload_n 1, 1) := by decide +kernel
theorem dX11_clockOf_2 : decode cX11_clockOf 2 = .ok (.invokevirtual 147, 3) := by decide +kernel
theorem dX11_clockOf_5 : decode cX11_clockOf 5 = .ok (.aload_n 0, 1) := by decide +kernel
theorem dX11_clockOf_6 : decode cX11_clockOf 6 = .ok (.getfield 33, 3) := by decide +kernel
theorem dX11_clockOf_9 : decode cX11_clockOf 9 = .ok (.getfield 112, 3) := by decide +kernel
theorem dX11_clockOf_12 : decode cX11_clockOf 12 = .ok (.aload_n 0, 1) := by decide +kernel
theorem dX11_clockOf_13 : decode cX11_clockOf 13 = .ok (.getfield 33, 3) := by decide +kernel
theorem dX11_clockOf_16 : decode cX11_clockOf 16 = .ok (.getfield 118, 3) := by decide +kernel
theorem dX11_clockOf_19 : decode cX11_clockOf 19 = .ok (.iload_n 1, 1) := by decide +kernel
theorem dX11_clockOf_20 : decode cX11_clockOf 20 = .ok (.iconst 3, 1) := by decide +kernel
theorem dX11_clockOf_21 : decode cX11_clockOf 21 = .ok (.invokevirtual 150, 3) := by decide +kernel
theorem dX11_clockOf_24 : decode cX11_clockOf 24 = .ok (.iadd, 1) := by decide +kernel
theorem dX11_clockOf_25 : decode cX11_clockOf 25 = .ok (.ireturn, 1) := by decide +kernel
theorem dX11_cheesesOf_0 : decode cX11_cheesesOf 0 = .ok (.aload_n 0, 1) := by decide +kernel
theorem dX11_cheesesOf_1 : decode cX11_cheesesOf 1 = .ok (.iload_n 1, 1) := by decide +kernel
theorem dX11_cheesesOf_2 : decode cX11_cheesesOf 2 = .ok (.invokevirtual 163, 3) := by decide +kernel
theorem dX11_cheesesOf_5 : decode cX11_cheesesOf 5 = .ok (.aload_n 0, 1) := by decide +kernel
theorem dX11_cheesesOf_6 : decode cX11_cheesesOf 6 = .ok (.getfield 33, 3) := by decide +kernel
theorem dX11_cheesesOf_9 : decode cX11_cheesesOf 9 = .ok (.getfield 125, 3) := by decide +kernel
theorem dX11_cheesesOf_12 : decode cX11_cheesesOf 12 = .ok (.iload_n 1, 1) := by decide +kernel
theorem dX11_cheesesOf_13 : decode cX11_cheesesOf 13 = .ok (.iconst 4, 1) := by decide +kernel
theorem dX11_cheesesOf_14 : decode cX11_cheesesOf 14 = .ok (.invokevirtual 166, 3) := by decide +kernel
theorem dX11_cheesesOf_17 : decode cX11_cheesesOf 17 = .ok (.ireturn, 1) := by decide +kernel
theorem dX11_cheesesLeft_0 : decode cX11_cheesesLeft 0 = .ok (.aload_n 0, 1) := by decide +kernel
theorem dX11_cheesesLeft_1 : decode cX11_cheesesLeft 1 = .ok (.iload_n 1, 1) := by decide +kernel
theorem dX11_cheesesLeft_2 : decode cX11_cheesesLeft 2 = .ok (.invokevirtual 170, 3) := by decide +kernel
theorem dX11_cheesesLeft_5 : decode cX11_cheesesLeft 5 = .ok (.aload_n 0, 1) := by decide +kernel
theorem dX11_cheesesLeft_6 : decode cX11_cheesesLeft 6 = .ok (.getfield 33, 3) := by decide +kernel
theorem dX11_cheesesLeft_9 : decode cX11_cheesesLeft 9 = .ok (.getfield 132, 3) := by decide +kernel
theorem dX11_cheesesLeft_12 : decode cX11_cheesesLeft 12 = .ok (.iload_n 1, 1) := by decide +kernel
theorem dX11_cheesesLeft_13 : decode cX11_cheesesLeft 13 = .ok (.iconst 2, 1) := by decide +kernel
theorem dX11_cheesesLeft_14 : decode cX11_cheesesLeft 14 = .ok (.invokevirtual 173, 3) := by decide +kernel
theorem dX11_cheesesLeft_17 : decode cX11_cheesesLeft 17 = .ok (.ireturn, 1) := by decide +kernel
theorem dX11_ticketCount_0 : decode cX11_ticketCount 0 = .ok (.aload_n 0, 1) := by decide +kernel
theorem dX11_ticketCount_1 : decode cX11_ticketCount 1 = .ok (.getfield 33, 3) := by decide +kernel
theorem dX11_ticketCount_4 : decode cX11_ticketCount 4 = .ok (.getfield 98, 3) := by decide +kernel
theorem dX11_ticketCount_7 : decode cX11_ticketCount 7 = .ok (.invokevirtual 102, 3) := by decide +kernel
theorem dX11_ticketCount_10 : decode cX11_ticketCount 10 = .ok (.ireturn, 1) := by decide +kernel
theorem dX11_ticketAt_0 : decode cX11_ticketAt 0 = .ok (.aload_n 0, 1) := by decide +kernel
theorem dX11_ticketAt_1 : decode cX11_ticketAt 1 = .ok (.getfield 33, 3) := by decide +kernel
theorem dX11_ticketAt_4 : decode cX11_ticketAt 4 = .ok (.getfield 98, 3) := by decide +kernel
theorem dX11_ticketAt_7 : decode cX11_ticketAt 7 = .ok (.iload_n 1, 1) := by decide +kernel
theorem dX11_ticketAt_8 : decode cX11_ticketAt 8 = .ok (.invokevirtual 174, 3) := by decide +kernel
theorem dX11_ticketAt_11 : decode cX11_ticketAt 11 = .ok (.ifCond .ne 13, 3) := by decide +kernel
theorem dX11_ticketAt_14 : decode cX11_ticketAt 14 = .ok (.new 178, 3) := by decide +kernel
theorem dX11_ticketAt_17 : decode cX11_ticketAt 17 = .ok (.dup, 1) := by decide +kernel
theorem dX11_ticketAt_18 : decode cX11_ticketAt 18 = .ok (.ldc 180, 2) := by decide +kernel
theorem dX11_ticketAt_20 : decode cX11_ticketAt 20 = .ok (.invokespecial 182, 3) := by decide +kernel
theorem dX11_ticketAt_23 : decode cX11_ticketAt 23 = .ok (.athrow, 1) := by decide +kernel
theorem dX11_ticketAt_24 : decode cX11_ticketAt 24 = .ok (.aload_n 0, 1) := by decide +kernel
theorem dX11_ticketAt_25 : decode cX11_ticketAt 25 = .ok (.getfield 33, 3) := by decide +kernel
theorem dX11_ticketAt_28 : decode cX11_ticketAt 28 = .ok (.getfield 98, 3) := by decide +kernel
theorem dX11_ticketAt_31 : decode cX11_ticketAt 31 = .ok (.iload_n 1, 1) := by decide +kernel
theorem dX11_ticketAt_32 : decode cX11_ticketAt 32 = .ok (.iconst 0, 1) := by decide +kernel
theorem dX11_ticketAt_33 : decode cX11_ticketAt 33 = .ok (.invokevirtual 183, 3) := by decide +kernel
theorem dX11_ticketAt_36 : decode cX11_ticketAt 36 = .ok (.ireturn, 1) := by decide +kernel
theorem dX11_kindOf_0 : decode cX11_kindOf 0 = .ok (.aload_n 0, 1) := by decide +kernel
theorem dX11_kindOf_1 : decode cX11_kindOf 1 = .ok (.getfield 33, 3) := by decide +kernel
theorem dX11_kindOf_4 : decode cX11_kindOf 4 = .ok (.getfield 98, 3) := by decide +kernel
theorem dX11_kindOf_7 : decode cX11_kindOf 7 = .ok (.aload_n 0, 1) := by decide +kernel
theorem dX11_kindOf_8 : decode cX11_kindOf 8 = .ok (.iload_n 1, 1) := by decide +kernel
theorem dX11_kindOf_9 : decode cX11_kindOf 9 = .ok (.invokevirtual 184, 3) := by decide +kernel
theorem dX11_kindOf_12 : decode cX11_kindOf 12 = .ok (.iconst 1, 1) := by decide +kernel
theorem dX11_kindOf_13 : decode cX11_kindOf 13 = .ok (.invokevirtual 183, 3) := by decide +kernel
theorem dX11_kindOf_16 : decode cX11_kindOf 16 = .ok (.ireturn, 1) := by decide +kernel
theorem dX11_ownerOf_0 : decode cX11_ownerOf 0 = .ok (.aload_n 0, 1) := by decide +kernel
theorem dX11_ownerOf_1 : decode cX11_ownerOf 1 = .ok (.getfield 33, 3) := by decide +kernel
theorem dX11_ownerOf_4 : decode cX11_ownerOf 4 = .ok (.getfield 98, 3) := by decide +kernel
theorem dX11_ownerOf_7 : decode cX11_ownerOf 7 = .ok (.aload_n 0, 1) := by decide +kernel
theorem dX11_ownerOf_8 : decode cX11_ownerOf 8 = .ok (.iload_n 1, 1) := by decide +kernel
theorem dX11_ownerOf_9 : decode cX11_ownerOf 9 = .ok (.invokevirtual 184, 3) := by decide +kernel
theorem dX11_ownerOf_12 : decode cX11_ownerOf 12 = .ok (.iconst 2, 1) := by decide +kernel
theorem dX11_ownerOf_13 : decode cX11_ownerOf 13 = .ok (.invokevirtual 183, 3) := by decide +kernel
theorem dX11_ownerOf_16 : decode cX11_ownerOf 16 = .ok (.ireturn, 1) := by decide +kernel
theorem dX11_realmOf_0 : decode cX11_realmOf 0 = .ok (.aload_n 0, 1) := by decide +kernel
theorem dX11_realmOf_1 : decode cX11_realmOf 1 = .ok (.getfield 33, 3) := by decide +kernel
theorem dX11_realmOf_4 : decode cX11_realmOf 4 = .ok (.getfield 98, 3) := by decide +kernel
theorem dX11_realmOf_7 : decode cX11_realmOf 7 = .ok (.aload_n 0, 1) := by decide +kernel
theorem dX11_realmOf_8 : decode cX11_realmOf 8 = .ok (.iload_n 1, 1) := by decide +kernel
theorem dX11_realmOf_9 : decode cX11_realmOf 9 = .ok (.invokevirtual 184, 3) := by decide +kernel
theorem dX11_realmOf_12 : decode cX11_realmOf 12 = .ok (.iconst 3, 1) := by decide +kernel
theorem dX11_realmOf_13 : decode cX11_realmOf 13 = .ok (.invokevirtual 183, 3) := by decide +kernel
theorem dX11_realmOf_16 : decode cX11_realmOf 16 = .ok (.ireturn, 1) := by decide +kernel
theorem dX11_serviceOf_0 : decode cX11_serviceOf 0 = .ok (.aload_n 0, 1) := by decide +kernel
theorem dX11_serviceOf_1 : decode cX11_serviceOf 1 = .ok (.getfield 33, 3) := by decide +kernel
theorem dX11_serviceOf_4 : decode cX11_serviceOf 4 = .ok (.getfield 98, 3) := by decide +kernel
theorem dX11_serviceOf_7 : decode cX11_serviceOf 7 = .ok (.aload_n 0, 1) := by decide +kernel
theorem dX11_serviceOf_8 : decode cX11_serviceOf 8 = .ok (.iload_n 1, 1) := by decide +kernel
theorem dX11_serviceOf_9 : decode cX11_serviceOf 9 = .ok (.invokevirtual 184, 3) := by decide +kernel
theorem dX11_serviceOf_12 : decode cX11_serviceOf 12 = .ok (.iconst 4, 1) := by decide +kernel
theorem dX11_serviceOf_13 : decode cX11_serviceOf 13 = .ok (.invokevirtual 183, 3) := by decide +kernel
theorem dX11_serviceOf_16 : decode cX11_serviceOf 16 = .ok (.ireturn, 1) := by decide +kernel
theorem dX11_startOf_0 : decode cX11_startOf 0 = .ok (.aload_n 0, 1) := by decide +kernel
theorem dX11_startOf_1 : decode cX11_startOf 1 = .ok (.getfield 33, 3) := by decide +kernel
theorem dX11_startOf_4 : decode cX11_startOf 4 = .ok (.getfield 98, 3) := by decide +kernel
theorem dX11_startOf_7 : decode cX11_startOf 7 = .ok (.aload_n 0, 1) := by decide +kernel
theorem dX11_startOf_8 : decode cX11_startOf 8 = .ok (.iload_n 1, 1) := by decide +kernel
theorem dX11_startOf_9 : decode cX11_startOf 9 = .ok (.invokevirtual 184, 3) := by decide +kernel
theorem dX11_startOf_12 : decode cX11_startOf 12 = .ok (.iconst 5, 1) := by decide +kernel
theorem dX11_startOf_13 : decode cX11_startOf 13 = .ok (.invokevirtual 183, 3) := by decide +kernel
theorem dX11_startOf_16 : decode cX11_startOf 16 = .ok (.ireturn, 1) := by decide +kernel
theorem dX11_endOf_0 : decode cX11_endOf 0 = .ok (.aload_n 0, 1) := by decide +kernel
theorem dX11_endOf_1 : decode cX11_endOf 1 = .ok (.getfield 33, 3) := by decide +kernel
theorem dX11_endOf_4 : decode cX11_endOf 4 = .ok (.getfield 98, 3) := by decide +kernel
theorem dX11_endOf_7 : decode cX11_endOf 7 = .ok (.aload_n 0, 1) := by decide +kernel
theorem dX11_endOf_8 : decode cX11_endOf 8 = .ok (.iload_n 1, 1) := by decide +kernel
theorem dX11_endOf_9 : decode cX11_endOf 9 = .ok (.invokevirtual 184, 3) := by decide +kernel
theorem dX11_endOf_12 : decode cX11_endOf 12 = .ok (.bipush 6, 2) := by decide +kernel
theorem dX11_endOf_14 : decode cX11_endOf 14 = .ok (.invokevirtual 183, 3) := by decide +kernel
theorem dX11_endOf_17 : decode cX11_endOf 17 = .ok (.ireturn, 1) := by decide +kernel
theorem dX11_lastEndOf_0 : decode cX11_lastEndOf 0 = .ok (.aload_n 0, 1) := by decide +kernel
theorem dX11_lastEndOf_1 : decode cX11_lastEndOf 1 = .ok (.getfield 33, 3) := by decide +kernel
theorem dX11_lastEndOf_4 : decode cX11_lastEndOf 4 = .ok (.getfield 98, 3) := by decide +kernel
theorem dX11_lastEndOf_7 : decode cX11_lastEndOf 7 = .ok (.aload_n 0, 1) := by decide +kernel
theorem dX11_lastEndOf_8 : decode cX11_lastEndOf 8 = .ok (.iload_n 1, 1) := by decide +kernel
theorem dX11_lastEndOf_9 : decode cX11_lastEndOf 9 = .ok (.invokevirtual 184, 3) := by decide +kernel
theorem dX11_lastEndOf_12 : decode cX11_lastEndOf 12 = .ok (.bipush 7, 2) := by decide +kernel
theorem dX11_lastEndOf_14 : decode cX11_lastEndOf 14 = .ok (.invokevirtual 183, 3) := by decide +kernel
theorem dX11_lastEndOf_17 : decode cX11_lastEndOf 17 = .ok (.ireturn, 1) := by decide +kernel
theorem dX11_keyOf_0 : decode cX11_keyOf 0 = .ok (.aload_n 0, 1) := by decide +kernel
theorem dX11_keyOf_1 : decode cX11_keyOf 1 = .ok (.getfield 33, 3) := by decide +kernel
theorem dX11_keyOf_4 : decode cX11_keyOf 4 = .ok (.getfield 98, 3) := by decide +kernel
theorem dX11_keyOf_7 : decode cX11_keyOf 7 = .ok (.aload_n 0, 1) := by decide +kernel
theorem dX11_keyOf_8 : decode cX11_keyOf 8 = .ok (.iload_n 1, 1) := by decide +kernel
theorem dX11_keyOf_9 : decode cX11_keyOf 9 = .ok (.invokevirtual 184, 3) := by decide +kernel
theorem dX11_keyOf_12 : decode cX11_keyOf 12 = .ok (.bipush 8, 2) := by decide +kernel
theorem dX11_keyOf_14 : decode cX11_keyOf 14 = .ok (.invokevirtual 183, 3) := by decide +kernel
theorem dX11_keyOf_17 : decode cX11_keyOf 17 = .ok (.ireturn, 1) := by decide +kernel
theorem dX11_isRenewable_0 : decode cX11_isRenewable 0 = .ok (.aload_n 0, 1) := by decide +kernel
theorem dX11_isRenewable_1 : decode cX11_isRenewable 1 = .ok (.getfield 33, 3) := by decide +kernel
theorem dX11_isRenewable_4 : decode cX11_isRenewable 4 = .ok (.getfield 98, 3) := by decide +kernel
theorem dX11_isRenewable_7 : decode cX11_isRenewable 7 = .ok (.aload_n 0, 1) := by decide +kernel
theorem dX11_isRenewable_8 : decode cX11_isRenewable 8 = .ok (.iload_n 1, 1) := by decide +kernel
theorem dX11_isRenewable_9 : decode cX11_isRenewable 9 = .ok (.invokevirtual 184, 3) := by decide +kernel
theorem dX11_isRenewable_12 : decode cX11_isRenewable 12 = .ok (.invokevirtual 187, 3) := by decide +kernel
theorem dX11_isRenewable_15 : decode cX11_isRenewable 15 = .ok (.ireturn, 1) := by decide +kernel
theorem dX11_isValid_0 : decode cX11_isValid 0 = .ok (.aload_n 0, 1) := by decide +kernel
theorem dX11_isValid_1 : decode cX11_isValid 1 = .ok (.getfield 33, 3) := by decide +kernel
theorem dX11_isValid_4 : decode cX11_isValid 4 = .ok (.getfield 98, 3) := by decide +kernel
theorem dX11_isValid_7 : decode cX11_isValid 7 = .ok (.aload_n 0, 1) := by decide +kernel
theorem dX11_isValid_8 : decode cX11_isValid 8 = .ok (.iload_n 1, 1) := by decide +kernel
theorem dX11_isValid_9 : decode cX11_isValid 9 = .ok (.invokevirtual 184, 3) := by decide +kernel
theorem dX11_isValid_12 : decode cX11_isValid 12 = .ok (.aload_n 0, 1) := by decide +kernel
theorem dX11_isValid_13 : decode cX11_isValid 13 = .ok (.getfield 33, 3) := by decide +kernel
theorem dX11_isValid_16 : decode cX11_isValid 16 = .ok (.getfield 112, 3) := by decide +kernel
theorem dX11_isValid_19 : decode cX11_isValid 19 = .ok (.invokevirtual 190, 3) := by decide +kernel
theorem dX11_isValid_22 : decode cX11_isValid 22 = .ok (.ireturn, 1) := by decide +kernel
theorem dX11_validTickets_0 : decode cX11_validTickets 0 = .ok (.aload_n 0, 1) := by decide +kernel
theorem dX11_validTickets_1 : decode cX11_validTickets 1 = .ok (.getfield 33, 3) := by decide +kernel
theorem dX11_validTickets_4 : decode cX11_validTickets 4 = .ok (.getfield 98, 3) := by decide +kernel
theorem dX11_validTickets_7 : decode cX11_validTickets 7 = .ok (.aload_n 0, 1) := by decide +kernel
theorem dX11_validTickets_8 : decode cX11_validTickets 8 = .ok (.getfield 33, 3) := by decide +kernel
theorem dX11_validTickets_11 : decode cX11_validTickets 11 = .ok (.getfield 112, 3) := by decide +kernel
theorem dX11_validTickets_14 : decode cX11_validTickets 14 = .ok (.invokevirtual 216, 3) := by decide +kernel
theorem dX11_validTickets_17 : decode cX11_validTickets 17 = .ok (.ireturn, 1) := by decide +kernel
theorem dX11_useCount_0 : decode cX11_useCount 0 = .ok (.aload_n 0, 1) := by decide +kernel
theorem dX11_useCount_1 : decode cX11_useCount 1 = .ok (.getfield 33, 3) := by decide +kernel
theorem dX11_useCount_4 : decode cX11_useCount 4 = .ok (.getfield 225, 3) := by decide +kernel
theorem dX11_useCount_7 : decode cX11_useCount 7 = .ok (.invokevirtual 229, 3) := by decide +kernel
theorem dX11_useCount_10 : decode cX11_useCount 10 = .ok (.ireturn, 1) := by decide +kernel
theorem dX11_cheeseDifference_0 : decode cX11_cheeseDifference 0 = .ok (.aload_n 0, 1) := by decide +kernel
theorem dX11_cheeseDifference_1 : decode cX11_cheeseDifference 1 = .ok (.getfield 33, 3) := by decide +kernel
theorem dX11_cheeseDifference_4 : decode cX11_cheeseDifference 4 = .ok (.getfield 232, 3) := by decide +kernel
theorem dX11_cheeseDifference_7 : decode cX11_cheeseDifference 7 = .ok (.aload_n 0, 1) := by decide +kernel
theorem dX11_cheeseDifference_8 : decode cX11_cheeseDifference 8 = .ok (.getfield 33, 3) := by decide +kernel
theorem dX11_cheeseDifference_11 : decode cX11_cheeseDifference 11 = .ok (.getfield 132, 3) := by decide +kernel
theorem dX11_cheeseDifference_14 : decode cX11_cheeseDifference 14 = .ok (.iconst 2, 1) := by decide +kernel
theorem dX11_cheeseDifference_15 : decode cX11_cheeseDifference 15 = .ok (.invokevirtual 235, 3) := by decide +kernel
theorem dX11_cheeseDifference_18 : decode cX11_cheeseDifference 18 = .ok (.isub, 1) := by decide +kernel
theorem dX11_cheeseDifference_19 : decode cX11_cheeseDifference 19 = .ok (.aload_n 0, 1) := by decide +kernel
theorem dX11_cheeseDifference_20 : decode cX11_cheeseDifference 20 = .ok (.getfield 33, 3) := by decide +kernel
theorem dX11_cheeseDifference_23 : decode cX11_cheeseDifference 23 = .ok (.getfield 125, 3) := by decide +kernel
theorem dX11_cheeseDifference_26 : decode cX11_cheeseDifference 26 = .ok (.iconst 4, 1) := by decide +kernel
theorem dX11_cheeseDifference_27 : decode cX11_cheeseDifference 27 = .ok (.invokevirtual 238, 3) := by decide +kernel
theorem dX11_cheeseDifference_30 : decode cX11_cheeseDifference 30 = .ok (.isub, 1) := by decide +kernel
theorem dX11_cheeseDifference_31 : decode cX11_cheeseDifference 31 = .ok (.ireturn, 1) := by decide +kernel
theorem dX11_lifeErrors_0 : decode cX11_lifeErrors 0 = .ok (.aload_n 0, 1) := by decide +kernel
theorem dX11_lifeErrors_1 : decode cX11_lifeErrors 1 = .ok (.getfield 33, 3) := by decide +kernel
theorem dX11_lifeErrors_4 : decode cX11_lifeErrors 4 = .ok (.getfield 98, 3) := by decide +kernel
theorem dX11_lifeErrors_7 : decode cX11_lifeErrors 7 = .ok (.invokevirtual 239, 3) := by decide +kernel
theorem dX11_lifeErrors_10 : decode cX11_lifeErrors 10 = .ok (.ireturn, 1) := by decide +kernel
theorem dX11_distanceErrors_0 : decode cX11_distanceErrors 0 = .ok (.aload_n 0, 1) := by decide +kernel
theorem dX11_distanceErrors_1 : decode cX11_distanceErrors 1 = .ok (.getfield 33, 3) := by decide +kernel
theorem dX11_distanceErrors_4 : decode cX11_distanceErrors 4 = .ok (.getfield 118, 3) := by decide +kernel
theorem dX11_distanceErrors_7 : decode cX11_distanceErrors 7 = .ok (.invokevirtual 242, 3) := by decide +kernel
theorem dX11_distanceErrors_10 : decode cX11_distanceErrors 10 = .ok (.ireturn, 1) := by decide +kernel
theorem dX11_login_0 : decode cX11_login 0 = .ok (.aload_n 0, 1) := by decide +kernel
theorem dX11_login_1 : decode cX11_login 1 = .ok (.iload_n 1, 1) := by decide +kernel
theorem dX11_login_2 : decode cX11_login 2 = .ok (.invokevirtual 163, 3) := by decide +kernel
theorem dX11_login_5 : decode cX11_login 5 = .ok (.aload_n 0, 1) := by decide +kernel
theorem dX11_login_6 : decode cX11_login 6 = .ok (.iload_n 2, 1) := by decide +kernel
theorem dX11_login_7 : decode cX11_login 7 = .ok (.invokevirtual 198, 3) := by decide +kernel
theorem dX11_login_10 : decode cX11_login 10 = .ok (.aload_n 0, 1) := by decide +kernel
theorem dX11_login_11 : decode cX11_login 11 = .ok (.aload_n 0, 1) := by decide +kernel
theorem dX11_login_12 : decode cX11_login 12 = .ok (.getfield 33, 3) := by decide +kernel
theorem dX11_login_15 : decode cX11_login 15 = .ok (.iload_n 1, 1) := by decide +kernel
theorem dX11_login_16 : decode cX11_login 16 = .ok (.iload_n 2, 1) := by decide +kernel
theorem dX11_login_17 : decode cX11_login 17 = .ok (.invokevirtual 201, 3) := by decide +kernel
theorem dX11_login_20 : decode cX11_login 20 = .ok (.invokevirtual 249, 3) := by decide +kernel
theorem dX11_login_23 : decode cX11_login 23 = .ok (.aload_n 0, 1) := by decide +kernel
theorem dX11_login_24 : decode cX11_login 24 = .ok (.invokevirtual 95, 3) := by decide +kernel
theorem dX11_login_27 : decode cX11_login 27 = .ok (.aload_n 0, 1) := by decide +kernel
theorem dX11_login_28 : decode cX11_login 28 = .ok (.getfield 33, 3) := by decide +kernel
theorem dX11_login_31 : decode cX11_login 31 = .ok (.iload_n 1, 1) := by decide +kernel
theorem dX11_login_32 : decode cX11_login 32 = .ok (.iload_n 3, 1) := by decide +kernel
theorem dX11_login_33 : decode cX11_login 33 = .ok (.invokevirtual 252, 3) := by decide +kernel
theorem dX11_login_36 : decode cX11_login 36 = .ok (.ireturn, 1) := by decide +kernel
theorem dX11_refer_0 : decode cX11_refer 0 = .ok (.aload_n 0, 1) := by decide +kernel
theorem dX11_refer_1 : decode cX11_refer 1 = .ok (.iload_n 1, 1) := by decide +kernel
theorem dX11_refer_2 : decode cX11_refer 2 = .ok (.invokevirtual 184, 3) := by decide +kernel
theorem dX11_refer_5 : decode cX11_refer 5 = .ok (.istore_n 3, 1) := by decide +kernel
theorem dX11_refer_6 : decode cX11_refer 6 = .ok (.aload_n 0, 1) := by decide +kernel
theorem dX11_refer_7 : decode cX11_refer 7 = .ok (.iload_n 2, 1) := by decide +kernel
theorem dX11_refer_8 : decode cX11_refer 8 = .ok (.invokevirtual 147, 3) := by decide +kernel
theorem dX11_refer_11 : decode cX11_refer 11 = .ok (.aload_n 0, 1) := by decide +kernel
theorem dX11_refer_12 : decode cX11_refer 12 = .ok (.aload_n 0, 1) := by decide +kernel
theorem dX11_refer_13 : decode cX11_refer 13 = .ok (.getfield 33, 3) := by decide +kernel
theorem dX11_refer_16 : decode cX11_refer 16 = .ok (.iload_n 3, 1) := by decide +kernel
theorem dX11_refer_17 : decode cX11_refer 17 = .ok (.iload_n 2, 1) := by decide +kernel
theorem dX11_refer_18 : decode cX11_refer 18 = .ok (.invokevirtual 204, 3) := by decide +kernel
theorem dX11_refer_21 : decode cX11_refer 21 = .ok (.invokevirtual 249, 3) := by decide +kernel
theorem dX11_refer_24 : decode cX11_refer 24 = .ok (.aload_n 0, 1) := by decide +kernel
theorem dX11_refer_25 : decode cX11_refer 25 = .ok (.invokevirtual 95, 3) := by decide +kernel
theorem dX11_refer_28 : decode cX11_refer 28 = .ok (.aload_n 0, 1) := by decide +kernel
theorem dX11_refer_29 : decode cX11_refer 29 = .ok (.getfield 33, 3) := by decide +kernel
theorem dX11_refer_32 : decode cX11_refer 32 = .ok (.iload_n 3, 1) := by decide +kernel
theorem dX11_refer_33 : decode cX11_refer 33 = .ok (.iload_n 2, 1) := by decide +kernel
theorem dX11_refer_34 : decode cX11_refer 34 = .ok (.invokevirtual 256, 3) := by decide +kernel
theorem dX11_refer_37 : decode cX11_refer 37 = .ok (.ireturn, 1) := by decide +kernel
theorem dX11_request_0 : decode cX11_request 0 = .ok (.aload_n 0, 1) := by decide +kernel
theorem dX11_request_1 : decode cX11_request 1 = .ok (.iload_n 1, 1) := by decide +kernel
theorem dX11_request_2 : decode cX11_request 2 = .ok (.invokevirtual 184, 3) := by decide +kernel
theorem dX11_request_5 : decode cX11_request 5 = .ok (.istore_n 3, 1) := by decide +kernel
theorem dX11_request_6 : decode cX11_request 6 = .ok (.aload_n 0, 1) := by decide +kernel
theorem dX11_request_7 : decode cX11_request 7 = .ok (.iload_n 2, 1) := by decide +kernel
theorem dX11_request_8 : decode cX11_request 8 = .ok (.invokevirtual 170, 3) := by decide +kernel
theorem dX11_request_11 : decode cX11_request 11 = .ok (.aload_n 0, 1) := by decide +kernel
theorem dX11_request_12 : decode cX11_request 12 = .ok (.aload_n 0, 1) := by decide +kernel
theorem dX11_request_13 : decode cX11_request 13 = .ok (.getfield 33, 3) := by decide +kernel
theorem dX11_request_16 : decode cX11_request 16 = .ok (.iload_n 3, 1) := by decide +kernel
theorem dX11_request_17 : decode cX11_request 17 = .ok (.iload_n 2, 1) := by decide +kernel
theorem dX11_request_18 : decode cX11_request 18 = .ok (.invokevirtual 207, 3) := by decide +kernel
theorem dX11_request_21 : decode cX11_request 21 = .ok (.invokevirtual 249, 3) := by decide +kernel
theorem dX11_request_24 : decode cX11_request 24 = .ok (.aload_n 0, 1) := by decide +kernel
theorem dX11_request_25 : decode cX11_request 25 = .ok (.invokevirtual 95, 3) := by decide +kernel
theorem dX11_request_28 : decode cX11_request 28 = .ok (.aload_n 0, 1) := by decide +kernel
theorem dX11_request_29 : decode cX11_request 29 = .ok (.getfield 33, 3) := by decide +kernel
theorem dX11_request_32 : decode cX11_request 32 = .ok (.iload_n 3, 1) := by decide +kernel
theorem dX11_request_33 : decode cX11_request 33 = .ok (.iload_n 2, 1) := by decide +kernel
theorem dX11_request_34 : decode cX11_request 34 = .ok (.invokevirtual 259, 3) := by decide +kernel
theorem dX11_request_37 : decode cX11_request 37 = .ok (.ireturn, 1) := by decide +kernel
theorem dX11_renew_0 : decode cX11_renew 0 = .ok (.aload_n 0, 1) := by decide +kernel
theorem dX11_renew_1 : decode cX11_renew 1 = .ok (.iload_n 1, 1) := by decide +kernel
theorem dX11_renew_2 : decode cX11_renew 2 = .ok (.invokevirtual 184, 3) := by decide +kernel
theorem dX11_renew_5 : decode cX11_renew 5 = .ok (.istore_n 2, 1) := by decide +kernel
theorem dX11_renew_6 : decode cX11_renew 6 = .ok (.aload_n 0, 1) := by decide +kernel
theorem dX11_renew_7 : decode cX11_renew 7 = .ok (.aload_n 0, 1) := by decide +kernel
theorem dX11_renew_8 : decode cX11_renew 8 = .ok (.getfield 33, 3) := by decide +kernel
theorem dX11_renew_11 : decode cX11_renew 11 = .ok (.iload_n 2, 1) := by decide +kernel
theorem dX11_renew_12 : decode cX11_renew 12 = .ok (.invokevirtual 210, 3) := by decide +kernel
theorem dX11_renew_15 : decode cX11_renew 15 = .ok (.invokevirtual 249, 3) := by decide +kernel
theorem dX11_renew_18 : decode cX11_renew 18 = .ok (.aload_n 0, 1) := by decide +kernel
theorem dX11_renew_19 : decode cX11_renew 19 = .ok (.invokevirtual 95, 3) := by decide +kernel
theorem dX11_renew_22 : decode cX11_renew 22 = .ok (.aload_n 0, 1) := by decide +kernel
theorem dX11_renew_23 : decode cX11_renew 23 = .ok (.getfield 33, 3) := by decide +kernel
theorem dX11_renew_26 : decode cX11_renew 26 = .ok (.iload_n 2, 1) := by decide +kernel
theorem dX11_renew_27 : decode cX11_renew 27 = .ok (.invokevirtual 262, 3) := by decide +kernel
theorem dX11_renew_30 : decode cX11_renew 30 = .ok (.ireturn, 1) := by decide +kernel
theorem dX11_cheese_0 : decode cX11_cheese 0 = .ok (.aload_n 0, 1) := by decide +kernel
theorem dX11_cheese_1 : decode cX11_cheese 1 = .ok (.iload_n 1, 1) := by decide +kernel
theorem dX11_cheese_2 : decode cX11_cheese 2 = .ok (.invokevirtual 184, 3) := by decide +kernel
theorem dX11_cheese_5 : decode cX11_cheese 5 = .ok (.istore_n 2, 1) := by decide +kernel
theorem dX11_cheese_6 : decode cX11_cheese 6 = .ok (.aload_n 0, 1) := by decide +kernel
theorem dX11_cheese_7 : decode cX11_cheese 7 = .ok (.aload_n 0, 1) := by decide +kernel
theorem dX11_cheese_8 : decode cX11_cheese 8 = .ok (.getfield 33, 3) := by decide +kernel
theorem dX11_cheese_11 : decode cX11_cheese 11 = .ok (.iload_n 2, 1) := by decide +kernel
theorem dX11_cheese_12 : decode cX11_cheese 12 = .ok (.iconst 0, 1) := by decide +kernel
theorem dX11_cheese_13 : decode cX11_cheese 13 = .ok (.invokevirtual 213, 3) := by decide +kernel
theorem dX11_cheese_16 : decode cX11_cheese 16 = .ok (.invokevirtual 249, 3) := by decide +kernel
theorem dX11_cheese_19 : decode cX11_cheese 19 = .ok (.aload_n 0, 1) := by decide +kernel
theorem dX11_cheese_20 : decode cX11_cheese 20 = .ok (.invokevirtual 95, 3) := by decide +kernel
theorem dX11_cheese_23 : decode cX11_cheese 23 = .ok (.aload_n 0, 1) := by decide +kernel
theorem dX11_cheese_24 : decode cX11_cheese 24 = .ok (.getfield 33, 3) := by decide +kernel
theorem dX11_cheese_27 : decode cX11_cheese 27 = .ok (.iload_n 2, 1) := by decide +kernel
theorem dX11_cheese_28 : decode cX11_cheese 28 = .ok (.invokevirtual 265, 3) := by decide +kernel
theorem dX11_cheese_31 : decode cX11_cheese 31 = .ok (.ireturn, 1) := by decide +kernel
theorem dX11_drop_0 : decode cX11_drop 0 = .ok (.aload_n 0, 1) := by decide +kernel
theorem dX11_drop_1 : decode cX11_drop 1 = .ok (.iload_n 1, 1) := by decide +kernel
theorem dX11_drop_2 : decode cX11_drop 2 = .ok (.invokevirtual 184, 3) := by decide +kernel
theorem dX11_drop_5 : decode cX11_drop 5 = .ok (.istore_n 2, 1) := by decide +kernel
theorem dX11_drop_6 : decode cX11_drop 6 = .ok (.aload_n 0, 1) := by decide +kernel
theorem dX11_drop_7 : decode cX11_drop 7 = .ok (.invokevirtual 95, 3) := by decide +kernel
theorem dX11_drop_10 : decode cX11_drop 10 = .ok (.aload_n 0, 1) := by decide +kernel
theorem dX11_drop_11 : decode cX11_drop 11 = .ok (.getfield 33, 3) := by decide +kernel
theorem dX11_drop_14 : decode cX11_drop 14 = .ok (.getfield 98, 3) := by decide +kernel
theorem dX11_drop_17 : decode cX11_drop 17 = .ok (.iload_n 2, 1) := by decide +kernel
theorem dX11_drop_18 : decode cX11_drop 18 = .ok (.invokevirtual 268, 3) := by decide +kernel
theorem dX11_drop_21 : decode cX11_drop 21 = .ok (.aload_n 0, 1) := by decide +kernel
theorem dX11_drop_22 : decode cX11_drop 22 = .ok (.getfield 33, 3) := by decide +kernel
theorem dX11_drop_25 : decode cX11_drop 25 = .ok (.getfield 98, 3) := by decide +kernel
theorem dX11_drop_28 : decode cX11_drop 28 = .ok (.invokevirtual 102, 3) := by decide +kernel
theorem dX11_drop_31 : decode cX11_drop 31 = .ok (.ireturn, 1) := by decide +kernel
theorem dX11_sweep_0 : decode cX11_sweep 0 = .ok (.aload_n 0, 1) := by decide +kernel
theorem dX11_sweep_1 : decode cX11_sweep 1 = .ok (.invokevirtual 95, 3) := by decide +kernel
theorem dX11_sweep_4 : decode cX11_sweep 4 = .ok (.aload_n 0, 1) := by decide +kernel
theorem dX11_sweep_5 : decode cX11_sweep 5 = .ok (.getfield 33, 3) := by decide +kernel
theorem dX11_sweep_8 : decode cX11_sweep 8 = .ok (.getfield 98, 3) := by decide +kernel
theorem dX11_sweep_11 : decode cX11_sweep 11 = .ok (.aload_n 0, 1) := by decide +kernel
theorem dX11_sweep_12 : decode cX11_sweep 12 = .ok (.getfield 33, 3) := by decide +kernel
theorem dX11_sweep_15 : decode cX11_sweep 15 = .ok (.getfield 112, 3) := by decide +kernel
theorem dX11_sweep_18 : decode cX11_sweep 18 = .ok (.invokevirtual 271, 3) := by decide +kernel
theorem dX11_sweep_21 : decode cX11_sweep 21 = .ok (.ireturn, 1) := by decide +kernel
theorem dX11_setClock_0 : decode cX11_setClock 0 = .ok (.aload_n 0, 1) := by decide +kernel
theorem dX11_setClock_1 : decode cX11_setClock 1 = .ok (.iload_n 1, 1) := by decide +kernel
theorem dX11_setClock_2 : decode cX11_setClock 2 = .ok (.invokevirtual 163, 3) := by decide +kernel
theorem dX11_setClock_5 : decode cX11_setClock 5 = .ok (.iload_n 2, 1) := by decide +kernel
theorem dX11_setClock_6 : decode cX11_setClock 6 = .ok (.bipush (-9), 2) := by decide +kernel
theorem dX11_setClock_8 : decode cX11_setClock 8 = .ok (.if_icmp .lt 9, 3) := by decide +kernel
theorem dX11_setClock_11 : decode cX11_setClock 11 = .ok (.iload_n 2, 1) := by decide +kernel
theorem dX11_setClock_12 : decode cX11_setClock 12 = .ok (.bipush 9, 2) := by decide +kernel
theorem dX11_setClock_14 : decode cX11_setClock 14 = .ok (.if_icmp .le 14, 3) := by decide +kernel
theorem dX11_setClock_17 : decode cX11_setClock 17 = .ok (.new 88, 3) := by decide +kernel
theorem dX11_setClock_20 : decode cX11_setClock 20 = .ok (.dup, 1) := by decide +kernel
theorem dX11_setClock_21 : decode cX11_setClock 21 = .ok (.ldc_w 278, 3) := by decide +kernel
theorem dX11_setClock_24 : decode cX11_setClock 24 = .ok (.invokespecial 92, 3) := by decide +kernel
theorem dX11_setClock_27 : decode cX11_setClock 27 = .ok (.athrow, 1) := by decide +kernel
theorem dX11_setClock_28 : decode cX11_setClock 28 = .ok (.aload_n 0, 1) := by decide +kernel
theorem dX11_setClock_29 : decode cX11_setClock 29 = .ok (.invokevirtual 95, 3) := by decide +kernel
theorem dX11_setClock_32 : decode cX11_setClock 32 = .ok (.aload_n 0, 1) := by decide +kernel
theorem dX11_setClock_33 : decode cX11_setClock 33 = .ok (.getfield 33, 3) := by decide +kernel
theorem dX11_setClock_36 : decode cX11_setClock 36 = .ok (.getfield 125, 3) := by decide +kernel
theorem dX11_setClock_39 : decode cX11_setClock 39 = .ok (.iload_n 1, 1) := by decide +kernel
theorem dX11_setClock_40 : decode cX11_setClock 40 = .ok (.iconst 3, 1) := by decide +kernel
theorem dX11_setClock_41 : decode cX11_setClock 41 = .ok (.invokevirtual 166, 3) := by decide +kernel
theorem dX11_setClock_44 : decode cX11_setClock 44 = .ok (.istore_n 3, 1) := by decide +kernel
theorem dX11_setClock_45 : decode cX11_setClock 45 = .ok (.aload_n 0, 1) := by decide +kernel
theorem dX11_setClock_46 : decode cX11_setClock 46 = .ok (.getfield 33, 3) := by decide +kernel
theorem dX11_setClock_49 : decode cX11_setClock 49 = .ok (.getfield 125, 3) := by decide +kernel
theorem dX11_setClock_52 : decode cX11_setClock 52 = .ok (.iload_n 1, 1) := by decide +kernel
theorem dX11_setClock_53 : decode cX11_setClock 53 = .ok (.iconst 3, 1) := by decide +kernel
theorem dX11_setClock_54 : decode cX11_setClock 54 = .ok (.iload_n 2, 1) := by decide +kernel
theorem dX11_setClock_55 : decode cX11_setClock 55 = .ok (.invokevirtual 274, 3) := by decide +kernel
theorem dX11_setClock_58 : decode cX11_setClock 58 = .ok (.iload_n 3, 1) := by decide +kernel
theorem dX11_setClock_59 : decode cX11_setClock 59 = .ok (.ireturn, 1) := by decide +kernel
theorem dX11_pass_0 : decode cX11_pass 0 = .ok (.iload_n 1, 1) := by decide +kernel
theorem dX11_pass_1 : decode cX11_pass 1 = .ok (.iconst 1, 1) := by decide +kernel
theorem dX11_pass_2 : decode cX11_pass 2 = .ok (.if_icmp .lt 10, 3) := by decide +kernel
theorem dX11_pass_5 : decode cX11_pass 5 = .ok (.iload_n 1, 1) := by decide +kernel
theorem dX11_pass_6 : decode cX11_pass 6 = .ok (.sipush 999, 3) := by decide +kernel
theorem dX11_pass_9 : decode cX11_pass 9 = .ok (.if_icmp .le 13, 3) := by decide +kernel
theorem dX11_pass_12 : decode cX11_pass 12 = .ok (.new 88, 3) := by decide +kernel
theorem dX11_pass_15 : decode cX11_pass 15 = .ok (.dup, 1) := by decide +kernel
theorem dX11_pass_16 : decode cX11_pass 16 = .ok (.ldc 219, 2) := by decide +kernel
theorem dX11_pass_18 : decode cX11_pass 18 = .ok (.invokespecial 92, 3) := by decide +kernel
theorem dX11_pass_21 : decode cX11_pass 21 = .ok (.athrow, 1) := by decide +kernel
theorem dX11_pass_22 : decode cX11_pass 22 = .ok (.aload_n 0, 1) := by decide +kernel
theorem dX11_pass_23 : decode cX11_pass 23 = .ok (.invokevirtual 95, 3) := by decide +kernel
theorem dX11_pass_26 : decode cX11_pass 26 = .ok (.aload_n 0, 1) := by decide +kernel
theorem dX11_pass_27 : decode cX11_pass 27 = .ok (.invokevirtual 245, 3) := by decide +kernel
theorem dX11_pass_30 : decode cX11_pass 30 = .ok (.istore_n 2, 1) := by decide +kernel
theorem dX11_pass_31 : decode cX11_pass 31 = .ok (.aload_n 0, 1) := by decide +kernel
theorem dX11_pass_32 : decode cX11_pass 32 = .ok (.getfield 33, 3) := by decide +kernel
theorem dX11_pass_35 : decode cX11_pass 35 = .ok (.iload_n 1, 1) := by decide +kernel
theorem dX11_pass_36 : decode cX11_pass 36 = .ok (.invokevirtual 280, 3) := by decide +kernel
theorem dX11_pass_39 : decode cX11_pass 39 = .ok (.iload_n 2, 1) := by decide +kernel
theorem dX11_pass_40 : decode cX11_pass 40 = .ok (.aload_n 0, 1) := by decide +kernel
theorem dX11_pass_41 : decode cX11_pass 41 = .ok (.invokevirtual 245, 3) := by decide +kernel
theorem dX11_pass_44 : decode cX11_pass 44 = .ok (.isub, 1) := by decide +kernel
theorem dX11_pass_45 : decode cX11_pass 45 = .ok (.ireturn, 1) := by decide +kernel
theorem dX11_remember_0 : decode cX11_remember 0 = .ok (.aload_n 0, 1) := by decide +kernel
theorem dX11_remember_1 : decode cX11_remember 1 = .ok (.getfield 44, 3) := by decide +kernel
theorem dX11_remember_4 : decode cX11_remember 4 = .ok (.aload_n 0, 1) := by decide +kernel
theorem dX11_remember_5 : decode cX11_remember 5 = .ok (.getfield 321, 3) := by decide +kernel
theorem dX11_remember_8 : decode cX11_remember 8 = .ok (.aload_n 0, 1) := by decide +kernel
theorem dX11_remember_9 : decode cX11_remember 9 = .ok (.getfield 33, 3) := by decide +kernel
theorem dX11_remember_12 : decode cX11_remember 12 = .ok (.invokevirtual 303, 3) := by decide +kernel
theorem dX11_remember_15 : decode cX11_remember 15 = .ok (.aload_n 0, 1) := by decide +kernel
theorem dX11_remember_16 : decode cX11_remember 16 = .ok (.aload_n 0, 1) := by decide +kernel
theorem dX11_remember_17 : decode cX11_remember 17 = .ok (.getfield 321, 3) := by decide +kernel
theorem dX11_remember_20 : decode cX11_remember 20 = .ok (.iconst 1, 1) := by decide +kernel
theorem dX11_remember_21 : decode cX11_remember 21 = .ok (.iadd, 1) := by decide +kernel
theorem dX11_remember_22 : decode cX11_remember 22 = .ok (.bipush 8, 2) := by decide +kernel
theorem dX11_remember_24 : decode cX11_remember 24 = .ok (.irem, 1) := by decide +kernel
theorem dX11_remember_25 : decode cX11_remember 25 = .ok (.putfield 321, 3) := by decide +kernel
theorem dX11_remember_28 : decode cX11_remember 28 = .ok (.aload_n 0, 1) := by decide +kernel
theorem dX11_remember_29 : decode cX11_remember 29 = .ok (.bipush 8, 2) := by decide +kernel
theorem dX11_remember_31 : decode cX11_remember 31 = .ok (.aload_n 0, 1) := by decide +kernel
theorem dX11_remember_32 : decode cX11_remember 32 = .ok (.getfield 316, 3) := by decide +kernel
theorem dX11_remember_35 : decode cX11_remember 35 = .ok (.iconst 1, 1) := by decide +kernel
theorem dX11_remember_36 : decode cX11_remember 36 = .ok (.iadd, 1) := by decide +kernel
theorem dX11_remember_37 : decode cX11_remember 37 = .ok (.invokestatic 324, 3) := by decide +kernel
theorem dX11_remember_40 : decode cX11_remember 40 = .ok (.putfield 316, 3) := by decide +kernel
theorem dX11_remember_43 : decode cX11_remember 43 = .ok (.return_, 1) := by decide +kernel
theorem dX11_rowOf_0 : decode cX11_rowOf 0 = .ok (.aload_n 0, 1) := by decide +kernel
theorem dX11_rowOf_1 : decode cX11_rowOf 1 = .ok (.getfield 33, 3) := by decide +kernel
theorem dX11_rowOf_4 : decode cX11_rowOf 4 = .ok (.getfield 98, 3) := by decide +kernel
theorem dX11_rowOf_7 : decode cX11_rowOf 7 = .ok (.iconst 0, 1) := by decide +kernel
theorem dX11_rowOf_8 : decode cX11_rowOf 8 = .ok (.iload_n 1, 1) := by decide +kernel
theorem dX11_rowOf_9 : decode cX11_rowOf 9 = .ok (.invokevirtual 327, 3) := by decide +kernel
theorem dX11_rowOf_12 : decode cX11_rowOf 12 = .ok (.istore_n 2, 1) := by decide +kernel
theorem dX11_rowOf_13 : decode cX11_rowOf 13 = .ok (.iload_n 2, 1) := by decide +kernel
theorem dX11_rowOf_14 : decode cX11_rowOf 14 = .ok (.iconst (-1), 1) := by decide +kernel
theorem dX11_rowOf_15 : decode cX11_rowOf 15 = .ok (.if_icmp .ne 14, 3) := by decide +kernel
theorem dX11_rowOf_18 : decode cX11_rowOf 18 = .ok (.new 292, 3) := by decide +kernel
theorem dX11_rowOf_21 : decode cX11_rowOf 21 = .ok (.dup, 1) := by decide +kernel
theorem dX11_rowOf_22 : decode cX11_rowOf 22 = .ok (.ldc_w 330, 3) := by decide +kernel
theorem dX11_rowOf_25 : decode cX11_rowOf 25 = .ok (.invokespecial 296, 3) := by decide +kernel
theorem dX11_rowOf_28 : decode cX11_rowOf 28 = .ok (.athrow, 1) := by decide +kernel
theorem dX11_rowOf_29 : decode cX11_rowOf 29 = .ok (.iload_n 2, 1) := by decide +kernel
theorem dX11_rowOf_30 : decode cX11_rowOf 30 = .ok (.ireturn, 1) := by decide +kernel
theorem dX11_checkRealm_0 : decode cX11_checkRealm 0 = .ok (.aload_n 0, 1) := by decide +kernel
theorem dX11_checkRealm_1 : decode cX11_checkRealm 1 = .ok (.getfield 33, 3) := by decide +kernel
theorem dX11_checkRealm_4 : decode cX11_checkRealm 4 = .ok (.getfield 118, 3) := by decide +kernel
theorem dX11_checkRealm_7 : decode cX11_checkRealm 7 = .ok (.iload_n 1, 1) := by decide +kernel
theorem dX11_checkRealm_8 : decode cX11_checkRealm 8 = .ok (.invokevirtual 332, 3) := by decide +kernel
theorem dX11_checkRealm_11 : decode cX11_checkRealm 11 = .ok (.ifCond .ne 14, 3) := by decide +kernel
theorem dX11_checkRealm_14 : decode cX11_checkRealm 14 = .ok (.new 178, 3) := by decide +kernel
theorem dX11_checkRealm_17 : decode cX11_checkRealm 17 = .ok (.dup, 1) := by decide +kernel
theorem dX11_checkRealm_18 : decode cX11_checkRealm 18 = .ok (.ldc_w 333, 3) := by decide +kernel
theorem dX11_checkRealm_21 : decode cX11_checkRealm 21 = .ok (.invokespecial 182, 3) := by decide +kernel
theorem dX11_checkRealm_24 : decode cX11_checkRealm 24 = .ok (.athrow, 1) := by decide +kernel
theorem dX11_checkRealm_25 : decode cX11_checkRealm 25 = .ok (.return_, 1) := by decide +kernel
theorem dX11_checkUser_0 : decode cX11_checkUser 0 = .ok (.aload_n 0, 1) := by decide +kernel
theorem dX11_checkUser_1 : decode cX11_checkUser 1 = .ok (.getfield 33, 3) := by decide +kernel
theorem dX11_checkUser_4 : decode cX11_checkUser 4 = .ok (.getfield 125, 3) := by decide +kernel
theorem dX11_checkUser_7 : decode cX11_checkUser 7 = .ok (.iload_n 1, 1) := by decide +kernel
theorem dX11_checkUser_8 : decode cX11_checkUser 8 = .ok (.invokevirtual 335, 3) := by decide +kernel
theorem dX11_checkUser_11 : decode cX11_checkUser 11 = .ok (.ifCond .ne 14, 3) := by decide +kernel
theorem dX11_checkUser_14 : decode cX11_checkUser 14 = .ok (.new 178, 3) := by decide +kernel
theorem dX11_checkUser_17 : decode cX11_checkUser 17 = .ok (.dup, 1) := by decide +kernel
theorem dX11_checkUser_18 : decode cX11_checkUser 18 = .ok (.ldc_w 336, 3) := by decide +kernel
theorem dX11_checkUser_21 : decode cX11_checkUser 21 = .ok (.invokespecial 182, 3) := by decide +kernel
theorem dX11_checkUser_24 : decode cX11_checkUser 24 = .ok (.athrow, 1) := by decide +kernel
theorem dX11_checkUser_25 : decode cX11_checkUser 25 = .ok (.return_, 1) := by decide +kernel
theorem dX11_checkService_0 : decode cX11_checkService 0 = .ok (.aload_n 0, 1) := by decide +kernel
theorem dX11_checkService_1 : decode cX11_checkService 1 = .ok (.getfield 33, 3) := by decide +kernel
theorem dX11_checkService_4 : decode cX11_checkService 4 = .ok (.getfield 132, 3) := by decide +kernel
theorem dX11_checkService_7 : decode cX11_checkService 7 = .ok (.iload_n 1, 1) := by decide +kernel
theorem dX11_checkService_8 : decode cX11_checkService 8 = .ok (.invokevirtual 338, 3) := by decide +kernel
theorem dX11_checkService_11 : decode cX11_checkService 11 = .ok (.ifCond .ne 14, 3) := by decide +kernel
theorem dX11_checkService_14 : decode cX11_checkService 14 = .ok (.new 178, 3) := by decide +kernel
theorem dX11_checkService_17 : decode cX11_checkService 17 = .ok (.dup, 1) := by decide +kernel
theorem dX11_checkService_18 : decode cX11_checkService 18 = .ok (.ldc_w 339, 3) := by decide +kernel
theorem dX11_checkService_21 : decode cX11_checkService 21 = .ok (.invokespecial 182, 3) := by decide +kernel
theorem dX11_checkService_24 : decode cX11_checkService 24 = .ok (.athrow, 1) := by decide +kernel
theorem dX11_checkService_25 : decode cX11_checkService 25 = .ok (.return_, 1) := by decide +kernel
theorem dX11_checkPassword_0 : decode cX11_checkPassword 0 = .ok (.iload_n 1, 1) := by decide +kernel
theorem dX11_checkPassword_1 : decode cX11_checkPassword 1 = .ok (.ifCond .lt 10, 3) := by decide +kernel
theorem dX11_checkPassword_4 : decode cX11_checkPassword 4 = .ok (.iload_n 1, 1) := by decide +kernel
theorem dX11_checkPassword_5 : decode cX11_checkPassword 5 = .ok (.sipush 9999, 3) := by decide +kernel
theorem dX11_checkPassword_8 : decode cX11_checkPassword 8 = .ok (.if_icmp .le 14, 3) := by decide +kernel
theorem dX11_checkPassword_11 : decode cX11_checkPassword 11 = .ok (.new 88, 3) := by decide +kernel
theorem dX11_checkPassword_14 : decode cX11_checkPassword 14 = .ok (.dup, 1) := by decide +kernel
theorem dX11_checkPassword_15 : decode cX11_checkPassword 15 = .ok (.ldc_w 343, 3) := by decide +kernel
theorem dX11_checkPassword_18 : decode cX11_checkPassword 18 = .ok (.invokespecial 92, 3) := by decide +kernel
theorem dX11_checkPassword_21 : decode cX11_checkPassword 21 = .ok (.athrow, 1) := by decide +kernel
theorem dX11_checkPassword_22 : decode cX11_checkPassword 22 = .ok (.return_, 1) := by decide +kernel
theorem dX11_checkAllowed_0 : decode cX11_checkAllowed 0 = .ok (.iload_n 1, 1) := by decide +kernel
theorem dX11_checkAllowed_1 : decode cX11_checkAllowed 1 = .ok (.ifCond .eq 14, 3) := by decide +kernel
theorem dX11_checkAllowed_4 : decode cX11_checkAllowed 4 = .ok (.new 79, 3) := by decide +kernel
theorem dX11_checkAllowed_7 : decode cX11_checkAllowed 7 = .ok (.dup, 1) := by decide +kernel
theorem dX11_checkAllowed_8 : decode cX11_checkAllowed 8 = .ok (.ldc_w 345, 3) := by decide +kernel
theorem dX11_checkAllowed_11 : decode cX11_checkAllowed 11 = .ok (.invokespecial 83, 3) := by decide +kernel
theorem dX11_checkAllowed_14 : decode cX11_checkAllowed 14 = .ok (.athrow, 1) := by decide +kernel
theorem dX11_checkAllowed_15 : decode cX11_checkAllowed 15 = .ok (.return_, 1) := by decide +kernel
