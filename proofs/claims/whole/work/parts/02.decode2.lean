theorem dX12_init_0 : decode cX12_init 0 = .ok (.aload_n 0, 1) := by decide +kernel
theorem dX12_init_1 : decode cX12_init 1 = .ok (.invokespecial 1, 3) := by decide +kernel
theorem dX12_init_4 : decode cX12_init 4 = .ok (.aload_n 0, 1) := by decide +kernel
theorem dX12_init_5 : decode cX12_init 5 = .ok (.sipush 463, 3) := by decide +kernel
theorem dX12_init_8 : decode cX12_init 8 = .ok (.newarray .int, 2) := by decide +kernel
theorem dX12_init_10 : decode cX12_init 10 = .ok (.putfield 7, 3) := by decide +kernel
theorem dX12_init_13 : decode cX12_init 13 = .ok (.aload_n 0, 1) := by decide +kernel
theorem dX12_init_14 : decode cX12_init 14 = .ok (.sipush 463, 3) := by decide +kernel
theorem dX12_init_17 : decode cX12_init 17 = .ok (.newarray .int, 2) := by decide +kernel
theorem dX12_init_19 : decode cX12_init 19 = .ok (.putfield 13, 3) := by decide +kernel
theorem dX12_init_22 : decode cX12_init 22 = .ok (.aload_n 0, 1) := by decide +kernel
theorem dX12_init_23 : decode cX12_init 23 = .ok (.sipush 463, 3) := by decide +kernel
theorem dX12_init_26 : decode cX12_init 26 = .ok (.newarray .int, 2) := by decide +kernel
theorem dX12_init_28 : decode cX12_init 28 = .ok (.putfield 16, 3) := by decide +kernel
theorem dX12_init_31 : decode cX12_init 31 = .ok (.aload_n 0, 1) := by decide +kernel
theorem dX12_init_32 : decode cX12_init 32 = .ok (.sipush 3704, 3) := by decide +kernel
theorem dX12_init_35 : decode cX12_init 35 = .ok (.newarray .int, 2) := by decide +kernel
theorem dX12_init_37 : decode cX12_init 37 = .ok (.putfield 19, 3) := by decide +kernel
theorem dX12_init_40 : decode cX12_init 40 = .ok (.aload_n 0, 1) := by decide +kernel
theorem dX12_init_41 : decode cX12_init 41 = .ok (.sipush 926, 3) := by decide +kernel
theorem dX12_init_44 : decode cX12_init 44 = .ok (.newarray .int, 2) := by decide +kernel
theorem dX12_init_46 : decode cX12_init 46 = .ok (.putfield 22, 3) := by decide +kernel
theorem dX12_init_49 : decode cX12_init 49 = .ok (.aload_n 0, 1) := by decide +kernel
theorem dX12_init_50 : decode cX12_init 50 = .ok (.iconst 2, 1) := by decide +kernel
theorem dX12_init_51 : decode cX12_init 51 = .ok (.newarray .boolean, 2) := by decide +kernel
theorem dX12_init_53 : decode cX12_init 53 = .ok (.putfield 25, 3) := by decide +kernel
theorem dX12_init_56 : decode cX12_init 56 = .ok (.aload_n 0, 1) := by decide +kernel
theorem dX12_init_57 : decode cX12_init 57 = .ok (.iconst 5, 1) := by decide +kernel
theorem dX12_init_58 : decode cX12_init 58 = .ok (.newarray .int, 2) := by decide +kernel
theorem dX12_init_60 : decode cX12_init 60 = .ok (.putfield 29, 3) := by decide +kernel
theorem dX12_init_63 : decode cX12_init 63 = .ok (.aload_n 0, 1) := by decide +kernel
theorem dX12_init_64 : decode cX12_init 64 = .ok (.sipush 600, 3) := by decide +kernel
theorem dX12_init_67 : decode cX12_init 67 = .ok (.newarray .int, 2) := by decide +kernel
theorem dX12_init_69 : decode cX12_init 69 = .ok (.putfield 32, 3) := by decide +kernel
theorem dX12_init_72 : decode cX12_init 72 = .ok (.aload_n 0, 1) := by decide +kernel
theorem dX12_init_73 : decode cX12_init 73 = .ok (.iconst (-1), 1) := by decide +kernel
theorem dX12_init_74 : decode cX12_init 74 = .ok (.putfield 35, 3) := by decide +kernel
theorem dX12_init_77 : decode cX12_init 77 = .ok (.aload_n 0, 1) := by decide +kernel
theorem dX12_init_78 : decode cX12_init 78 = .ok (.bipush 25, 2) := by decide +kernel
theorem dX12_init_80 : decode cX12_init 80 = .ok (.newarray .int, 2) := by decide +kernel
theorem dX12_init_82 : decode cX12_init 82 = .ok (.putfield 39, 3) := by decide +kernel
theorem dX12_init_85 : decode cX12_init 85 = .ok (.aload_n 0, 1) := by decide +kernel
theorem dX12_init_86 : decode cX12_init 86 = .ok (.bipush 60, 2) := by decide +kernel
theorem dX12_init_88 : decode cX12_init 88 = .ok (.newarray .byte, 2) := by decide +kernel
theorem dX12_init_90 : decode cX12_init 90 = .ok (.putfield 42, 3) := by decide +kernel
theorem dX12_init_93 : decode cX12_init 93 = .ok (.aload_n 0, 1) := by decide +kernel
theorem dX12_init_94 : decode cX12_init 94 = .ok (.ldc 46, 2) := by decide +kernel
theorem dX12_init_96 : decode cX12_init 96 = .ok (.invokevirtual 48, 3) := by decide +kernel
theorem dX12_init_99 : decode cX12_init 99 = .ok (.aload_n 0, 1) := by decide +kernel
theorem dX12_init_100 : decode cX12_init 100 = .ok (.invokevirtual 52, 3) := by decide +kernel
theorem dX12_init_103 : decode cX12_init 103 = .ok (.aload_n 0, 1) := by decide +kernel
theorem dX12_init_104 : decode cX12_init 104 = .ok (.iconst 0, 1) := by decide +kernel
theorem dX12_init_105 : decode cX12_init 105 = .ok (.putfield 55, 3) := by decide +kernel
theorem dX12_init_108 : decode cX12_init 108 = .ok (.aload_n 0, 1) := by decide +kernel
theorem dX12_init_109 : decode cX12_init 109 = .ok (.getfield 13, 3) := by decide +kernel
theorem dX12_init_112 : decode cX12_init 112 = .ok (.iconst 0, 1) := by decide +kernel
theorem dX12_init_113 : decode cX12_init 113 = .ok (.aload_n 0, 1) := by decide +kernel
theorem dX12_init_114 : decode cX12_init 114 = .ok (.getfield 7, 3) := by decide +kernel
theorem dX12_init_117 : decode cX12_init 117 = .ok (.iconst 0, 1) := by decide +kernel
theorem dX12_init_118 : decode cX12_init 118 = .ok (.invokestatic 58, 3) := by decide +kernel
theorem dX12_init_121 : decode cX12_init 121 = .ok (.return_, 1) := by decide +kernel
theorem dX12_layInput_0 : decode cX12_layInput 0 = .ok (.iconst 0, 1) := by decide +kernel
theorem dX12_layInput_1 : decode cX12_layInput 1 = .ok (.istore_n 2, 1) := by decide +kernel
theorem dX12_layInput_2 : decode cX12_layInput 2 = .ok (.iload_n 2, 1) := by decide +kernel
theorem dX12_layInput_3 : decode cX12_layInput 3 = .ok (.aload_n 1, 1) := by decide +kernel
theorem dX12_layInput_4 : decode cX12_layInput 4 = .ok (.invokevirtual 62, 3) := by decide +kernel
theorem dX12_layInput_7 : decode cX12_layInput 7 = .ok (.if_icmp .ge 20, 3) := by decide +kernel
theorem dX12_layInput_10 : decode cX12_layInput 10 = .ok (.aload_n 0, 1) := by decide +kernel
theorem dX12_layInput_11 : decode cX12_layInput 11 = .ok (.getfield 32, 3) := by decide +kernel
theorem dX12_layInput_14 : decode cX12_layInput 14 = .ok (.iload_n 2, 1) := by decide +kernel
theorem dX12_layInput_15 : decode cX12_layInput 15 = .ok (.aload_n 1, 1) := by decide +kernel
theorem dX12_layInput_16 : decode cX12_layInput 16 = .ok (.iload_n 2, 1) := by decide +kernel
theorem dX12_layInput_17 : decode cX12_layInput 17 = .ok (.invokevirtual 68, 3) := by decide +kernel
theorem dX12_layInput_20 : decode cX12_layInput 20 = .ok (.iastore, 1) := by decide +kernel
theorem dX12_layInput_21 : decode cX12_layInput 21 = .ok (.iinc 2 1, 3) := by decide +kernel
theorem dX12_layInput_24 : decode cX12_layInput 24 = .ok (.goto (-22), 3) := by decide +kernel
theorem dX12_layInput_27 : decode cX12_layInput 27 = .ok (.aload_n 0, 1) := by decide +kernel
theorem dX12_layInput_28 : decode cX12_layInput 28 = .ok (.aload_n 1, 1) := by decide +kernel
theorem dX12_layInput_29 : decode cX12_layInput 29 = .ok (.invokevirtual 62, 3) := by decide +kernel
theorem dX12_layInput_32 : decode cX12_layInput 32 = .ok (.putfield 55, 3) := by decide +kernel
theorem dX12_layInput_35 : decode cX12_layInput 35 = .ok (.return_, 1) := by decide +kernel
theorem dX12_thrown_0 : decode cX12_thrown 0 = .ok (.aload_n 0, 1) := by decide +kernel
theorem dX12_thrown_1 : decode cX12_thrown 1 = .ok (.getfield 72, 3) := by decide +kernel
theorem dX12_thrown_4 : decode cX12_thrown 4 = .ok (.ireturn, 1) := by decide +kernel
theorem dX12_refuses_0 : decode cX12_refuses 0 = .ok (.iload_n 1, 1) := by decide +kernel
theorem dX12_refuses_1 : decode cX12_refuses 1 = .ok (.ifCond .eq 15, 3) := by decide +kernel
theorem dX12_refuses_4 : decode cX12_refuses 4 = .ok (.aload_n 0, 1) := by decide +kernel
theorem dX12_refuses_5 : decode cX12_refuses 5 = .ok (.getfield 72, 3) := by decide +kernel
theorem dX12_refuses_8 : decode cX12_refuses 8 = .ok (.ifCond .ne 8, 3) := by decide +kernel
theorem dX12_refuses_11 : decode cX12_refuses 11 = .ok (.aload_n 0, 1) := by decide +kernel
theorem dX12_refuses_12 : decode cX12_refuses 12 = .ok (.iload_n 2, 1) := by decide +kernel
theorem dX12_refuses_13 : decode cX12_refuses 13 = .ok (.putfield 72, 3) := by decide +kernel
theorem dX12_refuses_16 : decode cX12_refuses 16 = .ok (.aload_n 0, 1) := by decide +kernel
theorem dX12_refuses_17 : decode cX12_refuses 17 = .ok (.getfield 72, 3) := by decide +kernel
theorem dX12_refuses_20 : decode cX12_refuses 20 = .ok (.ifCond .eq 7, 3) := by decide +kernel
theorem dX12_refuses_23 : decode cX12_refuses 23 = .ok (.iconst 1, 1) := by decide +kernel
theorem dX12_refuses_24 : decode cX12_refuses 24 = .ok (.goto 4, 3) := by decide +kernel
theorem dX12_refuses_27 : decode cX12_refuses 27 = .ok (.iconst 0, 1) := by decide +kernel
theorem dX12_refuses_28 : decode cX12_refuses 28 = .ok (.ireturn, 1) := by decide +kernel
theorem dX12_isBetween_0 : decode cX12_isBetween 0 = .ok (.iload_n 0, 1) := by decide +kernel
theorem dX12_isBetween_1 : decode cX12_isBetween 1 = .ok (.iload_n 1, 1) := by decide +kernel
theorem dX12_isBetween_2 : decode cX12_isBetween 2 = .ok (.if_icmp .lt 12, 3) := by decide +kernel
theorem dX12_isBetween_5 : decode cX12_isBetween 5 = .ok (.iload_n 0, 1) := by decide +kernel
theorem dX12_isBetween_6 : decode cX12_isBetween 6 = .ok (.iload_n 2, 1) := by decide +kernel
theorem dX12_isBetween_7 : decode cX12_isBetween 7 = .ok (.if_icmp .gt 7, 3) := by decide +kernel
theorem dX12_isBetween_10 : decode cX12_isBetween 10 = .ok (.iconst 1, 1) := by decide +kernel
theorem dX12_isBetween_11 : decode cX12_isBetween 11 = .ok (.goto 4, 3) := by decide +kernel
theorem dX12_isBetween_14 : decode cX12_isBetween 14 = .ok (.iconst 0, 1) := by decide +kernel
theorem dX12_isBetween_15 : decode cX12_isBetween 15 = .ok (.ireturn, 1) := by decide +kernel
theorem dX12_copyRow_0 : decode cX12_copyRow 0 = .ok (.iconst 0, 1) := by decide +kernel
theorem dX12_copyRow_1 : decode cX12_copyRow 1 = .ok (.istore 4, 2) := by decide +kernel
theorem dX12_copyRow_3 : decode cX12_copyRow 3 = .ok (.iload 4, 2) := by decide +kernel
theorem dX12_copyRow_5 : decode cX12_copyRow 5 = .ok (.sipush 463, 3) := by decide +kernel
theorem dX12_copyRow_8 : decode cX12_copyRow 8 = .ok (.if_icmp .ge 21, 3) := by decide +kernel
theorem dX12_copyRow_11 : decode cX12_copyRow 11 = .ok (.aload_n 2, 1) := by decide +kernel
theorem dX12_copyRow_12 : decode cX12_copyRow 12 = .ok (.iload_n 3, 1) := by decide +kernel
theorem dX12_copyRow_13 : decode cX12_copyRow 13 = .ok (.iload 4, 2) := by decide +kernel
theorem dX12_copyRow_15 : decode cX12_copyRow 15 = .ok (.iadd, 1) := by decide +kernel
theorem dX12_copyRow_16 : decode cX12_copyRow 16 = .ok (.aload_n 0, 1) := by decide +kernel
theorem dX12_copyRow_17 : decode cX12_copyRow 17 = .ok (.iload_n 1, 1) := by decide +kernel
theorem dX12_copyRow_18 : decode cX12_copyRow 18 = .ok (.iload 4, 2) := by decide +kernel
theorem dX12_copyRow_20 : decode cX12_copyRow 20 = .ok (.iadd, 1) := by decide +kernel
theorem dX12_copyRow_21 : decode cX12_copyRow 21 = .ok (.iaload, 1) := by decide +kernel
theorem dX12_copyRow_22 : decode cX12_copyRow 22 = .ok (.iastore, 1) := by decide +kernel
theorem dX12_copyRow_23 : decode cX12_copyRow 23 = .ok (.iinc 4 1, 3) := by decide +kernel
theorem dX12_copyRow_26 : decode cX12_copyRow 26 = .ok (.goto (-23), 3) := by decide +kernel
theorem dX12_copyRow_29 : decode cX12_copyRow 29 = .ok (.return_, 1) := by decide +kernel
theorem dX12_lesser_0 : decode cX12_lesser 0 = .ok (.iload_n 0, 1) := by decide +kernel
theorem dX12_lesser_1 : decode cX12_lesser 1 = .ok (.iload_n 1, 1) := by decide +kernel
theorem dX12_lesser_2 : decode cX12_lesser 2 = .ok (.if_icmp .ge 7, 3) := by decide +kernel
theorem dX12_lesser_5 : decode cX12_lesser 5 = .ok (.iload_n 0, 1) := by decide +kernel
theorem dX12_lesser_6 : decode cX12_lesser 6 = .ok (.goto 4, 3) := by decide +kernel
theorem dX12_lesser_9 : decode cX12_lesser 9 = .ok (.iload_n 1, 1) := by decide +kernel
theorem dX12_lesser_10 : decode cX12_lesser 10 = .ok (.ireturn, 1) := by decide +kernel
theorem dX12_greater_0 : decode cX12_greater 0 = .ok (.iload_n 0, 1) := by decide +kernel
theorem dX12_greater_1 : decode cX12_greater 1 = .ok (.iload_n 1, 1) := by decide +kernel
theorem dX12_greater_2 : decode cX12_greater 2 = .ok (.if_icmp .le 7, 3) := by decide +kernel
theorem dX12_greater_5 : decode cX12_greater 5 = .ok (.iload_n 0, 1) := by decide +kernel
theorem dX12_greater_6 : decode cX12_greater 6 = .ok (.goto 4, 3) := by decide +kernel
theorem dX12_greater_9 : decode cX12_greater 9 = .ok (.iload_n 1, 1) := by decide +kernel
theorem dX12_greater_10 : decode cX12_greater 10 = .ok (.ireturn, 1) := by decide +kernel
theorem dX12_ofRealm_0 : decode cX12_ofRealm 0 = .ok (.bipush 10, 2) := by decide +kernel
theorem dX12_ofRealm_2 : decode cX12_ofRealm 2 = .ok (.iconst 4, 1) := by decide +kernel
theorem dX12_ofRealm_3 : decode cX12_ofRealm 3 = .ok (.iload_n 0, 1) := by decide +kernel
theorem dX12_ofRealm_4 : decode cX12_ofRealm 4 = .ok (.imul, 1) := by decide +kernel
theorem dX12_ofRealm_5 : decode cX12_ofRealm 5 = .ok (.iadd, 1) := by decide +kernel
theorem dX12_ofRealm_6 : decode cX12_ofRealm 6 = .ok (.ireturn, 1) := by decide +kernel
theorem dX12_ofUser_0 : decode cX12_ofUser 0 = .ok (.bipush 55, 2) := by decide +kernel
theorem dX12_ofUser_2 : decode cX12_ofUser 2 = .ok (.iconst 5, 1) := by decide +kernel
theorem dX12_ofUser_3 : decode cX12_ofUser 3 = .ok (.iload_n 0, 1) := by decide +kernel
theorem dX12_ofUser_4 : decode cX12_ofUser 4 = .ok (.imul, 1) := by decide +kernel
theorem dX12_ofUser_5 : decode cX12_ofUser 5 = .ok (.iadd, 1) := by decide +kernel
theorem dX12_ofUser_6 : decode cX12_ofUser 6 = .ok (.ireturn, 1) := by decide +kernel
theorem dX12_ofService_0 : decode cX12_ofService 0 = .ok (.bipush 85, 2) := by decide +kernel
theorem dX12_ofService_2 : decode cX12_ofService 2 = .ok (.iconst 3, 1) := by decide +kernel
theorem dX12_ofService_3 : decode cX12_ofService 3 = .ok (.iload_n 0, 1) := by decide +kernel
theorem dX12_ofService_4 : decode cX12_ofService 4 = .ok (.imul, 1) := by decide +kernel
theorem dX12_ofService_5 : decode cX12_ofService 5 = .ok (.iadd, 1) := by decide +kernel
theorem dX12_ofService_6 : decode cX12_ofService 6 = .ok (.ireturn, 1) := by decide +kernel
theorem dX12_ofTicket_0 : decode cX12_ofTicket 0 = .ok (.bipush 103, 2) := by decide +kernel
theorem dX12_ofTicket_2 : decode cX12_ofTicket 2 = .ok (.bipush 10, 2) := by decide +kernel
theorem dX12_ofTicket_4 : decode cX12_ofTicket 4 = .ok (.iload_n 0, 1) := by decide +kernel
theorem dX12_ofTicket_5 : decode cX12_ofTicket 5 = .ok (.imul, 1) := by decide +kernel
theorem dX12_ofTicket_6 : decode cX12_ofTicket 6 = .ok (.iadd, 1) := by decide +kernel
theorem dX12_ofTicket_7 : decode cX12_ofTicket 7 = .ok (.ireturn, 1) := by decide +kernel
theorem dX12_ofUse_0 : decode cX12_ofUse 0 = .ok (.sipush 343, 3) := by decide +kernel
theorem dX12_ofUse_3 : decode cX12_ofUse 3 = .ok (.iconst 4, 1) := by decide +kernel
theorem dX12_ofUse_4 : decode cX12_ofUse 4 = .ok (.iload_n 0, 1) := by decide +kernel
theorem dX12_ofUse_5 : decode cX12_ofUse 5 = .ok (.imul, 1) := by decide +kernel
theorem dX12_ofUse_6 : decode cX12_ofUse 6 = .ok (.iadd, 1) := by decide +kernel
theorem dX12_ofUse_7 : decode cX12_ofUse 7 = .ok (.ireturn, 1) := by decide +kernel
theorem dX12_trusted_0 : decode cX12_trusted 0 = .ok (.aload_n 0, 1) := by decide +kernel
theorem dX12_trusted_1 : decode cX12_trusted 1 = .ok (.bipush 30, 2) := by decide +kernel
theorem dX12_trusted_3 : decode cX12_trusted 3 = .ok (.iconst 5, 1) := by decide +kernel
theorem dX12_trusted_4 : decode cX12_trusted 4 = .ok (.iload_n 1, 1) := by decide +kernel
theorem dX12_trusted_5 : decode cX12_trusted 5 = .ok (.imul, 1) := by decide +kernel
theorem dX12_trusted_6 : decode cX12_trusted 6 = .ok (.iadd, 1) := by decide +kernel
theorem dX12_trusted_7 : decode cX12_trusted 7 = .ok (.iload_n 2, 1) := by decide +kernel
theorem dX12_trusted_8 : decode cX12_trusted 8 = .ok (.iadd, 1) := by decide +kernel
theorem dX12_trusted_9 : decode cX12_trusted 9 = .ok (.iaload, 1) := by decide +kernel
theorem dX12_trusted_10 : decode cX12_trusted 10 = .ok (.iconst 1, 1) := by decide +kernel
theorem dX12_trusted_11 : decode cX12_trusted 11 = .ok (.if_icmp .ne 7, 3) := by decide +kernel
theorem dX12_trusted_14 : decode cX12_trusted 14 = .ok (.iconst 1, 1) := by decide +kernel
theorem dX12_trusted_15 : decode cX12_trusted 15 = .ok (.goto 4, 3) := by decide +kernel
theorem dX12_trusted_18 : decode cX12_trusted 18 = .ok (.iconst 0, 1) := by decide +kernel
theorem dX12_trusted_19 : decode cX12_trusted 19 = .ok (.ireturn, 1) := by decide +kernel
theorem dX12_spread_0 : decode cX12_spread 0 = .ok (.iconst 0, 1) := by decide +kernel
theorem dX12_spread_1 : decode cX12_spread 1 = .ok (.istore_n 3, 1) := by decide +kernel
theorem dX12_spread_2 : decode cX12_spread 2 = .ok (.iload_n 3, 1) := by decide +kernel
theorem dX12_spread_3 : decode cX12_spread 3 = .ok (.aload_n 1, 1) := by decide +kernel
theorem dX12_spread_4 : decode cX12_spread 4 = .ok (.iconst 3, 1) := by decide +kernel
theorem dX12_spread_5 : decode cX12_spread 5 = .ok (.iaload, 1) := by decide +kernel
theorem dX12_spread_6 : decode cX12_spread 6 = .ok (.if_icmp .ge 26, 3) := by decide +kernel
theorem dX12_spread_9 : decode cX12_spread 9 = .ok (.aload_n 0, 1) := by decide +kernel
theorem dX12_spread_10 : decode cX12_spread 10 = .ok (.getfield 29, 3) := by decide +kernel
theorem dX12_spread_13 : decode cX12_spread 13 = .ok (.iload_n 3, 1) := by decide +kernel
theorem dX12_spread_14 : decode cX12_spread 14 = .ok (.iload_n 3, 1) := by decide +kernel
theorem dX12_spread_15 : decode cX12_spread 15 = .ok (.iload_n 2, 1) := by decide +kernel
theorem dX12_spread_16 : decode cX12_spread 16 = .ok (.if_icmp .ne 7, 3) := by decide +kernel
theorem dX12_spread_19 : decode cX12_spread 19 = .ok (.iconst 0, 1) := by decide +kernel
theorem dX12_spread_20 : decode cX12_spread 20 = .ok (.goto 5, 3) := by decide +kernel
theorem dX12_spread_23 : decode cX12_spread 23 = .ok (.bipush 99, 2) := by decide +kernel
theorem dX12_spread_25 : decode cX12_spread 25 = .ok (.iastore, 1) := by decide +kernel
theorem dX12_spread_26 : decode cX12_spread 26 = .ok (.iinc 3 1, 3) := by decide +kernel
theorem dX12_spread_29 : decode cX12_spread 29 = .ok (.goto (-27), 3) := by decide +kernel
theorem dX12_spread_32 : decode cX12_spread 32 = .ok (.iconst 0, 1) := by decide +kernel
theorem dX12_spread_33 : decode cX12_spread 33 = .ok (.istore_n 3, 1) := by decide +kernel
theorem dX12_spread_34 : decode cX12_spread 34 = .ok (.iload_n 3, 1) := by decide +kernel
theorem dX12_spread_35 : decode cX12_spread 35 = .ok (.aload_n 1, 1) := by decide +kernel
theorem dX12_spread_36 : decode cX12_spread 36 = .ok (.iconst 3, 1) := by decide +kernel
theorem dX12_spread_37 : decode cX12_spread 37 = .ok (.iaload, 1) := by decide +kernel
theorem dX12_spread_38 : decode cX12_spread 38 = .ok (.if_icmp .ge 90, 3) := by decide +kernel
theorem dX12_spread_41 : decode cX12_spread 41 = .ok (.iconst 0, 1) := by decide +kernel
theorem dX12_spread_42 : decode cX12_spread 42 = .ok (.istore 4, 2) := by decide +kernel
theorem dX12_spread_44 : decode cX12_spread 44 = .ok (.iload 4, 2) := by decide +kernel
theorem dX12_spread_46 : decode cX12_spread 46 = .ok (.aload_n 1, 1) := by decide +kernel
theorem dX12_spread_47 : decode cX12_spread 47 = .ok (.iconst 3, 1) := by decide +kernel
theorem dX12_spread_48 : decode cX12_spread 48 = .ok (.iaload, 1) := by decide +kernel
theorem dX12_spread_49 : decode cX12_spread 49 = .ok (.if_icmp .ge 73, 3) := by decide +kernel
theorem dX12_spread_52 : decode cX12_spread 52 = .ok (.iconst 0, 1) := by decide +kernel
theorem dX12_spread_53 : decode cX12_spread 53 = .ok (.istore 5, 2) := by decide +kernel
theorem dX12_spread_55 : decode cX12_spread 55 = .ok (.iload 5, 2) := by decide +kernel
theorem dX12_spread_57 : decode cX12_spread 57 = .ok (.aload_n 1, 1) := by decide +kernel
theorem dX12_spread_58 : decode cX12_spread 58 = .ok (.iconst 3, 1) := by decide +kernel
theorem dX12_spread_59 : decode cX12_spread 59 = .ok (.iaload, 1) := by decide +kernel
theorem dX12_spread_60 : decode cX12_spread 60 = .ok (.if_icmp .ge 56, 3) := by decide +kernel
theorem dX12_spread_63 : decode cX12_spread 63 = .ok (.aload_n 0, 1) := by decide +kernel
theorem dX12_spread_64 : decode cX12_spread 64 = .ok (.getfield 29, 3) := by decide +kernel
theorem dX12_spread_67 : decode cX12_spread 67 = .ok (.iload 5, 2) := by decide +kernel
theorem dX12_spread_69 : decode cX12_spread 69 = .ok (.aload_n 1, 1) := by decide +kernel
theorem dX12_spread_70 : decode cX12_spread 70 = .ok (.iload 4, 2) := by decide +kernel
theorem dX12_spread_72 : decode cX12_spread 72 = .ok (.iload 5, 2) := by decide +kernel
theorem dX12_spread_74 : decode cX12_spread 74 = .ok (.invokestatic 75, 3) := by decide +kernel
theorem dX12_spread_77 : decode cX12_spread 77 = .ok (.ifCond .eq 25, 3) := by decide +kernel
theorem dX12_spread_80 : decode cX12_spread 80 = .ok (.aload_n 0, 1) := by decide +kernel
theorem dX12_spread_81 : decode cX12_spread 81 = .ok (.getfield 29, 3) := by decide +kernel
theorem dX12_spread_84 : decode cX12_spread 84 = .ok (.iload 5, 2) := by decide +kernel
theorem dX12_spread_86 : decode cX12_spread 86 = .ok (.iaload, 1) := by decide +kernel
theorem dX12_spread_87 : decode cX12_spread 87 = .ok (.aload_n 0, 1) := by decide +kernel
theorem dX12_spread_88 : decode cX12_spread 88 = .ok (.getfield 29, 3) := by decide +kernel
theorem dX12_spread_91 : decode cX12_spread 91 = .ok (.iload 4, 2) := by decide +kernel
theorem dX12_spread_93 : decode cX12_spread 93 = .ok (.iaload, 1) := by decide +kernel
theorem dX12_spread_94 : decode cX12_spread 94 = .ok (.iconst 1, 1) := by decide +kernel
theorem dX12_spread_95 : decode cX12_spread 95 = .ok (.iadd, 1) := by decide +kernel
theorem dX12_spread_96 : decode cX12_spread 96 = .ok (.invokestatic 79, 3) := by decide +kernel
theorem dX12_spread_99 : decode cX12_spread 99 = .ok (.goto 10, 3) := by decide +kernel
theorem dX12_spread_102 : decode cX12_spread 102 = .ok (.aload_n 0, 1) := by decide +kernel
theorem dX12_spread_103 : decode cX12_spread 103 = .ok (.getfield 29, 3) := by decide +kernel
theorem dX12_spread_106 : decode cX12_spread 106 = .ok (.iload 5, 2) := by decide +kernel
theorem dX12_spread_108 : decode cX12_spread 108 = .ok (.iaload, 1) := by decide +kernel
theorem dX12_spread_109 : decode cX12_spread 109 = .ok (.iastore, 1) := by decide +kernel
theorem dX12_spread_110 : decode cX12_spread 110 = .ok (.iinc 5 1, 3) := by decide +kernel
theorem dX12_spread_113 : decode cX12_spread 113 = .ok (.goto (-58), 3) := by decide +kernel
theorem dX12_spread_116 : decode cX12_spread 116 = .ok (.iinc 4 1, 3) := by decide +kernel
theorem dX12_spread_119 : decode cX12_spread 119 = .ok (.goto (-75), 3) := by decide +kernel
theorem dX12_spread_122 : decode cX12_spread 122 = .ok (.iinc 3 1, 3) := by decide +kernel
theorem dX12_spread_125 : decode cX12_spread 125 = .ok (.goto (-91), 3) := by decide +kernel
theorem dX12_spread_128 : decode cX12_spread 128 = .ok (.return_, 1) := by decide +kernel
theorem dX12_far_0 : decode cX12_far 0 = .ok (.aload_n 0, 1) := by decide +kernel
theorem dX12_far_1 : decode cX12_far 1 = .ok (.aload_n 1, 1) := by decide +kernel
theorem dX12_far_2 : decode cX12_far 2 = .ok (.iload_n 2, 1) := by decide +kernel
theorem dX12_far_3 : decode cX12_far 3 = .ok (.invokevirtual 83, 3) := by decide +kernel
theorem dX12_far_6 : decode cX12_far 6 = .ok (.aload_n 0, 1) := by decide +kernel
theorem dX12_far_7 : decode cX12_far 7 = .ok (.getfield 29, 3) := by decide +kernel
theorem dX12_far_10 : decode cX12_far 10 = .ok (.iload_n 3, 1) := by decide +kernel
theorem dX12_far_11 : decode cX12_far 11 = .ok (.iaload, 1) := by decide +kernel
theorem dX12_far_12 : decode cX12_far 12 = .ok (.bipush 99, 2) := by decide +kernel
theorem dX12_far_14 : decode cX12_far 14 = .ok (.if_icmp .lt 7, 3) := by decide +kernel
theorem dX12_far_17 : decode cX12_far 17 = .ok (.iconst (-1), 1) := by decide +kernel
theorem dX12_far_18 : decode cX12_far 18 = .ok (.goto 9, 3) := by decide +kernel
theorem dX12_far_21 : decode cX12_far 21 = .ok (.aload_n 0, 1) := by decide +kernel
theorem dX12_far_22 : decode cX12_far 22 = .ok (.getfield 29, 3) := by decide +kernel
theorem dX12_far_25 : decode cX12_far 25 = .ok (.iload_n 3, 1) := by decide +kernel
theorem dX12_far_26 : decode cX12_far 26 = .ok (.iaload, 1) := by decide +kernel
theorem dX12_far_27 : decode cX12_far 27 = .ok (.ireturn, 1) := by decide +kernel
theorem dX12_skewOf_0 : decode cX12_skewOf 0 = .ok (.aload_n 0, 1) := by decide +kernel
theorem dX12_skewOf_1 : decode cX12_skewOf 1 = .ok (.iload_n 1, 1) := by decide +kernel
theorem dX12_skewOf_2 : decode cX12_skewOf 2 = .ok (.invokestatic 87, 3) := by decide +kernel
theorem dX12_skewOf_5 : decode cX12_skewOf 5 = .ok (.iconst 3, 1) := by decide +kernel
theorem dX12_skewOf_6 : decode cX12_skewOf 6 = .ok (.iadd, 1) := by decide +kernel
theorem dX12_skewOf_7 : decode cX12_skewOf 7 = .ok (.iaload, 1) := by decide +kernel
theorem dX12_skewOf_8 : decode cX12_skewOf 8 = .ok (.aload_n 0, 1) := by decide +kernel
theorem dX12_skewOf_9 : decode cX12_skewOf 9 = .ok (.iload_n 2, 1) := by decide +kernel
theorem dX12_skewOf_10 : decode cX12_skewOf 10 = .ok (.invokestatic 91, 3) := by decide +kernel
theorem dX12_skewOf_13 : decode cX12_skewOf 13 = .ok (.iconst 3, 1) := by decide +kernel
theorem dX12_skewOf_14 : decode cX12_skewOf 14 = .ok (.iadd, 1) := by decide +kernel
theorem dX12_skewOf_15 : decode cX12_skewOf 15 = .ok (.iaload, 1) := by decide +kernel
theorem dX12_skewOf_16 : decode cX12_skewOf 16 = .ok (.isub, 1) := by decide +kernel
theorem dX12_skewOf_17 : decode cX12_skewOf 17 = .ok (.istore_n 3, 1) := by decide +kernel
theorem dX12_skewOf_18 : decode cX12_skewOf 18 = .ok (.iload_n 3, 1) := by decide +kernel
theorem dX12_skewOf_19 : decode cX12_skewOf 19 = .ok (.ifCond .ge 8, 3) := by decide +kernel
theorem dX12_skewOf_22 : decode cX12_skewOf 22 = .ok (.iload_n 3, 1) := by decide +kernel
theorem dX12_skewOf_23 : decode cX12_skewOf 23 = .ok (.ineg, 1) := by decide +kernel
theorem dX12_skewOf_24 : decode cX12_skewOf 24 = .ok (.goto 4, 3) := by decide +kernel
theorem dX12_skewOf_27 : decode cX12_skewOf 27 = .ok (.iload_n 3, 1) := by decide +kernel
theorem dX12_skewOf_28 : decode cX12_skewOf 28 = .ok (.ireturn, 1) := by decide +kernel
theorem dX12_isSkewed_0 : decode cX12_isSkewed 0 = .ok (.aload_n 0, 1) := by decide +kernel
theorem dX12_isSkewed_1 : decode cX12_isSkewed 1 = .ok (.iload_n 1, 1) := by decide +kernel
theorem dX12_isSkewed_2 : decode cX12_isSkewed 2 = .ok (.iload_n 2, 1) := by decide +kernel
theorem dX12_isSkewed_3 : decode cX12_isSkewed 3 = .ok (.invokestatic 94, 3) := by decide +kernel
theorem dX12_isSkewed_6 : decode cX12_isSkewed 6 = .ok (.aload_n 0, 1) := by decide +kernel
theorem dX12_isSkewed_7 : decode cX12_isSkewed 7 = .ok (.iconst 1, 1) := by decide +kernel
theorem dX12_isSkewed_8 : decode cX12_isSkewed 8 = .ok (.iaload, 1) := by decide +kernel
theorem dX12_isSkewed_9 : decode cX12_isSkewed 9 = .ok (.if_icmp .le 7, 3) := by decide +kernel
theorem dX12_isSkewed_12 : decode cX12_isSkewed 12 = .ok (.iconst 1, 1) := by decide +kernel
theorem dX12_isSkewed_13 : decode cX12_isSkewed 13 = .ok (.goto 4, 3) := by decide +kernel
theorem dX12_isSkewed_16 : decode cX12_isSkewed 16 = .ok (.iconst 0, 1) := by decide +kernel
theorem dX12_isSkewed_17 : decode cX12_isSkewed 17 = .ok (.ireturn, 1) := by decide +kernel
theorem dX12_find_0 : decode cX12_find 0 = .ok (.iconst 0, 1) := by decide +kernel
theorem dX12_find_1 : decode cX12_find 1 = .ok (.istore_n 2, 1) := by decide +kernel
theorem dX12_find_2 : decode cX12_find 2 = .ok (.iload_n 2, 1) := by decide +kernel
theorem dX12_find_3 : decode cX12_find 3 = .ok (.aload_n 0, 1) := by decide +kernel
theorem dX12_find_4 : decode cX12_find 4 = .ok (.bipush 6, 2) := by decide +kernel
theorem dX12_find_6 : decode cX12_find 6 = .ok (.iaload, 1) := by decide +kernel
theorem dX12_find_7 : decode cX12_find 7 = .ok (.if_icmp .ge 23, 3) := by decide +kernel
theorem dX12_find_10 : decode cX12_find 10 = .ok (.aload_n 0, 1) := by decide +kernel
theorem dX12_find_11 : decode cX12_find 11 = .ok (.iload_n 2, 1) := by decide +kernel
theorem dX12_find_12 : decode cX12_find 12 = .ok (.invokestatic 98, 3) := by decide +kernel
theorem dX12_find_15 : decode cX12_find 15 = .ok (.iconst 0, 1) := by decide +kernel
theorem dX12_find_16 : decode cX12_find 16 = .ok (.iadd, 1) := by decide +kernel
theorem dX12_find_17 : decode cX12_find 17 = .ok (.iaload, 1) := by decide +kernel
theorem dX12_find_18 : decode cX12_find 18 = .ok (.iload_n 1, 1) := by decide +kernel
theorem dX12_find_19 : decode cX12_find 19 = .ok (.if_icmp .ne 5, 3) := by decide +kernel
theorem dX12_find_22 : decode cX12_find 22 = .ok (.iload_n 2, 1) := by decide +kernel
theorem dX12_find_23 : decode cX12_find 23 = .ok (.ireturn, 1) := by decide +kernel
theorem dX12_find_24 : decode cX12_find 24 = .ok (.iinc 2 1, 3) := by decide +kernel
theorem dX12_find_27 : decode cX12_find 27 = .ok (.goto (-25), 3) := by decide +kernel
theorem dX12_find_30 : decode cX12_find 30 = .ok (.iconst (-1), 1) := by decide +kernel
theorem dX12_find_31 : decode cX12_find 31 = .ok (.ireturn, 1) := by decide +kernel
theorem dX12_lives_0 : decode cX12_lives 0 = .ok (.aload_n 0, 1) := by decide +kernel
theorem dX12_lives_1 : decode cX12_lives 1 = .ok (.iconst 0, 1) := by decide +kernel
theorem dX12_lives_2 : decode cX12_lives 2 = .ok (.iaload, 1) := by decide +kernel
theorem dX12_lives_3 : decode cX12_lives 3 = .ok (.aload_n 0, 1) := by decide +kernel
theorem dX12_lives_4 : decode cX12_lives 4 = .ok (.iload_n 1, 1) := by decide +kernel
theorem dX12_lives_5 : decode cX12_lives 5 = .ok (.invokestatic 98, 3) := by decide +kernel
theorem dX12_lives_8 : decode cX12_lives 8 = .ok (.bipush 6, 2) := by decide +kernel
theorem dX12_lives_10 : decode cX12_lives 10 = .ok (.iadd, 1) := by decide +kernel
theorem dX12_lives_11 : decode cX12_lives 11 = .ok (.iaload, 1) := by decide +kernel
theorem dX12_lives_12 : decode cX12_lives 12 = .ok (.if_icmp .ge 7, 3) := by decide +kernel
theorem dX12_lives_15 : decode cX12_lives 15 = .ok (.iconst 1, 1) := by decide +kernel
theorem dX12_lives_16 : decode cX12_lives 16 = .ok (.goto 4, 3) := by decide +kernel
theorem dX12_lives_19 : decode cX12_lives 19 = .ok (.iconst 0, 1) := by decide +kernel
theorem dX12_lives_20 : decode cX12_lives 20 = .ok (.ireturn, 1) := by decide +kernel
theorem dX12_living_0 : decode cX12_living 0 = .ok (.iconst 0, 1) := by decide +kernel
theorem dX12_living_1 : decode cX12_living 1 = .ok (.istore_n 1, 1) := by decide +kernel
theorem dX12_living_2 : decode cX12_living 2 = .ok (.iconst 0, 1) := by decide +kernel
theorem dX12_living_3 : decode cX12_living 3 = .ok (.istore_n 2, 1) := by decide +kernel
theorem dX12_living_4 : decode cX12_living 4 = .ok (.iload_n 2, 1) := by decide +kernel
theorem dX12_living_5 : decode cX12_living 5 = .ok (.aload_n 0, 1) := by decide +kernel
theorem dX12_living_6 : decode cX12_living 6 = .ok (.bipush 6, 2) := by decide +kernel
theorem dX12_living_8 : decode cX12_living 8 = .ok (.iaload, 1) := by decide +kernel
theorem dX12_living_9 : decode cX12_living 9 = .ok (.if_icmp .ge 25, 3) := by decide +kernel
theorem dX12_living_12 : decode cX12_living 12 = .ok (.iload_n 1, 1) := by decide +kernel
theorem dX12_living_13 : decode cX12_living 13 = .ok (.aload_n 0, 1) := by decide +kernel
theorem dX12_living_14 : decode cX12_living 14 = .ok (.iload_n 2, 1) := by decide +kernel
theorem dX12_living_15 : decode cX12_living 15 = .ok (.invokestatic 101, 3) := by decide +kernel
theorem dX12_living_18 : decode cX12_living 18 = .ok (.ifCond .eq 7, 3) := by decide +kernel
theorem dX12_living_21 : decode cX12_living 21 = .ok (.iconst 1, 1) := by decide +kernel
theorem dX12_living_22 : decode cX12_living 22 = .ok (.goto 4, 3) := by decide +kernel
theorem dX12_living_25 : decode cX12_living 25 = .ok (.iconst 0, 1) := by decide +kernel
theorem dX12_living_26 : decode cX12_living 26 = .ok (.iadd, 1) := by decide +kernel
theorem dX12_living_27 : decode cX12_living 27 = .ok (.istore_n 1, 1) := by decide +kernel
theorem dX12_living_28 : decode cX12_living 28 = .ok (.iinc 2 1, 3) := by decide +kernel
theorem dX12_living_31 : decode cX12_living 31 = .ok (.goto (-27), 3) := by decide +kernel
theorem dX12_living_34 : decode cX12_living 34 = .ok (.iload_n 1, 1) := by decide +kernel
theorem dX12_living_35 : decode cX12_living 35 = .ok (.ireturn, 1) := by decide +kernel
theorem dX12_drawKey_0 : decode cX12_drawKey 0 = .ok (.aload_n 0, 1) := by decide +kernel
theorem dX12_drawKey_1 : decode cX12_drawKey 1 = .ok (.iconst 2, 1) := by decide +kernel
theorem dX12_drawKey_2 : decode cX12_drawKey 2 = .ok (.bipush 21, 2) := by decide +kernel
theorem dX12_drawKey_4 : decode cX12_drawKey 4 = .ok (.aload_n 0, 1) := by decide +kernel
theorem dX12_drawKey_5 : decode cX12_drawKey 5 = .ok (.iconst 2, 1) := by decide +kernel
theorem dX12_drawKey_6 : decode cX12_drawKey 6 = .ok (.iaload, 1) := by decide +kernel
theorem dX12_drawKey_7 : decode cX12_drawKey 7 = .ok (.imul, 1) := by decide +kernel
theorem dX12_drawKey_8 : decode cX12_drawKey 8 = .ok (.bipush 7, 2) := by decide +kernel
theorem dX12_drawKey_10 : decode cX12_drawKey 10 = .ok (.iadd, 1) := by decide +kernel
theorem dX12_drawKey_11 : decode cX12_drawKey 11 = .ok (.sipush 1024, 3) := by decide +kernel
theorem dX12_drawKey_14 : decode cX12_drawKey 14 = .ok (.irem, 1) := by decide +kernel
theorem dX12_drawKey_15 : decode cX12_drawKey 15 = .ok (.iastore, 1) := by decide +kernel
theorem dX12_drawKey_16 : decode cX12_drawKey 16 = .ok (.aload_n 0, 1) := by decide +kernel
theorem dX12_drawKey_17 : decode cX12_drawKey 17 = .ok (.iconst 2, 1) := by decide +kernel
theorem dX12_drawKey_18 : decode cX12_drawKey 18 = .ok (.iaload, 1) := by decide +kernel
theorem dX12_drawKey_19 : decode cX12_drawKey 19 = .ok (.ireturn, 1) := by decide +kernel
theorem dX12_make_0 : decode cX12_make 0 = .ok (.aload_n 0, 1) := by decide +kernel
theorem dX12_make_1 : decode cX12_make 1 = .ok (.bipush 6, 2) := by decide +kernel
theorem dX12_make_3 : decode cX12_make 3 = .ok (.iaload, 1) := by decide +kernel
theorem dX12_make_4 : decode cX12_make 4 = .ok (.invokestatic 98, 3) := by decide +kernel
theorem dX12_make_7 : decode cX12_make 7 = .ok (.istore 7, 2) := by decide +kernel
theorem dX12_make_9 : decode cX12_make 9 = .ok (.aload_n 0, 1) := by decide +kernel
theorem dX12_make_10 : decode cX12_make 10 = .ok (.iload 7, 2) := by decide +kernel
theorem dX12_make_12 : decode cX12_make 12 = .ok (.iconst 0, 1) := by decide +kernel
theorem dX12_make_13 : decode cX12_make 13 = .ok (.iadd, 1) := by decide +kernel
theorem dX12_make_14 : decode cX12_make 14 = .ok (.aload_n 0, 1) := by decide +kernel
theorem dX12_make_15 : decode cX12_make 15 = .ok (.bipush 7, 2) := by decide +kernel
theorem dX12_make_17 : decode cX12_make 17 = .ok (.iaload, 1) := by decide +kernel
theorem dX12_make_18 : decode cX12_make 18 = .ok (.iastore, 1) := by decide +kernel
theorem dX12_make_19 : decode cX12_make 19 = .ok (.aload_n 0, 1) := by decide +kernel
theorem dX12_make_20 : decode cX12_make 20 = .ok (.iload 7, 2) := by decide +kernel
theorem dX12_make_22 : decode cX12_make 22 = .ok (.iconst 1, 1) := by decide +kernel
theorem dX12_make_23 : decode cX12_make 23 = .ok (.iadd, 1) := by decide +kernel
theorem dX12_make_24 : decode cX12_make 24 = .ok (.iload_n 3, 1) := by decide +kernel
theorem dX12_make_25 : decode cX12_make 25 = .ok (.iconst (-1), 1) := by decide +kernel
theorem dX12_make_26 : decode cX12_make 26 = .ok (.if_icmp .ne 7, 3) := by decide +kernel
theorem dX12_make_29 : decode cX12_make 29 = .ok (.iconst 0, 1) := by decide +kernel
theorem dX12_make_30 : decode cX12_make 30 = .ok (.goto 4, 3) := by decide +kernel
theorem dX12_make_33 : decode cX12_make 33 = .ok (.iconst 1, 1) := by decide +kernel
theorem dX12_make_34 : decode cX12_make 34 = .ok (.iastore, 1) := by decide +kernel
theorem dX12_make_35 : decode cX12_make 35 = .ok (.aload_n 0, 1) := by decide +kernel
theorem dX12_make_36 : decode cX12_make 36 = .ok (.iload 7, 2) := by decide +kernel
theorem dX12_make_38 : decode cX12_make 38 = .ok (.iconst 2, 1) := by decide +kernel
theorem dX12_make_39 : decode cX12_make 39 = .ok (.iadd, 1) := by decide +kernel
theorem dX12_make_40 : decode cX12_make 40 = .ok (.iload_n 1, 1) := by decide +kernel
theorem dX12_make_41 : decode cX12_make 41 = .ok (.iastore, 1) := by decide +kernel
theorem dX12_make_42 : decode cX12_make 42 = .ok (.aload_n 0, 1) := by decide +kernel
theorem dX12_make_43 : decode cX12_make 43 = .ok (.iload 7, 2) := by decide +kernel
theorem dX12_make_45 : decode cX12_make 45 = .ok (.iconst 3, 1) := by decide +kernel
theorem dX12_make_46 : decode cX12_make 46 = .ok (.iadd, 1) := by decide +kernel
theorem dX12_make_47 : decode cX12_make 47 = .ok (.iload_n 2, 1) := by decide +kernel
theorem dX12_make_48 : decode cX12_make 48 = .ok (.iastore, 1) := by decide +kernel
theorem dX12_make_49 : decode cX12_make 49 = .ok (.aload_n 0, 1) := by decide +kernel
theorem dX12_make_50 : decode cX12_make 50 = .ok (.iload 7, 2) := by decide +kernel
theorem dX12_make_52 : decode cX12_make 52 = .ok (.iconst 4, 1) := by decide +kernel
theorem dX12_make_53 : decode cX12_make 53 = .ok (.iadd, 1) := by decide +kernel
theorem dX12_make_54 : decode cX12_make 54 = .ok (.iload_n 3, 1) := by decide +kernel
theorem dX12_make_55 : decode cX12_make 55 = .ok (.iastore, 1) := by decide +kernel
theorem dX12_make_56 : decode cX12_make 56 = .ok (.aload_n 0, 1) := by decide +kernel
theorem dX12_make_57 : decode cX12_make 57 = .ok (.iload 7, 2) := by decide +kernel
theorem dX12_make_59 : decode cX12_make 59 = .ok (.iconst 5, 1) := by decide +kernel
theorem dX12_make_60 : decode cX12_make 60 = .ok (.iadd, 1) := by decide +kernel
theorem dX12_make_61 : decode cX12_make 61 = .ok (.aload_n 0, 1) := by decide +kernel
theorem dX12_make_62 : decode cX12_make 62 = .ok (.iconst 0, 1) := by decide +kernel
theorem dX12_make_63 : decode cX12_make 63 = .ok (.iaload, 1) := by decide +kernel
theorem dX12_make_64 : decode cX12_make 64 = .ok (.iastore, 1) := by decide +kernel
theorem dX12_make_65 : decode cX12_make 65 = .ok (.aload_n 0, 1) := by decide +kernel
theorem dX12_make_66 : decode cX12_make 66 = .ok (.iload 7, 2) := by decide +kernel
theorem dX12_make_68 : decode cX12_make 68 = .ok (.bipush 6, 2) := by decide +kernel
theorem dX12_make_70 : decode cX12_make 70 = .ok (.iadd, 1) := by decide +kernel
theorem dX12_make_71 : decode cX12_make 71 = .ok (.iload 4, 2) := by decide +kernel
theorem dX12_make_73 : decode cX12_make 73 = .ok (.iastore, 1) := by decide +kernel
theorem dX12_make_74 : decode cX12_make 74 = .ok (.aload_n 0, 1) := by decide +kernel
theorem dX12_make_75 : decode cX12_make 75 = .ok (.iload 7, 2) := by decide +kernel
theorem dX12_make_77 : decode cX12_make 77 = .ok (.bipush 7, 2) := by decide +kernel
theorem dX12_make_79 : decode cX12_make 79 = .ok (.iadd, 1) := by decide +kernel
theorem dX12_make_80 : decode cX12_make 80 = .ok (.iload 6, 2) := by decide +kernel
theorem dX12_make_82 : decode cX12_make 82 = .ok (.iconst 1, 1) := by decide +kernel
theorem dX12_make_83 : decode cX12_make 83 = .ok (.if_icmp .ne 13, 3) := by decide +kernel
theorem dX12_make_86 : decode cX12_make 86 = .ok (.iload 5, 2) := by decide +kernel
theorem dX12_make_88 : decode cX12_make 88 = .ok (.iload 4, 2) := by decide +kernel
theorem dX12_make_90 : decode cX12_make 90 = .ok (.invokestatic 105, 3) := by decide +kernel
theorem dX12_make_93 : decode cX12_make 93 = .ok (.goto 5, 3) := by decide +kernel
theorem dX12_make_96 : decode cX12_make 96 = .ok (.iload 4, 2) := by decide +kernel
theorem dX12_make_98 : decode cX12_make 98 = .ok (.iastore, 1) := by decide +kernel
theorem dX12_make_99 : decode cX12_make 99 = .ok (.aload_n 0, 1) := by decide +kernel
theorem dX12_make_100 : decode cX12_make 100 = .ok (.iload 7, 2) := by decide +kernel
theorem dX12_make_102 : decode cX12_make 102 = .ok (.bipush 8, 2) := by decide +kernel
theorem dX12_make_104 : decode cX12_make 104 = .ok (.iadd, 1) := by decide +kernel
theorem dX12_make_105 : decode cX12_make 105 = .ok (.aload_n 0, 1) := by decide +kernel
theorem dX12_make_106 : decode cX12_make 106 = .ok (.invokestatic 108, 3) := by decide +kernel
theorem dX12_make_109 : decode cX12_make 109 = .ok (.iastore, 1) := by decide +kernel
theorem dX12_make_110 : decode cX12_make 110 = .ok (.aload_n 0, 1) := by decide +kernel
theorem dX12_make_111 : decode cX12_make 111 = .ok (.iload 7, 2) := by decide +kernel
theorem dX12_make_113 : decode cX12_make 113 = .ok (.bipush 9, 2) := by decide +kernel
theorem dX12_make_115 : decode cX12_make 115 = .ok (.iadd, 1) := by decide +kernel
theorem dX12_make_116 : decode cX12_make 116 = .ok (.iload 6, 2) := by decide +kernel
theorem dX12_make_118 : decode cX12_make 118 = .ok (.iastore, 1) := by decide +kernel
theorem dX12_make_119 : decode cX12_make 119 = .ok (.aload_n 0, 1) := by decide +kernel
theorem dX12_make_120 : decode cX12_make 120 = .ok (.bipush 6, 2) := by decide +kernel
theorem dX12_make_122 : decode cX12_make 122 = .ok (.dup2, 1) := by decide +kernel
theorem dX12_make_123 : decode cX12_make 123 = .ok (.iaload, 1) := by decide +kernel
theorem dX12_make_124 : decode cX12_make 124 = .ok (.iconst 1, 1) := by decide +kernel
theorem dX12_make_125 : decode cX12_make 125 = .ok (.iadd, 1) := by decide +kernel
theorem dX12_make_126 : decode cX12_make 126 = .ok (.iastore, 1) := by decide +kernel
theorem dX12_make_127 : decode cX12_make 127 = .ok (.aload_n 0, 1) := by decide +kernel
theorem dX12_make_128 : decode cX12_make 128 = .ok (.bipush 7, 2) := by decide +kernel
theorem dX12_make_130 : decode cX12_make 130 = .ok (.dup2, 1) := by decide +kernel
theorem dX12_make_131 : decode cX12_make 131 = .ok (.iaload, 1) := by decide +kernel
theorem dX12_make_132 : decode cX12_make 132 = .ok (.iconst 1, 1) := by decide +kernel
theorem dX12_make_133 : decode cX12_make 133 = .ok (.iadd, 1) := by decide +kernel
theorem dX12_make_134 : decode cX12_make 134 = .ok (.iastore, 1) := by decide +kernel
theorem dX12_make_135 : decode cX12_make 135 = .ok (.aload_n 0, 1) := by decide +kernel
theorem dX12_make_136 : decode cX12_make 136 = .ok (.bipush 7, 2) := by decide +kernel
theorem dX12_make_138 : decode cX12_make 138 = .ok (.iaload, 1) := by decide +kernel
theorem dX12_make_139 : decode cX12_make 139 = .ok (.iconst 1, 1) := by decide +kernel
theorem dX12_make_140 : decode cX12_make 140 = .ok (.isub, 1) := by decide +kernel
theorem dX12_make_141 : decode cX12_make 141 = .ok (.ireturn, 1) := by decide +kernel
theorem dX12_whyNotLogin_0 : decode cX12_whyNotLogin 0 = .ok (.aload_n 0, 1) := by decide +kernel
theorem dX12_whyNotLogin_1 : decode cX12_whyNotLogin 1 = .ok (.iload_n 1, 1) := by decide +kernel
theorem dX12_whyNotLogin_2 : decode cX12_whyNotLogin 2 = .ok (.invokestatic 87, 3) := by decide +kernel
theorem dX12_whyNotLogin_5 : decode cX12_whyNotLogin 5 = .ok (.iconst 2, 1) := by decide +kernel
theorem dX12_whyNotLogin_6 : decode cX12_whyNotLogin 6 = .ok (.iadd, 1) := by decide +kernel
theorem dX12_whyNotLogin_7 : decode cX12_whyNotLogin 7 = .ok (.iaload, 1) := by decide +kernel
theorem dX12_whyNotLogin_8 : decode cX12_whyNotLogin 8 = .ok (.iload_n 2, 1) := by decide +kernel
theorem dX12_whyNotLogin_9 : decode cX12_whyNotLogin 9 = .ok (.if_icmp .eq 5, 3) := by decide +kernel
theorem dX12_whyNotLogin_12 : decode cX12_whyNotLogin 12 = .ok (.iconst 1, 1) := by decide +kernel
theorem dX12_whyNotLogin_13 : decode cX12_whyNotLogin 13 = .ok (.ireturn, 1) := by decide +kernel
theorem dX12_whyNotLogin_14 : decode cX12_whyNotLogin 14 = .ok (.aload_n 0, 1) := by decide +kernel
theorem dX12_whyNotLogin_15 : decode cX12_whyNotLogin 15 = .ok (.iload_n 1, 1) := by decide +kernel
theorem dX12_whyNotLogin_16 : decode cX12_whyNotLogin 16 = .ok (.aload_n 0, 1) := by decide +kernel
theorem dX12_whyNotLogin_17 : decode cX12_whyNotLogin 17 = .ok (.iload_n 1, 1) := by decide +kernel
theorem dX12_whyNotLogin_18 : decode cX12_whyNotLogin 18 = .ok (.invokestatic 87, 3) := by decide +kernel
theorem dX12_whyNotLogin_21 : decode cX12_whyNotLogin 21 = .ok (.iconst 1, 1) := by decide +kernel
theorem dX12_whyNotLogin_22 : decode cX12_whyNotLogin 22 = .ok (.iadd, 1) := by decide +kernel
theorem dX12_whyNotLogin_23 : decode cX12_whyNotLogin 23 = .ok (.iaload, 1) := by decide +kernel
theorem dX12_whyNotLogin_24 : decode cX12_whyNotLogin 24 = .ok (.invokestatic 112, 3) := by decide +kernel
theorem dX12_whyNotLogin_27 : decode cX12_whyNotLogin 27 = .ok (.ifCond .eq 5, 3) := by decide +kernel
theorem dX12_whyNotLogin_30 : decode cX12_whyNotLogin 30 = .ok (.iconst 2, 1) := by decide +kernel
theorem dX12_whyNotLogin_31 : decode cX12_whyNotLogin 31 = .ok (.ireturn, 1) := by decide +kernel
theorem dX12_whyNotLogin_32 : decode cX12_whyNotLogin 32 = .ok (.aload_n 0, 1) := by decide +kernel
theorem dX12_whyNotLogin_33 : decode cX12_whyNotLogin 33 = .ok (.bipush 6, 2) := by decide +kernel
theorem dX12_whyNotLogin_35 : decode cX12_whyNotLogin 35 = .ok (.iaload, 1) := by decide +kernel
theorem dX12_whyNotLogin_36 : decode cX12_whyNotLogin 36 = .ok (.bipush 24, 2) := by decide +kernel
theorem dX12_whyNotLogin_38 : decode cX12_whyNotLogin 38 = .ok (.if_icmp .ne 7, 3) := by decide +kernel
theorem dX12_whyNotLogin_41 : decode cX12_whyNotLogin 41 = .ok (.iconst 3, 1) := by decide +kernel
theorem dX12_whyNotLogin_42 : decode cX12_whyNotLogin 42 = .ok (.goto 4, 3) := by decide +kernel
theorem dX12_whyNotLogin_45 : decode cX12_whyNotLogin 45 = .ok (.iconst 0, 1) := by decide +kernel
theorem dX12_whyNotLogin_46 : decode cX12_whyNotLogin 46 = .ok (.ireturn, 1) := by decide +kernel
theorem dX12_whyNotGate_0 : decode cX12_whyNotGate 0 = .ok (.aload_n 0, 1) := by decide +kernel
theorem dX12_whyNotGate_1 : decode cX12_whyNotGate 1 = .ok (.iload_n 1, 1) := by decide +kernel
theorem dX12_whyNotGate_2 : decode cX12_whyNotGate 2 = .ok (.invokestatic 98, 3) := by decide +kernel
theorem dX12_whyNotGate_5 : decode cX12_whyNotGate 5 = .ok (.iconst 1, 1) := by decide +kernel
theorem dX12_whyNotGate_6 : decode cX12_whyNotGate 6 = .ok (.iadd, 1) := by decide +kernel
theorem dX12_whyNotGate_7 : decode cX12_whyNotGate 7 = .ok (.iaload, 1) := by decide +kernel
theorem dX12_whyNotGate_8 : decode cX12_whyNotGate 8 = .ok (.ifCond .eq 5, 3) := by decide +kernel
theorem dX12_whyNotGate_11 : decode cX12_whyNotGate 11 = .ok (.iconst 1, 1) := by decide +kernel
theorem dX12_whyNotGate_12 : decode cX12_whyNotGate 12 = .ok (.ireturn, 1) := by decide +kernel
theorem dX12_whyNotGate_13 : decode cX12_whyNotGate 13 = .ok (.aload_n 0, 1) := by decide +kernel
theorem dX12_whyNotGate_14 : decode cX12_whyNotGate 14 = .ok (.iload_n 1, 1) := by decide +kernel
theorem dX12_whyNotGate_15 : decode cX12_whyNotGate 15 = .ok (.invokestatic 101, 3) := by decide +kernel
theorem dX12_whyNotGate_18 : decode cX12_whyNotGate 18 = .ok (.ifCond .eq 7, 3) := by decide +kernel
theorem dX12_whyNotGate_21 : decode cX12_whyNotGate 21 = .ok (.iconst 0, 1) := by decide +kernel
theorem dX12_whyNotGate_22 : decode cX12_whyNotGate 22 = .ok (.goto 4, 3) := by decide +kernel
theorem dX12_whyNotGate_25 : decode cX12_whyNotGate 25 = .ok (.iconst 2, 1) := by decide +kernel
theorem dX12_whyNotGate_26 : decode cX12_whyNotGate 26 = .ok (.ireturn, 1) := by decide +kernel
theorem dX12_whyNotNew_0 : decode cX12_whyNotNew 0 = .ok (.iload_n 1, 1) := by decide +kernel
theorem dX12_whyNotNew_1 : decode cX12_whyNotNew 1 = .ok (.invokestatic 98, 3) := by decide +kernel
theorem dX12_whyNotNew_4 : decode cX12_whyNotNew 4 = .ok (.istore_n 2, 1) := by decide +kernel
theorem dX12_whyNotNew_5 : decode cX12_whyNotNew 5 = .ok (.aload_n 0, 1) := by decide +kernel
theorem dX12_whyNotNew_6 : decode cX12_whyNotNew 6 = .ok (.aload_n 0, 1) := by decide +kernel
theorem dX12_whyNotNew_7 : decode cX12_whyNotNew 7 = .ok (.iload_n 2, 1) := by decide +kernel
theorem dX12_whyNotNew_8 : decode cX12_whyNotNew 8 = .ok (.iconst 2, 1) := by decide +kernel
theorem dX12_whyNotNew_9 : decode cX12_whyNotNew 9 = .ok (.iadd, 1) := by decide +kernel
theorem dX12_whyNotNew_10 : decode cX12_whyNotNew 10 = .ok (.iaload, 1) := by decide +kernel
theorem dX12_whyNotNew_11 : decode cX12_whyNotNew 11 = .ok (.aload_n 0, 1) := by decide +kernel
theorem dX12_whyNotNew_12 : decode cX12_whyNotNew 12 = .ok (.iload_n 2, 1) := by decide +kernel
theorem dX12_whyNotNew_13 : decode cX12_whyNotNew 13 = .ok (.iconst 3, 1) := by decide +kernel
theorem dX12_whyNotNew_14 : decode cX12_whyNotNew 14 = .ok (.iadd, 1) := by decide +kernel
theorem dX12_whyNotNew_15 : decode cX12_whyNotNew 15 = .ok (.iaload, 1) := by decide +kernel
theorem dX12_whyNotNew_16 : decode cX12_whyNotNew 16 = .ok (.invokestatic 112, 3) := by decide +kernel
theorem dX12_whyNotNew_19 : decode cX12_whyNotNew 19 = .ok (.ifCond .eq 5, 3) := by decide +kernel
theorem dX12_whyNotNew_22 : decode cX12_whyNotNew 22 = .ok (.iconst 4, 1) := by decide +kernel
theorem dX12_whyNotNew_23 : decode cX12_whyNotNew 23 = .ok (.ireturn, 1) := by decide +kernel
theorem dX12_whyNotNew_24 : decode cX12_whyNotNew 24 = .ok (.aload_n 0, 1) := by decide +kernel
theorem dX12_whyNotNew_25 : decode cX12_whyNotNew 25 = .ok (.bipush 6, 2) := by decide +kernel
theorem dX12_whyNotNew_27 : decode cX12_whyNotNew 27 = .ok (.iaload, 1) := by decide +kernel
theorem dX12_whyNotNew_28 : decode cX12_whyNotNew 28 = .ok (.bipush 24, 2) := by decide +kernel
theorem dX12_whyNotNew_30 : decode cX12_whyNotNew 30 = .ok (.if_icmp .ne 7, 3) := by decide +kernel
theorem dX12_whyNotNew_33 : decode cX12_whyNotNew 33 = .ok (.iconst 5, 1) := by decide +kernel
theorem dX12_whyNotNew_34 : decode cX12_whyNotNew 34 = .ok (.goto 4, 3) := by decide +kernel
theorem dX12_whyNotNew_37 : decode cX12_whyNotNew 37 = .ok (.iconst 0, 1) := by decide +kernel
theorem dX12_whyNotNew_38 : decode cX12_whyNotNew 38 = .ok (.ireturn, 1) := by decide +kernel
theorem dX12_whyNotRefer_0 : decode cX12_whyNotRefer 0 = .ok (.aload_n 0, 1) := by decide +kernel
theorem dX12_whyNotRefer_1 : decode cX12_whyNotRefer 1 = .ok (.iload_n 1, 1) := by decide +kernel
theorem dX12_whyNotRefer_2 : decode cX12_whyNotRefer 2 = .ok (.invokestatic 115, 3) := by decide +kernel
theorem dX12_whyNotRefer_5 : decode cX12_whyNotRefer 5 = .ok (.istore_n 3, 1) := by decide +kernel
theorem dX12_whyNotRefer_6 : decode cX12_whyNotRefer 6 = .ok (.iload_n 3, 1) := by decide +kernel
theorem dX12_whyNotRefer_7 : decode cX12_whyNotRefer 7 = .ok (.ifCond .eq 5, 3) := by decide +kernel
theorem dX12_whyNotRefer_10 : decode cX12_whyNotRefer 10 = .ok (.iload_n 3, 1) := by decide +kernel
theorem dX12_whyNotRefer_11 : decode cX12_whyNotRefer 11 = .ok (.ireturn, 1) := by decide +kernel
theorem dX12_whyNotRefer_12 : decode cX12_whyNotRefer 12 = .ok (.aload_n 0, 1) := by decide +kernel
theorem dX12_whyNotRefer_13 : decode cX12_whyNotRefer 13 = .ok (.aload_n 0, 1) := by decide +kernel
theorem dX12_whyNotRefer_14 : decode cX12_whyNotRefer 14 = .ok (.iload_n 1, 1) := by decide +kernel
theorem dX12_whyNotRefer_15 : decode cX12_whyNotRefer 15 = .ok (.invokestatic 98, 3) := by decide +kernel
theorem dX12_whyNotRefer_18 : decode cX12_whyNotRefer 18 = .ok (.iconst 3, 1) := by decide +kernel
theorem dX12_whyNotRefer_19 : decode cX12_whyNotRefer 19 = .ok (.iadd, 1) := by decide +kernel
theorem dX12_whyNotRefer_20 : decode cX12_whyNotRefer 20 = .ok (.iaload, 1) := by decide +kernel
theorem dX12_whyNotRefer_21 : decode cX12_whyNotRefer 21 = .ok (.iload_n 2, 1) := by decide +kernel
theorem dX12_whyNotRefer_22 : decode cX12_whyNotRefer 22 = .ok (.invokestatic 75, 3) := by decide +kernel
theorem dX12_whyNotRefer_25 : decode cX12_whyNotRefer 25 = .ok (.ifCond .eq 11, 3) := by decide +kernel
theorem dX12_whyNotRefer_28 : decode cX12_whyNotRefer 28 = .ok (.aload_n 0, 1) := by decide +kernel
theorem dX12_whyNotRefer_29 : decode cX12_whyNotRefer 29 = .ok (.iload_n 1, 1) := by decide +kernel
theorem dX12_whyNotRefer_30 : decode cX12_whyNotRefer 30 = .ok (.invokestatic 119, 3) := by decide +kernel
theorem dX12_whyNotRefer_33 : decode cX12_whyNotRefer 33 = .ok (.goto 4, 3) := by decide +kernel
theorem dX12_whyNotRefer_36 : decode cX12_whyNotRefer 36 = .ok (.iconst 3, 1) := by decide +kernel
theorem dX12_whyNotRefer_37 : decode cX12_whyNotRefer 37 = .ok (.ireturn, 1) := by decide +kernel
theorem dX12_whyNotRequest_0 : decode cX12_whyNotRequest 0 = .ok (.aload_n 0, 1) := by decide +kernel
theorem dX12_whyNotRequest_1 : decode cX12_whyNotRequest 1 = .ok (.iload_n 1, 1) := by decide +kernel
theorem dX12_whyNotRequest_2 : decode cX12_whyNotRequest 2 = .ok (.invokestatic 115, 3) := by decide +kernel
theorem dX12_whyNotRequest_5 : decode cX12_whyNotRequest 5 = .ok (.istore_n 3, 1) := by decide +kernel
theorem dX12_whyNotRequest_6 : decode cX12_whyNotRequest 6 = .ok (.iload_n 3, 1) := by decide +kernel
theorem dX12_whyNotRequest_7 : decode cX12_whyNotRequest 7 = .ok (.ifCond .eq 5, 3) := by decide +kernel
theorem dX12_whyNotRequest_10 : decode cX12_whyNotRequest 10 = .ok (.iload_n 3, 1) := by decide +kernel
theorem dX12_whyNotRequest_11 : decode cX12_whyNotRequest 11 = .ok (.ireturn, 1) := by decide +kernel
theorem dX12_whyNotRequest_12 : decode cX12_whyNotRequest 12 = .ok (.aload_n 0, 1) := by decide +kernel
theorem dX12_whyNotRequest_13 : decode cX12_whyNotRequest 13 = .ok (.iload_n 1, 1) := by decide +kernel
theorem dX12_whyNotRequest_14 : decode cX12_whyNotRequest 14 = .ok (.invokestatic 98, 3) := by decide +kernel
theorem dX12_whyNotRequest_17 : decode cX12_whyNotRequest 17 = .ok (.iconst 3, 1) := by decide +kernel
theorem dX12_whyNotRequest_18 : decode cX12_whyNotRequest 18 = .ok (.iadd, 1) := by decide +kernel
theorem dX12_whyNotRequest_19 : decode cX12_whyNotRequest 19 = .ok (.iaload, 1) := by decide +kernel
theorem dX12_whyNotRequest_20 : decode cX12_whyNotRequest 20 = .ok (.aload_n 0, 1) := by decide +kernel
theorem dX12_whyNotRequest_21 : decode cX12_whyNotRequest 21 = .ok (.iload_n 2, 1) := by decide +kernel
theorem dX12_whyNotRequest_22 : decode cX12_whyNotRequest 22 = .ok (.invokestatic 122, 3) := by decide +kernel
theorem dX12_whyNotRequest_25 : decode cX12_whyNotRequest 25 = .ok (.iconst 1, 1) := by decide +kernel
theorem dX12_whyNotRequest_26 : decode cX12_whyNotRequest 26 = .ok (.iadd, 1) := by decide +kernel
theorem dX12_whyNotRequest_27 : decode cX12_whyNotRequest 27 = .ok (.iaload, 1) := by decide +kernel
theorem dX12_whyNotRequest_28 : decode cX12_whyNotRequest 28 = .ok (.if_icmp .ne 11, 3) := by decide +kernel
theorem dX12_whyNotRequest_31 : decode cX12_whyNotRequest 31 = .ok (.aload_n 0, 1) := by decide +kernel
theorem dX12_whyNotRequest_32 : decode cX12_whyNotRequest 32 = .ok (.iload_n 1, 1) := by decide +kernel
theorem dX12_whyNotRequest_33 : decode cX12_whyNotRequest 33 = .ok (.invokestatic 119, 3) := by decide +kernel
theorem dX12_whyNotRequest_36 : decode cX12_whyNotRequest 36 = .ok (.goto 4, 3) := by decide +kernel
theorem dX12_whyNotRequest_39 : decode cX12_whyNotRequest 39 = .ok (.iconst 3, 1) := by decide +kernel
theorem dX12_whyNotRequest_40 : decode cX12_whyNotRequest 40 = .ok (.ireturn, 1) := by decide +kernel
theorem dX12_newEnd_0 : decode cX12_newEnd 0 = .ok (.iload_n 1, 1) := by decide +kernel
theorem dX12_newEnd_1 : decode cX12_newEnd 1 = .ok (.invokestatic 98, 3) := by decide +kernel
theorem dX12_newEnd_4 : decode cX12_newEnd 4 = .ok (.istore_n 2, 1) := by decide +kernel
theorem dX12_newEnd_5 : decode cX12_newEnd 5 = .ok (.aload_n 0, 1) := by decide +kernel
theorem dX12_newEnd_6 : decode cX12_newEnd 6 = .ok (.iconst 0, 1) := by decide +kernel
theorem dX12_newEnd_7 : decode cX12_newEnd 7 = .ok (.iaload, 1) := by decide +kernel
theorem dX12_newEnd_8 : decode cX12_newEnd 8 = .ok (.aload_n 0, 1) := by decide +kernel
theorem dX12_newEnd_9 : decode cX12_newEnd 9 = .ok (.aload_n 0, 1) := by decide +kernel
theorem dX12_newEnd_10 : decode cX12_newEnd 10 = .ok (.iload_n 2, 1) := by decide +kernel
theorem dX12_newEnd_11 : decode cX12_newEnd 11 = .ok (.iconst 3, 1) := by decide +kernel
theorem dX12_newEnd_12 : decode cX12_newEnd 12 = .ok (.iadd, 1) := by decide +kernel
theorem dX12_newEnd_13 : decode cX12_newEnd 13 = .ok (.iaload, 1) := by decide +kernel
theorem dX12_newEnd_14 : decode cX12_newEnd 14 = .ok (.invokestatic 91, 3) := by decide +kernel
theorem dX12_newEnd_17 : decode cX12_newEnd 17 = .ok (.iconst 1, 1) := by decide +kernel
theorem dX12_newEnd_18 : decode cX12_newEnd 18 = .ok (.iadd, 1) := by decide +kernel
theorem dX12_newEnd_19 : decode cX12_newEnd 19 = .ok (.iaload, 1) := by decide +kernel
theorem dX12_newEnd_20 : decode cX12_newEnd 20 = .ok (.iadd, 1) := by decide +kernel
theorem dX12_newEnd_21 : decode cX12_newEnd 21 = .ok (.aload_n 0, 1) := by decide +kernel
theorem dX12_newEnd_22 : decode cX12_newEnd 22 = .ok (.iload_n 2, 1) := by decide +kernel
theorem dX12_newEnd_23 : decode cX12_newEnd 23 = .ok (.bipush 7, 2) := by decide +kernel
theorem dX12_newEnd_25 : decode cX12_newEnd 25 = .ok (.iadd, 1) := by decide +kernel
theorem dX12_newEnd_26 : decode cX12_newEnd 26 = .ok (.iaload, 1) := by decide +kernel
theorem dX12_newEnd_27 : decode cX12_newEnd 27 = .ok (.invokestatic 79, 3) := by decide +kernel
theorem dX12_newEnd_30 : decode cX12_newEnd 30 = .ok (.ireturn, 1) := by decide +kernel
theorem dX12_whyNotRenew_0 : decode cX12_whyNotRenew 0 = .ok (.iload_n 1, 1) := by decide +kernel
theorem dX12_whyNotRenew_1 : decode cX12_whyNotRenew 1 = .ok (.invokestatic 98, 3) := by decide +kernel
theorem dX12_whyNotRenew_4 : decode cX12_whyNotRenew 4 = .ok (.istore_n 2, 1) := by decide +kernel
theorem dX12_whyNotRenew_5 : decode cX12_whyNotRenew 5 = .ok (.aload_n 0, 1) := by decide +kernel
theorem dX12_whyNotRenew_6 : decode cX12_whyNotRenew 6 = .ok (.iload_n 2, 1) := by decide +kernel
theorem dX12_whyNotRenew_7 : decode cX12_whyNotRenew 7 = .ok (.bipush 9, 2) := by decide +kernel
theorem dX12_whyNotRenew_9 : decode cX12_whyNotRenew 9 = .ok (.iadd, 1) := by decide +kernel
theorem dX12_whyNotRenew_10 : decode cX12_whyNotRenew 10 = .ok (.iaload, 1) := by decide +kernel
theorem dX12_whyNotRenew_11 : decode cX12_whyNotRenew 11 = .ok (.iconst 1, 1) := by decide +kernel
theorem dX12_whyNotRenew_12 : decode cX12_whyNotRenew 12 = .ok (.if_icmp .eq 5, 3) := by decide +kernel
theorem dX12_whyNotRenew_15 : decode cX12_whyNotRenew 15 = .ok (.iconst 1, 1) := by decide +kernel
theorem dX12_whyNotRenew_16 : decode cX12_whyNotRenew 16 = .ok (.ireturn, 1) := by decide +kernel
theorem dX12_whyNotRenew_17 : decode cX12_whyNotRenew 17 = .ok (.aload_n 0, 1) := by decide +kernel
theorem dX12_whyNotRenew_18 : decode cX12_whyNotRenew 18 = .ok (.iload_n 1, 1) := by decide +kernel
theorem dX12_whyNotRenew_19 : decode cX12_whyNotRenew 19 = .ok (.invokestatic 101, 3) := by decide +kernel
theorem dX12_whyNotRenew_22 : decode cX12_whyNotRenew 22 = .ok (.ifCond .ne 5, 3) := by decide +kernel
theorem dX12_whyNotRenew_25 : decode cX12_whyNotRenew 25 = .ok (.iconst 2, 1) := by decide +kernel
theorem dX12_whyNotRenew_26 : decode cX12_whyNotRenew 26 = .ok (.ireturn, 1) := by decide +kernel
theorem dX12_whyNotRenew_27 : decode cX12_whyNotRenew 27 = .ok (.aload_n 0, 1) := by decide +kernel
theorem dX12_whyNotRenew_28 : decode cX12_whyNotRenew 28 = .ok (.iload_n 1, 1) := by decide +kernel
theorem dX12_whyNotRenew_29 : decode cX12_whyNotRenew 29 = .ok (.invokestatic 125, 3) := by decide +kernel
theorem dX12_whyNotRenew_32 : decode cX12_whyNotRenew 32 = .ok (.aload_n 0, 1) := by decide +kernel
theorem dX12_whyNotRenew_33 : decode cX12_whyNotRenew 33 = .ok (.iload_n 2, 1) := by decide +kernel
theorem dX12_whyNotRenew_34 : decode cX12_whyNotRenew 34 = .ok (.bipush 6, 2) := by decide +kernel
theorem dX12_whyNotRenew_36 : decode cX12_whyNotRenew 36 = .ok (.iadd, 1) := by decide +kernel
theorem dX12_whyNotRenew_37 : decode cX12_whyNotRenew 37 = .ok (.iaload, 1) := by decide +kernel
theorem dX12_whyNotRenew_38 : decode cX12_whyNotRenew 38 = .ok (.if_icmp .gt 7, 3) := by decide +kernel
theorem dX12_whyNotRenew_41 : decode cX12_whyNotRenew 41 = .ok (.iconst 3, 1) := by decide +kernel
theorem dX12_whyNotRenew_42 : decode cX12_whyNotRenew 42 = .ok (.goto 4, 3) := by decide +kernel
theorem dX12_whyNotRenew_45 : decode cX12_whyNotRenew 45 = .ok (.iconst 0, 1) := by decide +kernel
theorem dX12_whyNotRenew_46 : decode cX12_whyNotRenew 46 = .ok (.ireturn, 1) := by decide +kernel
theorem dX12_isUsed_0 : decode cX12_isUsed 0 = .ok (.aload_n 0, 1) := by decide +kernel
theorem dX12_isUsed_1 : decode cX12_isUsed 1 = .ok (.iconst 0, 1) := by decide +kernel
theorem dX12_isUsed_2 : decode cX12_isUsed 2 = .ok (.iaload, 1) := by decide +kernel
theorem dX12_isUsed_3 : decode cX12_isUsed 3 = .ok (.aload_n 0, 1) := by decide +kernel
theorem dX12_isUsed_4 : decode cX12_isUsed 4 = .ok (.iload_n 1, 1) := by decide +kernel
theorem dX12_isUsed_5 : decode cX12_isUsed 5 = .ok (.invokestatic 87, 3) := by decide +kernel
theorem dX12_isUsed_8 : decode cX12_isUsed 8 = .ok (.iconst 3, 1) := by decide +kernel
theorem dX12_isUsed_9 : decode cX12_isUsed 9 = .ok (.iadd, 1) := by decide +kernel
theorem dX12_isUsed_10 : decode cX12_isUsed 10 = .ok (.iaload, 1) := by decide +kernel
theorem dX12_isUsed_11 : decode cX12_isUsed 11 = .ok (.iadd, 1) := by decide +kernel
theorem dX12_isUsed_12 : decode cX12_isUsed 12 = .ok (.istore_n 3, 1) := by decide +kernel
theorem dX12_isUsed_13 : decode cX12_isUsed 13 = .ok (.iconst 0, 1) := by decide +kernel
theorem dX12_isUsed_14 : decode cX12_isUsed 14 = .ok (.istore 4, 2) := by decide +kernel
theorem dX12_isUsed_16 : decode cX12_isUsed 16 = .ok (.iload 4, 2) := by decide +kernel
theorem dX12_isUsed_18 : decode cX12_isUsed 18 = .ok (.aload_n 0, 1) := by decide +kernel
theorem dX12_isUsed_19 : decode cX12_isUsed 19 = .ok (.bipush 8, 2) := by decide +kernel
theorem dX12_isUsed_21 : decode cX12_isUsed 21 = .ok (.iaload, 1) := by decide +kernel
theorem dX12_isUsed_22 : decode cX12_isUsed 22 = .ok (.if_icmp .ge 48, 3) := by decide +kernel
theorem dX12_isUsed_25 : decode cX12_isUsed 25 = .ok (.iload 4, 2) := by decide +kernel
theorem dX12_isUsed_27 : decode cX12_isUsed 27 = .ok (.invokestatic 128, 3) := by decide +kernel
theorem dX12_isUsed_30 : decode cX12_isUsed 30 = .ok (.istore 5, 2) := by decide +kernel
theorem dX12_isUsed_32 : decode cX12_isUsed 32 = .ok (.aload_n 0, 1) := by decide +kernel
theorem dX12_isUsed_33 : decode cX12_isUsed 33 = .ok (.iload 5, 2) := by decide +kernel
theorem dX12_isUsed_35 : decode cX12_isUsed 35 = .ok (.iconst 0, 1) := by decide +kernel
theorem dX12_isUsed_36 : decode cX12_isUsed 36 = .ok (.iadd, 1) := by decide +kernel
theorem dX12_isUsed_37 : decode cX12_isUsed 37 = .ok (.iaload, 1) := by decide +kernel
theorem dX12_isUsed_38 : decode cX12_isUsed 38 = .ok (.iload_n 1, 1) := by decide +kernel
theorem dX12_isUsed_39 : decode cX12_isUsed 39 = .ok (.if_icmp .ne 25, 3) := by decide +kernel
theorem dX12_isUsed_42 : decode cX12_isUsed 42 = .ok (.aload_n 0, 1) := by decide +kernel
theorem dX12_isUsed_43 : decode cX12_isUsed 43 = .ok (.iload 5, 2) := by decide +kernel
theorem dX12_isUsed_45 : decode cX12_isUsed 45 = .ok (.iconst 1, 1) := by decide +kernel
theorem dX12_isUsed_46 : decode cX12_isUsed 46 = .ok (.iadd, 1) := by decide +kernel
theorem dX12_isUsed_47 : decode cX12_isUsed 47 = .ok (.iaload, 1) := by decide +kernel
theorem dX12_isUsed_48 : decode cX12_isUsed 48 = .ok (.iload_n 2, 1) := by decide +kernel
theorem dX12_isUsed_49 : decode cX12_isUsed 49 = .ok (.if_icmp .ne 15, 3) := by decide +kernel
theorem dX12_isUsed_52 : decode cX12_isUsed 52 = .ok (.aload_n 0, 1) := by decide +kernel
theorem dX12_isUsed_53 : decode cX12_isUsed 53 = .ok (.iload 5, 2) := by decide +kernel
theorem dX12_isUsed_55 : decode cX12_isUsed 55 = .ok (.iconst 2, 1) := by decide +kernel
theorem dX12_isUsed_56 : decode cX12_isUsed 56 = .ok (.iadd, 1) := by decide +kernel
theorem dX12_isUsed_57 : decode cX12_isUsed 57 = .ok (.iaload, 1) := by decide +kernel
theorem dX12_isUsed_58 : decode cX12_isUsed 58 = .ok (.iload_n 3, 1) := by decide +kernel
theorem dX12_isUsed_59 : decode cX12_isUsed 59 = .ok (.if_icmp .ne 5, 3) := by decide +kernel
theorem dX12_isUsed_62 : decode cX12_isUsed 62 = .ok (.iconst 1, 1) := by decide +kernel
theorem dX12_isUsed_63 : decode cX12_isUsed 63 = .ok (.ireturn, 1) := by decide +kernel
theorem dX12_isUsed_64 : decode cX12_isUsed 64 = .ok (.iinc 4 1, 3) := by decide +kernel
theorem dX12_isUsed_67 : decode cX12_isUsed 67 = .ok (.goto (-51), 3) := by decide +kernel
theorem dX12_isUsed_70 : decode cX12_isUsed 70 = .ok (.iconst 0, 1) := by decide +kernel
theorem dX12_isUsed_71 : decode cX12_isUsed 71 = .ok (.ireturn, 1) := by decide +kernel
theorem dX12_whyNotCheese_0 : decode cX12_whyNotCheese 0 = .ok (.iload_n 1, 1) := by decide +kernel
theorem dX12_whyNotCheese_1 : decode cX12_whyNotCheese 1 = .ok (.invokestatic 98, 3) := by decide +kernel
theorem dX12_whyNotCheese_4 : decode cX12_whyNotCheese 4 = .ok (.istore_n 2, 1) := by decide +kernel
theorem dX12_whyNotCheese_5 : decode cX12_whyNotCheese 5 = .ok (.aload_n 0, 1) := by decide +kernel
theorem dX12_whyNotCheese_6 : decode cX12_whyNotCheese 6 = .ok (.iload_n 2, 1) := by decide +kernel
theorem dX12_whyNotCheese_7 : decode cX12_whyNotCheese 7 = .ok (.iconst 1, 1) := by decide +kernel
theorem dX12_whyNotCheese_8 : decode cX12_whyNotCheese 8 = .ok (.iadd, 1) := by decide +kernel
theorem dX12_whyNotCheese_9 : decode cX12_whyNotCheese 9 = .ok (.iaload, 1) := by decide +kernel
theorem dX12_whyNotCheese_10 : decode cX12_whyNotCheese 10 = .ok (.iconst 1, 1) := by decide +kernel
theorem dX12_whyNotCheese_11 : decode cX12_whyNotCheese 11 = .ok (.if_icmp .eq 5, 3) := by decide +kernel
theorem dX12_whyNotCheese_14 : decode cX12_whyNotCheese 14 = .ok (.iconst 1, 1) := by decide +kernel
theorem dX12_whyNotCheese_15 : decode cX12_whyNotCheese 15 = .ok (.ireturn, 1) := by decide +kernel
theorem dX12_whyNotCheese_16 : decode cX12_whyNotCheese 16 = .ok (.aload_n 0, 1) := by decide +kernel
theorem dX12_whyNotCheese_17 : decode cX12_whyNotCheese 17 = .ok (.iload_n 1, 1) := by decide +kernel
theorem dX12_whyNotCheese_18 : decode cX12_whyNotCheese 18 = .ok (.invokestatic 101, 3) := by decide +kernel
theorem dX12_whyNotCheese_21 : decode cX12_whyNotCheese 21 = .ok (.ifCond .ne 5, 3) := by decide +kernel
theorem dX12_whyNotCheese_24 : decode cX12_whyNotCheese 24 = .ok (.iconst 2, 1) := by decide +kernel
theorem dX12_whyNotCheese_25 : decode cX12_whyNotCheese 25 = .ok (.ireturn, 1) := by decide +kernel
theorem dX12_whyNotCheese_26 : decode cX12_whyNotCheese 26 = .ok (.aload_n 0, 1) := by decide +kernel
theorem dX12_whyNotCheese_27 : decode cX12_whyNotCheese 27 = .ok (.aload_n 0, 1) := by decide +kernel
theorem dX12_whyNotCheese_28 : decode cX12_whyNotCheese 28 = .ok (.iload_n 2, 1) := by decide +kernel
theorem dX12_whyNotCheese_29 : decode cX12_whyNotCheese 29 = .ok (.iconst 2, 1) := by decide +kernel
theorem dX12_whyNotCheese_30 : decode cX12_whyNotCheese 30 = .ok (.iadd, 1) := by decide +kernel
theorem dX12_whyNotCheese_31 : decode cX12_whyNotCheese 31 = .ok (.iaload, 1) := by decide +kernel
theorem dX12_whyNotCheese_32 : decode cX12_whyNotCheese 32 = .ok (.aload_n 0, 1) := by decide +kernel
theorem dX12_whyNotCheese_33 : decode cX12_whyNotCheese 33 = .ok (.iload_n 2, 1) := by decide +kernel
theorem dX12_whyNotCheese_34 : decode cX12_whyNotCheese 34 = .ok (.iconst 3, 1) := by decide +kernel
theorem dX12_whyNotCheese_35 : decode cX12_whyNotCheese 35 = .ok (.iadd, 1) := by decide +kernel
theorem dX12_whyNotCheese_36 : decode cX12_whyNotCheese 36 = .ok (.iaload, 1) := by decide +kernel
theorem dX12_whyNotCheese_37 : decode cX12_whyNotCheese 37 = .ok (.invokestatic 112, 3) := by decide +kernel
theorem dX12_whyNotCheese_40 : decode cX12_whyNotCheese 40 = .ok (.ifCond .eq 5, 3) := by decide +kernel
theorem dX12_whyNotCheese_43 : decode cX12_whyNotCheese 43 = .ok (.iconst 3, 1) := by decide +kernel
theorem dX12_whyNotCheese_44 : decode cX12_whyNotCheese 44 = .ok (.ireturn, 1) := by decide +kernel
theorem dX12_whyNotCheese_45 : decode cX12_whyNotCheese 45 = .ok (.aload_n 0, 1) := by decide +kernel
theorem dX12_whyNotCheese_46 : decode cX12_whyNotCheese 46 = .ok (.aload_n 0, 1) := by decide +kernel
theorem dX12_whyNotCheese_47 : decode cX12_whyNotCheese 47 = .ok (.iload_n 2, 1) := by decide +kernel
theorem dX12_whyNotCheese_48 : decode cX12_whyNotCheese 48 = .ok (.iconst 2, 1) := by decide +kernel
theorem dX12_whyNotCheese_49 : decode cX12_whyNotCheese 49 = .ok (.iadd, 1) := by decide +kernel
theorem dX12_whyNotCheese_50 : decode cX12_whyNotCheese 50 = .ok (.iaload, 1) := by decide +kernel
theorem dX12_whyNotCheese_51 : decode cX12_whyNotCheese 51 = .ok (.aload_n 0, 1) := by decide +kernel
theorem dX12_whyNotCheese_52 : decode cX12_whyNotCheese 52 = .ok (.iload_n 2, 1) := by decide +kernel
theorem dX12_whyNotCheese_53 : decode cX12_whyNotCheese 53 = .ok (.iconst 4, 1) := by decide +kernel
theorem dX12_whyNotCheese_54 : decode cX12_whyNotCheese 54 = .ok (.iadd, 1) := by decide +kernel
theorem dX12_whyNotCheese_55 : decode cX12_whyNotCheese 55 = .ok (.iaload, 1) := by decide +kernel
theorem dX12_whyNotCheese_56 : decode cX12_whyNotCheese 56 = .ok (.invokestatic 131, 3) := by decide +kernel
theorem dX12_whyNotCheese_59 : decode cX12_whyNotCheese 59 = .ok (.ifCond .eq 5, 3) := by decide +kernel
theorem dX12_whyNotCheese_62 : decode cX12_whyNotCheese 62 = .ok (.iconst 4, 1) := by decide +kernel
theorem dX12_whyNotCheese_63 : decode cX12_whyNotCheese 63 = .ok (.ireturn, 1) := by decide +kernel
theorem dX12_whyNotCheese_64 : decode cX12_whyNotCheese 64 = .ok (.aload_n 0, 1) := by decide +kernel
theorem dX12_whyNotCheese_65 : decode cX12_whyNotCheese 65 = .ok (.aload_n 0, 1) := by decide +kernel
theorem dX12_whyNotCheese_66 : decode cX12_whyNotCheese 66 = .ok (.iload_n 2, 1) := by decide +kernel
theorem dX12_whyNotCheese_67 : decode cX12_whyNotCheese 67 = .ok (.iconst 4, 1) := by decide +kernel
theorem dX12_whyNotCheese_68 : decode cX12_whyNotCheese 68 = .ok (.iadd, 1) := by decide +kernel
theorem dX12_whyNotCheese_69 : decode cX12_whyNotCheese 69 = .ok (.iaload, 1) := by decide +kernel
theorem dX12_whyNotCheese_70 : decode cX12_whyNotCheese 70 = .ok (.invokestatic 122, 3) := by decide +kernel
theorem dX12_whyNotCheese_73 : decode cX12_whyNotCheese 73 = .ok (.iconst 2, 1) := by decide +kernel
theorem dX12_whyNotCheese_74 : decode cX12_whyNotCheese 74 = .ok (.iadd, 1) := by decide +kernel
theorem dX12_whyNotCheese_75 : decode cX12_whyNotCheese 75 = .ok (.iaload, 1) := by decide +kernel
theorem dX12_whyNotCheese_76 : decode cX12_whyNotCheese 76 = .ok (.ifCond .ne 7, 3) := by decide +kernel
theorem dX12_whyNotCheese_79 : decode cX12_whyNotCheese 79 = .ok (.iconst 5, 1) := by decide +kernel
theorem dX12_whyNotCheese_80 : decode cX12_whyNotCheese 80 = .ok (.goto 4, 3) := by decide +kernel
theorem dX12_whyNotCheese_83 : decode cX12_whyNotCheese 83 = .ok (.iconst 0, 1) := by decide +kernel
theorem dX12_whyNotCheese_84 : decode cX12_whyNotCheese 84 = .ok (.ireturn, 1) := by decide +kernel
theorem dX12_enters_0 : decode cX12_enters 0 = .ok (.aload_n 0, 1) := by decide +kernel
theorem dX12_enters_1 : decode cX12_enters 1 = .ok (.iload_n 1, 1) := by decide +kernel
theorem dX12_enters_2 : decode cX12_enters 2 = .ok (.invokestatic 87, 3) := by decide +kernel
theorem dX12_enters_5 : decode cX12_enters 5 = .ok (.iconst 1, 1) := by decide +kernel
theorem dX12_enters_6 : decode cX12_enters 6 = .ok (.iadd, 1) := by decide +kernel
theorem dX12_enters_7 : decode cX12_enters 7 = .ok (.iaload, 1) := by decide +kernel
theorem dX12_enters_8 : decode cX12_enters 8 = .ok (.invokestatic 91, 3) := by decide +kernel
theorem dX12_enters_11 : decode cX12_enters 11 = .ok (.istore_n 3, 1) := by decide +kernel
theorem dX12_enters_12 : decode cX12_enters 12 = .ok (.aload_n 0, 1) := by decide +kernel
theorem dX12_enters_13 : decode cX12_enters 13 = .ok (.iload_n 1, 1) := by decide +kernel
theorem dX12_enters_14 : decode cX12_enters 14 = .ok (.aload_n 0, 1) := by decide +kernel
theorem dX12_enters_15 : decode cX12_enters 15 = .ok (.iload_n 1, 1) := by decide +kernel
theorem dX12_enters_16 : decode cX12_enters 16 = .ok (.invokestatic 87, 3) := by decide +kernel
theorem dX12_enters_19 : decode cX12_enters 19 = .ok (.iconst 1, 1) := by decide +kernel
theorem dX12_enters_20 : decode cX12_enters 20 = .ok (.iadd, 1) := by decide +kernel
theorem dX12_enters_21 : decode cX12_enters 21 = .ok (.iaload, 1) := by decide +kernel
theorem dX12_enters_22 : decode cX12_enters 22 = .ok (.iconst (-1), 1) := by decide +kernel
theorem dX12_enters_23 : decode cX12_enters 23 = .ok (.aload_n 0, 1) := by decide +kernel
theorem dX12_enters_24 : decode cX12_enters 24 = .ok (.iconst 0, 1) := by decide +kernel
theorem dX12_enters_25 : decode cX12_enters 25 = .ok (.iaload, 1) := by decide +kernel
theorem dX12_enters_26 : decode cX12_enters 26 = .ok (.aload_n 0, 1) := by decide +kernel
theorem dX12_enters_27 : decode cX12_enters 27 = .ok (.iload_n 3, 1) := by decide +kernel
theorem dX12_enters_28 : decode cX12_enters 28 = .ok (.iconst 1, 1) := by decide +kernel
theorem dX12_enters_29 : decode cX12_enters 29 = .ok (.iadd, 1) := by decide +kernel
theorem dX12_enters_30 : decode cX12_enters 30 = .ok (.iaload, 1) := by decide +kernel
theorem dX12_enters_31 : decode cX12_enters 31 = .ok (.iadd, 1) := by decide +kernel
theorem dX12_enters_32 : decode cX12_enters 32 = .ok (.aload_n 0, 1) := by decide +kernel
theorem dX12_enters_33 : decode cX12_enters 33 = .ok (.iconst 0, 1) := by decide +kernel
theorem dX12_enters_34 : decode cX12_enters 34 = .ok (.iaload, 1) := by decide +kernel
theorem dX12_enters_35 : decode cX12_enters 35 = .ok (.aload_n 0, 1) := by decide +kernel
theorem dX12_enters_36 : decode cX12_enters 36 = .ok (.iload_n 3, 1) := by decide +kernel
theorem dX12_enters_37 : decode cX12_enters 37 = .ok (.iconst 2, 1) := by decide +kernel
theorem dX12_enters_38 : decode cX12_enters 38 = .ok (.iadd, 1) := by decide +kernel
theorem dX12_enters_39 : decode cX12_enters 39 = .ok (.iaload, 1) := by decide +kernel
theorem dX12_enters_40 : decode cX12_enters 40 = .ok (.iadd, 1) := by decide +kernel
theorem dX12_enters_41 : decode cX12_enters 41 = .ok (.iload_n 2, 1) := by decide +kernel
theorem dX12_enters_42 : decode cX12_enters 42 = .ok (.ifCond .eq 7, 3) := by decide +kernel
theorem dX12_enters_45 : decode cX12_enters 45 = .ok (.iconst 1, 1) := by decide +kernel
theorem dX12_enters_46 : decode cX12_enters 46 = .ok (.goto 4, 3) := by decide +kernel
theorem dX12_enters_49 : decode cX12_enters 49 = .ok (.iconst 0, 1) := by decide +kernel
theorem dX12_enters_50 : decode cX12_enters 50 = .ok (.invokestatic 134, 3) := by decide +kernel
theorem dX12_enters_53 : decode cX12_enters 53 = .ok (.ireturn, 1) := by decide +kernel
theorem dX12_derive_0 : decode cX12_derive 0 = .ok (.iload_n 1, 1) := by decide +kernel
theorem dX12_derive_1 : decode cX12_derive 1 = .ok (.invokestatic 98, 3) := by decide +kernel
theorem dX12_derive_4 : decode cX12_derive 4 = .ok (.istore 4, 2) := by decide +kernel
theorem dX12_derive_6 : decode cX12_derive 6 = .ok (.aload_n 0, 1) := by decide +kernel
theorem dX12_derive_7 : decode cX12_derive 7 = .ok (.iconst 0, 1) := by decide +kernel
theorem dX12_derive_8 : decode cX12_derive 8 = .ok (.iaload, 1) := by decide +kernel
theorem dX12_derive_9 : decode cX12_derive 9 = .ok (.aload_n 0, 1) := by decide +kernel
theorem dX12_derive_10 : decode cX12_derive 10 = .ok (.iload_n 2, 1) := by decide +kernel
theorem dX12_derive_11 : decode cX12_derive 11 = .ok (.invokestatic 91, 3) := by decide +kernel
theorem dX12_derive_14 : decode cX12_derive 14 = .ok (.iconst 1, 1) := by decide +kernel
theorem dX12_derive_15 : decode cX12_derive 15 = .ok (.iadd, 1) := by decide +kernel
theorem dX12_derive_16 : decode cX12_derive 16 = .ok (.iaload, 1) := by decide +kernel
theorem dX12_derive_17 : decode cX12_derive 17 = .ok (.iadd, 1) := by decide +kernel
theorem dX12_derive_18 : decode cX12_derive 18 = .ok (.aload_n 0, 1) := by decide +kernel
theorem dX12_derive_19 : decode cX12_derive 19 = .ok (.iload 4, 2) := by decide +kernel
theorem dX12_derive_21 : decode cX12_derive 21 = .ok (.bipush 6, 2) := by decide +kernel
theorem dX12_derive_23 : decode cX12_derive 23 = .ok (.iadd, 1) := by decide +kernel
theorem dX12_derive_24 : decode cX12_derive 24 = .ok (.iaload, 1) := by decide +kernel
theorem dX12_derive_25 : decode cX12_derive 25 = .ok (.invokestatic 79, 3) := by decide +kernel
theorem dX12_derive_28 : decode cX12_derive 28 = .ok (.istore 5, 2) := by decide +kernel
theorem dX12_derive_30 : decode cX12_derive 30 = .ok (.aload_n 0, 1) := by decide +kernel
theorem dX12_derive_31 : decode cX12_derive 31 = .ok (.iconst 0, 1) := by decide +kernel
theorem dX12_derive_32 : decode cX12_derive 32 = .ok (.iaload, 1) := by decide +kernel
theorem dX12_derive_33 : decode cX12_derive 33 = .ok (.aload_n 0, 1) := by decide +kernel
theorem dX12_derive_34 : decode cX12_derive 34 = .ok (.iload_n 2, 1) := by decide +kernel
theorem dX12_derive_35 : decode cX12_derive 35 = .ok (.invokestatic 91, 3) := by decide +kernel
theorem dX12_derive_38 : decode cX12_derive 38 = .ok (.iconst 2, 1) := by decide +kernel
theorem dX12_derive_39 : decode cX12_derive 39 = .ok (.iadd, 1) := by decide +kernel
theorem dX12_derive_40 : decode cX12_derive 40 = .ok (.iaload, 1) := by decide +kernel
theorem dX12_derive_41 : decode cX12_derive 41 = .ok (.iadd, 1) := by decide +kernel
theorem dX12_derive_42 : decode cX12_derive 42 = .ok (.aload_n 0, 1) := by decide +kernel
theorem dX12_derive_43 : decode cX12_derive 43 = .ok (.iload 4, 2) := by decide +kernel
theorem dX12_derive_45 : decode cX12_derive 45 = .ok (.bipush 7, 2) := by decide +kernel
theorem dX12_derive_47 : decode cX12_derive 47 = .ok (.iadd, 1) := by decide +kernel
theorem dX12_derive_48 : decode cX12_derive 48 = .ok (.iaload, 1) := by decide +kernel
theorem dX12_derive_49 : decode cX12_derive 49 = .ok (.invokestatic 79, 3) := by decide +kernel
theorem dX12_derive_52 : decode cX12_derive 52 = .ok (.istore 6, 2) := by decide +kernel
theorem dX12_derive_54 : decode cX12_derive 54 = .ok (.aload_n 0, 1) := by decide +kernel
theorem dX12_derive_55 : decode cX12_derive 55 = .ok (.aload_n 0, 1) := by decide +kernel
theorem dX12_derive_56 : decode cX12_derive 56 = .ok (.iload 4, 2) := by decide +kernel
theorem dX12_derive_58 : decode cX12_derive 58 = .ok (.iconst 2, 1) := by decide +kernel
theorem dX12_derive_59 : decode cX12_derive 59 = .ok (.iadd, 1) := by decide +kernel
theorem dX12_derive_60 : decode cX12_derive 60 = .ok (.iaload, 1) := by decide +kernel
theorem dX12_derive_61 : decode cX12_derive 61 = .ok (.iload_n 2, 1) := by decide +kernel
theorem dX12_derive_62 : decode cX12_derive 62 = .ok (.iload_n 3, 1) := by decide +kernel
theorem dX12_derive_63 : decode cX12_derive 63 = .ok (.iload 5, 2) := by decide +kernel
theorem dX12_derive_65 : decode cX12_derive 65 = .ok (.iload 6, 2) := by decide +kernel
theorem dX12_derive_67 : decode cX12_derive 67 = .ok (.aload_n 0, 1) := by decide +kernel
theorem dX12_derive_68 : decode cX12_derive 68 = .ok (.iload 4, 2) := by decide +kernel
theorem dX12_derive_70 : decode cX12_derive 70 = .ok (.bipush 9, 2) := by decide +kernel
theorem dX12_derive_72 : decode cX12_derive 72 = .ok (.iadd, 1) := by decide +kernel
theorem dX12_derive_73 : decode cX12_derive 73 = .ok (.iaload, 1) := by decide +kernel
theorem dX12_derive_74 : decode cX12_derive 74 = .ok (.invokestatic 134, 3) := by decide +kernel
theorem dX12_derive_77 : decode cX12_derive 77 = .ok (.ireturn, 1) := by decide +kernel
theorem dX12_renews_0 : decode cX12_renews 0 = .ok (.iload_n 1, 1) := by decide +kernel
theorem dX12_renews_1 : decode cX12_renews 1 = .ok (.invokestatic 98, 3) := by decide +kernel
theorem dX12_renews_4 : decode cX12_renews 4 = .ok (.istore_n 2, 1) := by decide +kernel
theorem dX12_renews_5 : decode cX12_renews 5 = .ok (.aload_n 0, 1) := by decide +kernel
theorem dX12_renews_6 : decode cX12_renews 6 = .ok (.iload_n 2, 1) := by decide +kernel
theorem dX12_renews_7 : decode cX12_renews 7 = .ok (.bipush 6, 2) := by decide +kernel
theorem dX12_renews_9 : decode cX12_renews 9 = .ok (.iadd, 1) := by decide +kernel
theorem dX12_renews_10 : decode cX12_renews 10 = .ok (.aload_n 0, 1) := by decide +kernel
theorem dX12_renews_11 : decode cX12_renews 11 = .ok (.iload_n 1, 1) := by decide +kernel
theorem dX12_renews_12 : decode cX12_renews 12 = .ok (.invokestatic 125, 3) := by decide +kernel
theorem dX12_renews_15 : decode cX12_renews 15 = .ok (.iastore, 1) := by decide +kernel
theorem dX12_renews_16 : decode cX12_renews 16 = .ok (.aload_n 0, 1) := by decide +kernel
theorem dX12_renews_17 : decode cX12_renews 17 = .ok (.iload_n 2, 1) := by decide +kernel
theorem dX12_renews_18 : decode cX12_renews 18 = .ok (.bipush 8, 2) := by decide +kernel
theorem dX12_renews_20 : decode cX12_renews 20 = .ok (.iadd, 1) := by decide +kernel
theorem dX12_renews_21 : decode cX12_renews 21 = .ok (.aload_n 0, 1) := by decide +kernel
theorem dX12_renews_22 : decode cX12_renews 22 = .ok (.invokestatic 108, 3) := by decide +kernel
theorem dX12_renews_25 : decode cX12_renews 25 = .ok (.iastore, 1) := by decide +kernel
theorem dX12_renews_26 : decode cX12_renews 26 = .ok (.aload_n 0, 1) := by decide +kernel
theorem dX12_renews_27 : decode cX12_renews 27 = .ok (.iload_n 2, 1) := by decide +kernel
theorem dX12_renews_28 : decode cX12_renews 28 = .ok (.bipush 6, 2) := by decide +kernel
theorem dX12_renews_30 : decode cX12_renews 30 = .ok (.iadd, 1) := by decide +kernel
theorem dX12_renews_31 : decode cX12_renews 31 = .ok (.iaload, 1) := by decide +kernel
theorem dX12_renews_32 : decode cX12_renews 32 = .ok (.ireturn, 1) := by decide +kernel
theorem dX12_remindUse_0 : decode cX12_remindUse 0 = .ok (.aload_n 0, 1) := by decide +kernel
theorem dX12_remindUse_1 : decode cX12_remindUse 1 = .ok (.bipush 8, 2) := by decide +kernel
theorem dX12_remindUse_3 : decode cX12_remindUse 3 = .ok (.iaload, 1) := by decide +kernel
theorem dX12_remindUse_4 : decode cX12_remindUse 4 = .ok (.bipush 30, 2) := by decide +kernel
theorem dX12_remindUse_6 : decode cX12_remindUse 6 = .ok (.if_icmp .ne 40, 3) := by decide +kernel
theorem dX12_remindUse_9 : decode cX12_remindUse 9 = .ok (.aload_n 0, 1) := by decide +kernel
theorem dX12_remindUse_10 : decode cX12_remindUse 10 = .ok (.bipush 8, 2) := by decide +kernel
theorem dX12_remindUse_12 : decode cX12_remindUse 12 = .ok (.dup2, 1) := by decide +kernel
theorem dX12_remindUse_13 : decode cX12_remindUse 13 = .ok (.iaload, 1) := by decide +kernel
theorem dX12_remindUse_14 : decode cX12_remindUse 14 = .ok (.iconst 1, 1) := by decide +kernel
theorem dX12_remindUse_15 : decode cX12_remindUse 15 = .ok (.isub, 1) := by decide +kernel
theorem dX12_remindUse_16 : decode cX12_remindUse 16 = .ok (.iastore, 1) := by decide +kernel
theorem dX12_remindUse_17 : decode cX12_remindUse 17 = .ok (.sipush 343, 3) := by decide +kernel
theorem dX12_remindUse_20 : decode cX12_remindUse 20 = .ok (.istore_n 3, 1) := by decide +kernel
theorem dX12_remindUse_21 : decode cX12_remindUse 21 = .ok (.iload_n 3, 1) := by decide +kernel
theorem dX12_remindUse_22 : decode cX12_remindUse 22 = .ok (.aload_n 0, 1) := by decide +kernel
theorem dX12_remindUse_23 : decode cX12_remindUse 23 = .ok (.bipush 8, 2) := by decide +kernel
theorem dX12_remindUse_25 : decode cX12_remindUse 25 = .ok (.iaload, 1) := by decide +kernel
theorem dX12_remindUse_26 : decode cX12_remindUse 26 = .ok (.invokestatic 128, 3) := by decide +kernel
theorem dX12_remindUse_29 : decode cX12_remindUse 29 = .ok (.if_icmp .ge 17, 3) := by decide +kernel
theorem dX12_remindUse_32 : decode cX12_remindUse 32 = .ok (.aload_n 0, 1) := by decide +kernel
theorem dX12_remindUse_33 : decode cX12_remindUse 33 = .ok (.iload_n 3, 1) := by decide +kernel
theorem dX12_remindUse_34 : decode cX12_remindUse 34 = .ok (.aload_n 0, 1) := by decide +kernel
theorem dX12_remindUse_35 : decode cX12_remindUse 35 = .ok (.iload_n 3, 1) := by decide +kernel
theorem dX12_remindUse_36 : decode cX12_remindUse 36 = .ok (.iconst 4, 1) := by decide +kernel
theorem dX12_remindUse_37 : decode cX12_remindUse 37 = .ok (.iadd, 1) := by decide +kernel
theorem dX12_remindUse_38 : decode cX12_remindUse 38 = .ok (.iaload, 1) := by decide +kernel
theorem dX12_remindUse_39 : decode cX12_remindUse 39 = .ok (.iastore, 1) := by decide +kernel
theorem dX12_remindUse_40 : decode cX12_remindUse 40 = .ok (.iinc 3 1, 3) := by decide +kernel
theorem dX12_remindUse_43 : decode cX12_remindUse 43 = .ok (.goto (-22), 3) := by decide +kernel
theorem dX12_remindUse_46 : decode cX12_remindUse 46 = .ok (.aload_n 0, 1) := by decide +kernel
theorem dX12_remindUse_47 : decode cX12_remindUse 47 = .ok (.bipush 8, 2) := by decide +kernel
theorem dX12_remindUse_49 : decode cX12_remindUse 49 = .ok (.iaload, 1) := by decide +kernel
theorem dX12_remindUse_50 : decode cX12_remindUse 50 = .ok (.invokestatic 128, 3) := by decide +kernel
theorem dX12_remindUse_53 : decode cX12_remindUse 53 = .ok (.istore_n 3, 1) := by decide +kernel
theorem dX12_remindUse_54 : decode cX12_remindUse 54 = .ok (.aload_n 0, 1) := by decide +kernel
theorem dX12_remindUse_55 : decode cX12_remindUse 55 = .ok (.iload_n 3, 1) := by decide +kernel
theorem dX12_remindUse_56 : decode cX12_remindUse 56 = .ok (.iconst 0, 1) := by decide +kernel
theorem dX12_remindUse_57 : decode cX12_remindUse 57 = .ok (.iadd, 1) := by decide +kernel
theorem dX12_remindUse_58 : decode cX12_remindUse 58 = .ok (.iload_n 1, 1) := by decide +kernel
theorem dX12_remindUse_59 : decode cX12_remindUse 59 = .ok (.iastore, 1) := by decide +kernel
theorem dX12_remindUse_60 : decode cX12_remindUse 60 = .ok (.aload_n 0, 1) := by decide +kernel
theorem dX12_remindUse_61 : decode cX12_remindUse 61 = .ok (.iload_n 3, 1) := by decide +kernel
theorem dX12_remindUse_62 : decode cX12_remindUse 62 = .ok (.iconst 1, 1) := by decide +kernel
theorem dX12_remindUse_63 : decode cX12_remindUse 63 = .ok (.iadd, 1) := by decide +kernel
theorem dX12_remindUse_64 : decode cX12_remindUse 64 = .ok (.iload_n 2, 1) := by decide +kernel
theorem dX12_remindUse_65 : decode cX12_remindUse 65 = .ok (.iastore, 1) := by decide +kernel
theorem dX12_remindUse_66 : decode cX12_remindUse 66 = .ok (.aload_n 0, 1) := by decide +kernel
theorem dX12_remindUse_67 : decode cX12_remindUse 67 = .ok (.iload_n 3, 1) := by decide +kernel
theorem dX12_remindUse_68 : decode cX12_remindUse 68 = .ok (.iconst 2, 1) := by decide +kernel
theorem dX12_remindUse_69 : decode cX12_remindUse 69 = .ok (.iadd, 1) := by decide +kernel
theorem dX12_remindUse_70 : decode cX12_remindUse 70 = .ok (.aload_n 0, 1) := by decide +kernel
theorem dX12_remindUse_71 : decode cX12_remindUse 71 = .ok (.iconst 0, 1) := by decide +kernel
theorem dX12_remindUse_72 : decode cX12_remindUse 72 = .ok (.iaload, 1) := by decide +kernel
theorem dX12_remindUse_73 : decode cX12_remindUse 73 = .ok (.aload_n 0, 1) := by decide +kernel
theorem dX12_remindUse_74 : decode cX12_remindUse 74 = .ok (.iload_n 1, 1) := by decide +kernel
theorem dX12_remindUse_75 : decode cX12_remindUse 75 = .ok (.invokestatic 87, 3) := by decide +kernel
theorem dX12_remindUse_78 : decode cX12_remindUse 78 = .ok (.iconst 3, 1) := by decide +kernel
theorem dX12_remindUse_79 : decode cX12_remindUse 79 = .ok (.iadd, 1) := by decide +kernel
theorem dX12_remindUse_80 : decode cX12_remindUse 80 = .ok (.iaload, 1) := by decide +kernel
theorem dX12_remindUse_81 : decode cX12_remindUse 81 = .ok (.iadd, 1) := by decide +kernel
theorem dX12_remindUse_82 : decode cX12_remindUse 82 = .ok (.iastore, 1) := by decide +kernel
theorem dX12_remindUse_83 : decode cX12_remindUse 83 = .ok (.aload_n 0, 1) := by decide +kernel
theorem dX12_remindUse_84 : decode cX12_remindUse 84 = .ok (.iload_n 3, 1) := by decide +kernel
theorem dX12_remindUse_85 : decode cX12_remindUse 85 = .ok (.iconst 3, 1) := by decide +kernel
theorem dX12_remindUse_86 : decode cX12_remindUse 86 = .ok (.iadd, 1) := by decide +kernel
theorem dX12_remindUse_87 : decode cX12_remindUse 87 = .ok (.aload_n 0, 1) := by decide +kernel
theorem dX12_remindUse_88 : decode cX12_remindUse 88 = .ok (.iconst 0, 1) := by decide +kernel
theorem dX12_remindUse_89 : decode cX12_remindUse 89 = .ok (.iaload, 1) := by decide +kernel
theorem dX12_remindUse_90 : decode cX12_remindUse 90 = .ok (.iastore, 1) := by decide +kernel
theorem dX12_remindUse_91 : decode cX12_remindUse 91 = .ok (.aload_n 0, 1) := by decide +kernel
theorem dX12_remindUse_92 : decode cX12_remindUse 92 = .ok (.bipush 8, 2) := by decide +kernel
theorem dX12_remindUse_94 : decode cX12_remindUse 94 = .ok (.dup2, 1) := by decide +kernel
theorem dX12_remindUse_95 : decode cX12_remindUse 95 = .ok (.iaload, 1) := by decide +kernel
theorem dX12_remindUse_96 : decode cX12_remindUse 96 = .ok (.iconst 1, 1) := by decide +kernel
theorem dX12_remindUse_97 : decode cX12_remindUse 97 = .ok (.iadd, 1) := by decide +kernel
theorem dX12_remindUse_98 : decode cX12_remindUse 98 = .ok (.iastore, 1) := by decide +kernel
theorem dX12_remindUse_99 : decode cX12_remindUse 99 = .ok (.return_, 1) := by decide +kernel
theorem dX12_gives_0 : decode cX12_gives 0 = .ok (.aload_n 0, 1) := by decide +kernel
theorem dX12_gives_1 : decode cX12_gives 1 = .ok (.iload_n 1, 1) := by decide +kernel
theorem dX12_gives_2 : decode cX12_gives 2 = .ok (.invokestatic 98, 3) := by decide +kernel
theorem dX12_gives_5 : decode cX12_gives 5 = .ok (.iconst 2, 1) := by decide +kernel
theorem dX12_gives_6 : decode cX12_gives 6 = .ok (.iadd, 1) := by decide +kernel
theorem dX12_gives_7 : decode cX12_gives 7 = .ok (.iaload, 1) := by decide +kernel
theorem dX12_gives_8 : decode cX12_gives 8 = .ok (.istore_n 2, 1) := by decide +kernel
theorem dX12_gives_9 : decode cX12_gives 9 = .ok (.aload_n 0, 1) := by decide +kernel
theorem dX12_gives_10 : decode cX12_gives 10 = .ok (.iload_n 1, 1) := by decide +kernel
theorem dX12_gives_11 : decode cX12_gives 11 = .ok (.invokestatic 98, 3) := by decide +kernel
theorem dX12_gives_14 : decode cX12_gives 14 = .ok (.iconst 4, 1) := by decide +kernel
theorem dX12_gives_15 : decode cX12_gives 15 = .ok (.iadd, 1) := by decide +kernel
theorem dX12_gives_16 : decode cX12_gives 16 = .ok (.iaload, 1) := by decide +kernel
theorem dX12_gives_17 : decode cX12_gives 17 = .ok (.istore_n 3, 1) := by decide +kernel
theorem dX12_gives_18 : decode cX12_gives 18 = .ok (.aload_n 0, 1) := by decide +kernel
theorem dX12_gives_19 : decode cX12_gives 19 = .ok (.iload_n 3, 1) := by decide +kernel
theorem dX12_gives_20 : decode cX12_gives 20 = .ok (.invokestatic 122, 3) := by decide +kernel
theorem dX12_gives_23 : decode cX12_gives 23 = .ok (.iconst 2, 1) := by decide +kernel
theorem dX12_gives_24 : decode cX12_gives 24 = .ok (.iadd, 1) := by decide +kernel
theorem dX12_gives_25 : decode cX12_gives 25 = .ok (.dup2, 1) := by decide +kernel
theorem dX12_gives_26 : decode cX12_gives 26 = .ok (.iaload, 1) := by decide +kernel
theorem dX12_gives_27 : decode cX12_gives 27 = .ok (.iconst 1, 1) := by decide +kernel
theorem dX12_gives_28 : decode cX12_gives 28 = .ok (.isub, 1) := by decide +kernel
theorem dX12_gives_29 : decode cX12_gives 29 = .ok (.iastore, 1) := by decide +kernel
theorem dX12_gives_30 : decode cX12_gives 30 = .ok (.aload_n 0, 1) := by decide +kernel
theorem dX12_gives_31 : decode cX12_gives 31 = .ok (.iload_n 2, 1) := by decide +kernel
theorem dX12_gives_32 : decode cX12_gives 32 = .ok (.invokestatic 87, 3) := by decide +kernel
theorem dX12_gives_35 : decode cX12_gives 35 = .ok (.iconst 4, 1) := by decide +kernel
theorem dX12_gives_36 : decode cX12_gives 36 = .ok (.iadd, 1) := by decide +kernel
theorem dX12_gives_37 : decode cX12_gives 37 = .ok (.dup2, 1) := by decide +kernel
theorem dX12_gives_38 : decode cX12_gives 38 = .ok (.iaload, 1) := by decide +kernel
theorem dX12_gives_39 : decode cX12_gives 39 = .ok (.iconst 1, 1) := by decide +kernel
theorem dX12_gives_40 : decode cX12_gives 40 = .ok (.iadd, 1) := by decide +kernel
theorem dX12_gives_41 : decode cX12_gives 41 = .ok (.iastore, 1) := by decide +kernel
theorem dX12_gives_42 : decode cX12_gives 42 = .ok (.aload_n 0, 1) := by decide +kernel
theorem dX12_gives_43 : decode cX12_gives 43 = .ok (.iload_n 2, 1) := by decide +kernel
theorem dX12_gives_44 : decode cX12_gives 44 = .ok (.iload_n 3, 1) := by decide +kernel
theorem dX12_gives_45 : decode cX12_gives 45 = .ok (.invokestatic 138, 3) := by decide +kernel
theorem dX12_gives_48 : decode cX12_gives 48 = .ok (.aload_n 0, 1) := by decide +kernel
theorem dX12_gives_49 : decode cX12_gives 49 = .ok (.iload_n 2, 1) := by decide +kernel
theorem dX12_gives_50 : decode cX12_gives 50 = .ok (.invokestatic 87, 3) := by decide +kernel
theorem dX12_gives_53 : decode cX12_gives 53 = .ok (.iconst 4, 1) := by decide +kernel
theorem dX12_gives_54 : decode cX12_gives 54 = .ok (.iadd, 1) := by decide +kernel
theorem dX12_gives_55 : decode cX12_gives 55 = .ok (.iaload, 1) := by decide +kernel
theorem dX12_gives_56 : decode cX12_gives 56 = .ok (.ireturn, 1) := by decide +kernel
theorem dX12_drops_0 : decode cX12_drops 0 = .ok (.aload_n 0, 1) := by decide +kernel
theorem dX12_drops_1 : decode cX12_drops 1 = .ok (.bipush 6, 2) := by decide +kernel
theorem dX12_drops_3 : decode cX12_drops 3 = .ok (.dup2, 1) := by decide +kernel
theorem dX12_drops_4 : decode cX12_drops 4 = .ok (.iaload, 1) := by decide +kernel
theorem dX12_drops_5 : decode cX12_drops 5 = .ok (.iconst 1, 1) := by decide +kernel
theorem dX12_drops_6 : decode cX12_drops 6 = .ok (.isub, 1) := by decide +kernel
theorem dX12_drops_7 : decode cX12_drops 7 = .ok (.iastore, 1) := by decide +kernel
theorem dX12_drops_8 : decode cX12_drops 8 = .ok (.iload_n 1, 1) := by decide +kernel
theorem dX12_drops_9 : decode cX12_drops 9 = .ok (.invokestatic 98, 3) := by decide +kernel
theorem dX12_drops_12 : decode cX12_drops 12 = .ok (.istore_n 2, 1) := by decide +kernel
theorem dX12_drops_13 : decode cX12_drops 13 = .ok (.iload_n 2, 1) := by decide +kernel
theorem dX12_drops_14 : decode cX12_drops 14 = .ok (.aload_n 0, 1) := by decide +kernel
theorem dX12_drops_15 : decode cX12_drops 15 = .ok (.bipush 6, 2) := by decide +kernel
theorem dX12_drops_17 : decode cX12_drops 17 = .ok (.iaload, 1) := by decide +kernel
theorem dX12_drops_18 : decode cX12_drops 18 = .ok (.invokestatic 98, 3) := by decide +kernel
theorem dX12_drops_21 : decode cX12_drops 21 = .ok (.if_icmp .ge 18, 3) := by decide +kernel
theorem dX12_drops_24 : decode cX12_drops 24 = .ok (.aload_n 0, 1) := by decide +kernel
theorem dX12_drops_25 : decode cX12_drops 25 = .ok (.iload_n 2, 1) := by decide +kernel
theorem dX12_drops_26 : decode cX12_drops 26 = .ok (.aload_n 0, 1) := by decide +kernel
theorem dX12_drops_27 : decode cX12_drops 27 = .ok (.iload_n 2, 1) := by decide +kernel
theorem dX12_drops_28 : decode cX12_drops 28 = .ok (.bipush 10, 2) := by decide +kernel
theorem dX12_drops_30 : decode cX12_drops 30 = .ok (.iadd, 1) := by decide +kernel
theorem dX12_drops_31 : decode cX12_drops 31 = .ok (.iaload, 1) := by decide +kernel
theorem dX12_drops_32 : decode cX12_drops 32 = .ok (.iastore, 1) := by decide +kernel
theorem dX12_drops_33 : decode cX12_drops 33 = .ok (.iinc 2 1, 3) := by decide +kernel
theorem dX12_drops_36 : decode cX12_drops 36 = .ok (.goto (-23), 3) := by decide +kernel
theorem dX12_drops_39 : decode cX12_drops 39 = .ok (.aload_n 0, 1) := by decide +kernel
theorem dX12_drops_40 : decode cX12_drops 40 = .ok (.bipush 6, 2) := by decide +kernel
theorem dX12_drops_42 : decode cX12_drops 42 = .ok (.iaload, 1) := by decide +kernel
theorem dX12_drops_43 : decode cX12_drops 43 = .ok (.ireturn, 1) := by decide +kernel
theorem dX12_sweeps_0 : decode cX12_sweeps 0 = .ok (.aload_n 0, 1) := by decide +kernel
theorem dX12_sweeps_1 : decode cX12_sweeps 1 = .ok (.bipush 6, 2) := by decide +kernel
theorem dX12_sweeps_3 : decode cX12_sweeps 3 = .ok (.iaload, 1) := by decide +kernel
theorem dX12_sweeps_4 : decode cX12_sweeps 4 = .ok (.istore_n 1, 1) := by decide +kernel
theorem dX12_sweeps_5 : decode cX12_sweeps 5 = .ok (.iload_n 1, 1) := by decide +kernel
theorem dX12_sweeps_6 : decode cX12_sweeps 6 = .ok (.iconst 1, 1) := by decide +kernel
theorem dX12_sweeps_7 : decode cX12_sweeps 7 = .ok (.isub, 1) := by decide +kernel
theorem dX12_sweeps_8 : decode cX12_sweeps 8 = .ok (.istore_n 2, 1) := by decide +kernel
theorem dX12_sweeps_9 : decode cX12_sweeps 9 = .ok (.iload_n 2, 1) := by decide +kernel
theorem dX12_sweeps_10 : decode cX12_sweeps 10 = .ok (.ifCond .lt 27, 3) := by decide +kernel
theorem dX12_sweeps_13 : decode cX12_sweeps 13 = .ok (.aload_n 0, 1) := by decide +kernel
theorem dX12_sweeps_14 : decode cX12_sweeps 14 = .ok (.iload_n 2, 1) := by decide +kernel
theorem dX12_sweeps_15 : decode cX12_sweeps 15 = .ok (.invokestatic 101, 3) := by decide +kernel
theorem dX12_sweeps_18 : decode cX12_sweeps 18 = .ok (.ifCond .ne 13, 3) := by decide +kernel
theorem dX12_sweeps_21 : decode cX12_sweeps 21 = .ok (.aload_n 0, 1) := by decide +kernel
theorem dX12_sweeps_22 : decode cX12_sweeps 22 = .ok (.iload_n 2, 1) := by decide +kernel
theorem dX12_sweeps_23 : decode cX12_sweeps 23 = .ok (.invokestatic 142, 3) := by decide +kernel
theorem dX12_sweeps_26 : decode cX12_sweeps 26 = .ok (.ifCond .ge 5, 3) := by decide +kernel
theorem dX12_sweeps_29 : decode cX12_sweeps 29 = .ok (.iconst (-1), 1) := by decide +kernel
theorem dX12_sweeps_30 : decode cX12_sweeps 30 = .ok (.ireturn, 1) := by decide +kernel
theorem dX12_sweeps_31 : decode cX12_sweeps 31 = .ok (.iinc 2 (-1), 3) := by decide +kernel
theorem dX12_sweeps_34 : decode cX12_sweeps 34 = .ok (.goto (-25), 3) := by decide +kernel
theorem dX12_sweeps_37 : decode cX12_sweeps 37 = .ok (.iload_n 1, 1) := by decide +kernel
theorem dX12_sweeps_38 : decode cX12_sweeps 38 = .ok (.aload_n 0, 1) := by decide +kernel
theorem dX12_sweeps_39 : decode cX12_sweeps 39 = .ok (.bipush 6, 2) := by decide +kernel
theorem dX12_sweeps_41 : decode cX12_sweeps 41 = .ok (.iaload, 1) := by decide +kernel
theorem dX12_sweeps_42 : decode cX12_sweeps 42 = .ok (.isub, 1) := by decide +kernel
theorem dX12_sweeps_43 : decode cX12_sweeps 43 = .ok (.ireturn, 1) := by decide +kernel
theorem dX12_forget_0 : decode cX12_forget 0 = .ok (.iconst 0, 1) := by decide +kernel
theorem dX12_forget_1 : decode cX12_forget 1 = .ok (.istore_n 1, 1) := by decide +kernel
theorem dX12_forget_2 : decode cX12_forget 2 = .ok (.iconst 0, 1) := by decide +kernel
theorem dX12_forget_3 : decode cX12_forget 3 = .ok (.istore_n 2, 1) := by decide +kernel
theorem dX12_forget_4 : decode cX12_forget 4 = .ok (.iload_n 2, 1) := by decide +kernel
theorem dX12_forget_5 : decode cX12_forget 5 = .ok (.aload_n 0, 1) := by decide +kernel
theorem dX12_forget_6 : decode cX12_forget 6 = .ok (.bipush 8, 2) := by decide +kernel
theorem dX12_forget_8 : decode cX12_forget 8 = .ok (.iaload, 1) := by decide +kernel
theorem dX12_forget_9 : decode cX12_forget 9 = .ok (.if_icmp .ge 82, 3) := by decide +kernel
theorem dX12_forget_12 : decode cX12_forget 12 = .ok (.aload_n 0, 1) := by decide +kernel
theorem dX12_forget_13 : decode cX12_forget 13 = .ok (.iconst 0, 1) := by decide +kernel
theorem dX12_forget_14 : decode cX12_forget 14 = .ok (.iaload, 1) := by decide +kernel
theorem dX12_forget_15 : decode cX12_forget 15 = .ok (.aload_n 0, 1) := by decide +kernel
theorem dX12_forget_16 : decode cX12_forget 16 = .ok (.iload_n 2, 1) := by decide +kernel
theorem dX12_forget_17 : decode cX12_forget 17 = .ok (.invokestatic 128, 3) := by decide +kernel
theorem dX12_forget_20 : decode cX12_forget 20 = .ok (.iconst 3, 1) := by decide +kernel
theorem dX12_forget_21 : decode cX12_forget 21 = .ok (.iadd, 1) := by decide +kernel
theorem dX12_forget_22 : decode cX12_forget 22 = .ok (.iaload, 1) := by decide +kernel
theorem dX12_forget_23 : decode cX12_forget 23 = .ok (.isub, 1) := by decide +kernel
theorem dX12_forget_24 : decode cX12_forget 24 = .ok (.aload_n 0, 1) := by decide +kernel
theorem dX12_forget_25 : decode cX12_forget 25 = .ok (.iconst 1, 1) := by decide +kernel
theorem dX12_forget_26 : decode cX12_forget 26 = .ok (.iaload, 1) := by decide +kernel
theorem dX12_forget_27 : decode cX12_forget 27 = .ok (.if_icmp .gt 7, 3) := by decide +kernel
theorem dX12_forget_30 : decode cX12_forget 30 = .ok (.iconst 1, 1) := by decide +kernel
theorem dX12_forget_31 : decode cX12_forget 31 = .ok (.goto 4, 3) := by decide +kernel
theorem dX12_forget_34 : decode cX12_forget 34 = .ok (.iconst 0, 1) := by decide +kernel
theorem dX12_forget_35 : decode cX12_forget 35 = .ok (.istore_n 3, 1) := by decide +kernel
theorem dX12_forget_36 : decode cX12_forget 36 = .ok (.iconst 0, 1) := by decide +kernel
theorem dX12_forget_37 : decode cX12_forget 37 = .ok (.istore 4, 2) := by decide +kernel
theorem dX12_forget_39 : decode cX12_forget 39 = .ok (.iload 4, 2) := by decide +kernel
theorem dX12_forget_41 : decode cX12_forget 41 = .ok (.iconst 4, 1) := by decide +kernel
theorem dX12_forget_42 : decode cX12_forget 42 = .ok (.if_icmp .ge 31, 3) := by decide +kernel
theorem dX12_forget_45 : decode cX12_forget 45 = .ok (.iload_n 3, 1) := by decide +kernel
theorem dX12_forget_46 : decode cX12_forget 46 = .ok (.ifCond .eq 27, 3) := by decide +kernel
theorem dX12_forget_49 : decode cX12_forget 49 = .ok (.aload_n 0, 1) := by decide +kernel
theorem dX12_forget_50 : decode cX12_forget 50 = .ok (.iload_n 1, 1) := by decide +kernel
theorem dX12_forget_51 : decode cX12_forget 51 = .ok (.invokestatic 128, 3) := by decide +kernel
theorem dX12_forget_54 : decode cX12_forget 54 = .ok (.iload 4, 2) := by decide +kernel
theorem dX12_forget_56 : decode cX12_forget 56 = .ok (.iadd, 1) := by decide +kernel
theorem dX12_forget_57 : decode cX12_forget 57 = .ok (.aload_n 0, 1) := by decide +kernel
theorem dX12_forget_58 : decode cX12_forget 58 = .ok (.iload_n 2, 1) := by decide +kernel
theorem dX12_forget_59 : decode cX12_forget 59 = .ok (.invokestatic 128, 3) := by decide +kernel
theorem dX12_forget_62 : decode cX12_forget 62 = .ok (.iload 4, 2) := by decide +kernel
theorem dX12_forget_64 : decode cX12_forget 64 = .ok (.iadd, 1) := by decide +kernel
theorem dX12_forget_65 : decode cX12_forget 65 = .ok (.iaload, 1) := by decide +kernel
theorem dX12_forget_66 : decode cX12_forget 66 = .ok (.iastore, 1) := by decide +kernel
theorem dX12_forget_67 : decode cX12_forget 67 = .ok (.iinc 4 1, 3) := by decide +kernel
theorem dX12_forget_70 : decode cX12_forget 70 = .ok (.goto (-31), 3) := by decide +kernel
theorem dX12_forget_73 : decode cX12_forget 73 = .ok (.iload_n 1, 1) := by decide +kernel
theorem dX12_forget_74 : decode cX12_forget 74 = .ok (.iload_n 3, 1) := by decide +kernel
theorem dX12_forget_75 : decode cX12_forget 75 = .ok (.ifCond .eq 7, 3) := by decide +kernel
theorem dX12_forget_78 : decode cX12_forget 78 = .ok (.iconst 1, 1) := by decide +kernel
theorem dX12_forget_79 : decode cX12_forget 79 = .ok (.goto 4, 3) := by decide +kernel
theorem dX12_forget_82 : decode cX12_forget 82 = .ok (.iconst 0, 1) := by decide +kernel
theorem dX12_forget_83 : decode cX12_forget 83 = .ok (.iadd, 1) := by decide +kernel
theorem dX12_forget_84 : decode cX12_forget 84 = .ok (.istore_n 1, 1) := by decide +kernel
theorem dX12_forget_85 : decode cX12_forget 85 = .ok (.iinc 2 1, 3) := by decide +kernel
theorem dX12_forget_88 : decode cX12_forget 88 = .ok (.goto (-84), 3) := by decide +kernel
theorem dX12_forget_91 : decode cX12_forget 91 = .ok (.aload_n 0, 1) := by decide +kernel
theorem dX12_forget_92 : decode cX12_forget 92 = .ok (.bipush 8, 2) := by decide +kernel
theorem dX12_forget_94 : decode cX12_forget 94 = .ok (.iload_n 1, 1) := by decide +kernel
theorem dX12_forget_95 : decode cX12_forget 95 = .ok (.iastore, 1) := by decide +kernel
theorem dX12_forget_96 : decode cX12_forget 96 = .ok (.return_, 1) := by decide +kernel
theorem dX12_passes_0 : decode cX12_passes 0 = .ok (.aload_n 0, 1) := by decide +kernel
theorem dX12_passes_1 : decode cX12_passes 1 = .ok (.invokestatic 145, 3) := by decide +kernel
theorem dX12_passes_4 : decode cX12_passes 4 = .ok (.istore_n 2, 1) := by decide +kernel
theorem dX12_passes_5 : decode cX12_passes 5 = .ok (.aload_n 0, 1) := by decide +kernel
theorem dX12_passes_6 : decode cX12_passes 6 = .ok (.iconst 0, 1) := by decide +kernel
theorem dX12_passes_7 : decode cX12_passes 7 = .ok (.dup2, 1) := by decide +kernel
theorem dX12_passes_8 : decode cX12_passes 8 = .ok (.iaload, 1) := by decide +kernel
theorem dX12_passes_9 : decode cX12_passes 9 = .ok (.iload_n 1, 1) := by decide +kernel
theorem dX12_passes_10 : decode cX12_passes 10 = .ok (.iadd, 1) := by decide +kernel
theorem dX12_passes_11 : decode cX12_passes 11 = .ok (.iastore, 1) := by decide +kernel
theorem dX12_passes_12 : decode cX12_passes 12 = .ok (.aload_n 0, 1) := by decide +kernel
theorem dX12_passes_13 : decode cX12_passes 13 = .ok (.invokestatic 148, 3) := by decide +kernel
theorem dX12_passes_16 : decode cX12_passes 16 = .ok (.iload_n 2, 1) := by decide +kernel
theorem dX12_passes_17 : decode cX12_passes 17 = .ok (.aload_n 0, 1) := by decide +kernel
theorem dX12_passes_18 : decode cX12_passes 18 = .ok (.invokestatic 145, 3) := by decide +kernel
theorem dX12_passes_21 : decode cX12_passes 21 = .ok (.isub, 1) := by decide +kernel
theorem dX12_passes_22 : decode cX12_passes 22 = .ok (.ireturn, 1) := by decide +kernel
theorem dX12_appendWord_0 : decode cX12_appendWord 0 = .ok (.bipush 24, 2) := by decide +kernel
theorem dX12_appendWord_2 : decode cX12_appendWord 2 = .ok (.istore_n 2, 1) := by decide +kernel
theorem dX12_appendWord_3 : decode cX12_appendWord 3 = .ok (.iload_n 2, 1) := by decide +kernel
theorem dX12_appendWord_4 : decode cX12_appendWord 4 = .ok (.ifCond .lt 35, 3) := by decide +kernel
theorem dX12_appendWord_7 : decode cX12_appendWord 7 = .ok (.aload_n 0, 1) := by decide +kernel
theorem dX12_appendWord_8 : decode cX12_appendWord 8 = .ok (.getfield 32, 3) := by decide +kernel
theorem dX12_appendWord_11 : decode cX12_appendWord 11 = .ok (.aload_n 0, 1) := by decide +kernel
theorem dX12_appendWord_12 : decode cX12_appendWord 12 = .ok (.getfield 55, 3) := by decide +kernel
theorem dX12_appendWord_15 : decode cX12_appendWord 15 = .ok (.iload_n 1, 1) := by decide +kernel
theorem dX12_appendWord_16 : decode cX12_appendWord 16 = .ok (.iload_n 2, 1) := by decide +kernel
theorem dX12_appendWord_17 : decode cX12_appendWord 17 = .ok (.ishr, 1) := by decide +kernel
theorem dX12_appendWord_18 : decode cX12_appendWord 18 = .ok (.sipush 255, 3) := by decide +kernel
theorem dX12_appendWord_21 : decode cX12_appendWord 21 = .ok (.iand, 1) := by decide +kernel
theorem dX12_appendWord_22 : decode cX12_appendWord 22 = .ok (.iastore, 1) := by decide +kernel
theorem dX12_appendWord_23 : decode cX12_appendWord 23 = .ok (.aload_n 0, 1) := by decide +kernel
theorem dX12_appendWord_24 : decode cX12_appendWord 24 = .ok (.dup, 1) := by decide +kernel
theorem dX12_appendWord_25 : decode cX12_appendWord 25 = .ok (.getfield 55, 3) := by decide +kernel
theorem dX12_appendWord_28 : decode cX12_appendWord 28 = .ok (.iconst 1, 1) := by decide +kernel
theorem dX12_appendWord_29 : decode cX12_appendWord 29 = .ok (.iadd, 1) := by decide +kernel
theorem dX12_appendWord_30 : decode cX12_appendWord 30 = .ok (.putfield 55, 3) := by decide +kernel
theorem dX12_appendWord_33 : decode cX12_appendWord 33 = .ok (.iinc 2 (-8), 3) := by decide +kernel
theorem dX12_appendWord_36 : decode cX12_appendWord 36 = .ok (.goto (-33), 3) := by decide +kernel
theorem dX12_appendWord_39 : decode cX12_appendWord 39 = .ok (.return_, 1) := by decide +kernel
theorem dX12_appendInput_0 : decode cX12_appendInput 0 = .ok (.aload_n 0, 1) := by decide +kernel
theorem dX12_appendInput_1 : decode cX12_appendInput 1 = .ok (.iconst 0, 1) := by decide +kernel
theorem dX12_appendInput_2 : decode cX12_appendInput 2 = .ok (.putfield 72, 3) := by decide +kernel
theorem dX12_appendInput_5 : decode cX12_appendInput 5 = .ok (.aload_n 0, 1) := by decide +kernel
theorem dX12_appendInput_6 : decode cX12_appendInput 6 = .ok (.aload_n 0, 1) := by decide +kernel
theorem dX12_appendInput_7 : decode cX12_appendInput 7 = .ok (.getfield 55, 3) := by decide +kernel
theorem dX12_appendInput_10 : decode cX12_appendInput 10 = .ok (.bipush 20, 2) := by decide +kernel
theorem dX12_appendInput_12 : decode cX12_appendInput 12 = .ok (.iadd, 1) := by decide +kernel
theorem dX12_appendInput_13 : decode cX12_appendInput 13 = .ok (.sipush 600, 3) := by decide +kernel
theorem dX12_appendInput_16 : decode cX12_appendInput 16 = .ok (.if_icmp .le 7, 3) := by decide +kernel
theorem dX12_appendInput_19 : decode cX12_appendInput 19 = .ok (.iconst 1, 1) := by decide +kernel
theorem dX12_appendInput_20 : decode cX12_appendInput 20 = .ok (.goto 4, 3) := by decide +kernel
theorem dX12_appendInput_23 : decode cX12_appendInput 23 = .ok (.iconst 0, 1) := by decide +kernel
theorem dX12_appendInput_24 : decode cX12_appendInput 24 = .ok (.iconst 1, 1) := by decide +kernel
theorem dX12_appendInput_25 : decode cX12_appendInput 25 = .ok (.invokevirtual 152, 3) := by decide +kernel
theorem dX12_appendInput_28 : decode cX12_appendInput 28 = .ok (.ifCond .eq 5, 3) := by decide +kernel
theorem dX12_appendInput_31 : decode cX12_appendInput 31 = .ok (.iconst 0, 1) := by decide +kernel
theorem dX12_appendInput_32 : decode cX12_appendInput 32 = .ok (.ireturn, 1) := by decide +kernel
theorem dX12_appendInput_33 : decode cX12_appendInput 33 = .ok (.aload_n 0, 1) := by decide +kernel
theorem dX12_appendInput_34 : decode cX12_appendInput 34 = .ok (.iload_n 1, 1) := by decide +kernel
theorem dX12_appendInput_35 : decode cX12_appendInput 35 = .ok (.invokevirtual 156, 3) := by decide +kernel
theorem dX12_appendInput_38 : decode cX12_appendInput 38 = .ok (.aload_n 0, 1) := by decide +kernel
theorem dX12_appendInput_39 : decode cX12_appendInput 39 = .ok (.iload_n 2, 1) := by decide +kernel
theorem dX12_appendInput_40 : decode cX12_appendInput 40 = .ok (.invokevirtual 156, 3) := by decide +kernel
theorem dX12_appendInput_43 : decode cX12_appendInput 43 = .ok (.aload_n 0, 1) := by decide +kernel
theorem dX12_appendInput_44 : decode cX12_appendInput 44 = .ok (.iload_n 3, 1) := by decide +kernel
theorem dX12_appendInput_45 : decode cX12_appendInput 45 = .ok (.invokevirtual 156, 3) := by decide +kernel
theorem dX12_appendInput_48 : decode cX12_appendInput 48 = .ok (.aload_n 0, 1) := by decide +kernel
theorem dX12_appendInput_49 : decode cX12_appendInput 49 = .ok (.iload 4, 2) := by decide +kernel
theorem dX12_appendInput_51 : decode cX12_appendInput 51 = .ok (.invokevirtual 156, 3) := by decide +kernel
theorem dX12_appendInput_54 : decode cX12_appendInput 54 = .ok (.aload_n 0, 1) := by decide +kernel
theorem dX12_appendInput_55 : decode cX12_appendInput 55 = .ok (.iload 5, 2) := by decide +kernel
theorem dX12_appendInput_57 : decode cX12_appendInput 57 = .ok (.invokevirtual 156, 3) := by decide +kernel
theorem dX12_appendInput_60 : decode cX12_appendInput 60 = .ok (.aload_n 0, 1) := by decide +kernel
theorem dX12_appendInput_61 : decode cX12_appendInput 61 = .ok (.getfield 55, 3) := by decide +kernel
theorem dX12_appendInput_64 : decode cX12_appendInput 64 = .ok (.ireturn, 1) := by decide +kernel
theorem dX12_truncateInput_0 : decode cX12_truncateInput 0 = .ok (.aload_n 0, 1) := by decide +kernel
theorem dX12_truncateInput_1 : decode cX12_truncateInput 1 = .ok (.iload_n 1, 1) := by decide +kernel
theorem dX12_truncateInput_2 : decode cX12_truncateInput 2 = .ok (.iconst 0, 1) := by decide +kernel
theorem dX12_truncateInput_3 : decode cX12_truncateInput 3 = .ok (.aload_n 0, 1) := by decide +kernel
theorem dX12_truncateInput_4 : decode cX12_truncateInput 4 = .ok (.getfield 55, 3) := by decide +kernel
theorem dX12_truncateInput_7 : decode cX12_truncateInput 7 = .ok (.invokevirtual 160, 3) := by decide +kernel
theorem dX12_truncateInput_10 : decode cX12_truncateInput 10 = .ok (.ifCond .eq 5, 3) := by decide +kernel
theorem dX12_truncateInput_13 : decode cX12_truncateInput 13 = .ok (.iconst 0, 1) := by decide +kernel
theorem dX12_truncateInput_14 : decode cX12_truncateInput 14 = .ok (.ireturn, 1) := by decide +kernel
theorem dX12_truncateInput_15 : decode cX12_truncateInput 15 = .ok (.aload_n 0, 1) := by decide +kernel
theorem dX12_truncateInput_16 : decode cX12_truncateInput 16 = .ok (.iload_n 1, 1) := by decide +kernel
theorem dX12_truncateInput_17 : decode cX12_truncateInput 17 = .ok (.putfield 55, 3) := by decide +kernel
theorem dX12_truncateInput_20 : decode cX12_truncateInput 20 = .ok (.iload_n 1, 1) := by decide +kernel
theorem dX12_truncateInput_21 : decode cX12_truncateInput 21 = .ok (.ireturn, 1) := by decide +kernel
theorem dX12_errorCode_0 : decode cX12_errorCode 0 = .ok (.aload_n 0, 1) := by decide +kernel
theorem dX12_errorCode_1 : decode cX12_errorCode 1 = .ok (.iconst 0, 1) := by decide +kernel
theorem dX12_errorCode_2 : decode cX12_errorCode 2 = .ok (.putfield 72, 3) := by decide +kernel
theorem dX12_errorCode_5 : decode cX12_errorCode 5 = .ok (.aload_n 0, 1) := by decide +kernel
theorem dX12_errorCode_6 : decode cX12_errorCode 6 = .ok (.getfield 164, 3) := by decide +kernel
theorem dX12_errorCode_9 : decode cX12_errorCode 9 = .ok (.ireturn, 1) := by decide +kernel
theorem dX12_errorPosition_0 : decode cX12_errorPosition 0 = .ok (.aload_n 0, 1) := by decide +kernel
theorem dX12_errorPosition_1 : decode cX12_errorPosition 1 = .ok (.iconst 0, 1) := by decide +kernel
theorem dX12_errorPosition_2 : decode cX12_errorPosition 2 = .ok (.putfield 72, 3) := by decide +kernel
theorem dX12_errorPosition_5 : decode cX12_errorPosition 5 = .ok (.aload_n 0, 1) := by decide +kernel
theorem dX12_errorPosition_6 : decode cX12_errorPosition 6 = .ok (.getfield 35, 3) := by decide +kernel
theorem dX12_errorPosition_9 : decode cX12_errorPosition 9 = .ok (.ireturn, 1) := by decide +kernel
theorem dX12_byteAt_0 : decode cX12_byteAt 0 = .ok (.iload_n 1, 1) := by decide +kernel
theorem dX12_byteAt_1 : decode cX12_byteAt 1 = .ok (.aload_n 0, 1) := by decide +kernel
theorem dX12_byteAt_2 : decode cX12_byteAt 2 = .ok (.getfield 55, 3) := by decide +kernel
theorem dX12_byteAt_5 : decode cX12_byteAt 5 = .ok (.if_icmp .ge 12, 3) := by decide +kernel
theorem dX12_byteAt_8 : decode cX12_byteAt 8 = .ok (.aload_n 0, 1) := by decide +kernel
theorem dX12_byteAt_9 : decode cX12_byteAt 9 = .ok (.getfield 32, 3) := by decide +kernel
theorem dX12_byteAt_12 : decode cX12_byteAt 12 = .ok (.iload_n 1, 1) := by decide +kernel
theorem dX12_byteAt_13 : decode cX12_byteAt 13 = .ok (.iaload, 1) := by decide +kernel
theorem dX12_byteAt_14 : decode cX12_byteAt 14 = .ok (.goto 4, 3) := by decide +kernel
theorem dX12_byteAt_17 : decode cX12_byteAt 17 = .ok (.iconst (-1), 1) := by decide +kernel
theorem dX12_byteAt_18 : decode cX12_byteAt 18 = .ok (.ireturn, 1) := by decide +kernel
theorem dX12_isLetter_0 : decode cX12_isLetter 0 = .ok (.iload_n 0, 1) := by decide +kernel
theorem dX12_isLetter_1 : decode cX12_isLetter 1 = .ok (.bipush 97, 2) := by decide +kernel
theorem dX12_isLetter_3 : decode cX12_isLetter 3 = .ok (.bipush 122, 2) := by decide +kernel
theorem dX12_isLetter_5 : decode cX12_isLetter 5 = .ok (.invokestatic 167, 3) := by decide +kernel
theorem dX12_isLetter_8 : decode cX12_isLetter 8 = .ok (.ireturn, 1) := by decide +kernel
theorem dX12_advance_0 : decode cX12_advance 0 = .ok (.aload_n 0, 1) := by decide +kernel
theorem dX12_advance_1 : decode cX12_advance 1 = .ok (.aload_n 0, 1) := by decide +kernel
theorem dX12_advance_2 : decode cX12_advance 2 = .ok (.getfield 170, 3) := by decide +kernel
theorem dX12_advance_5 : decode cX12_advance 5 = .ok (.invokevirtual 173, 3) := by decide +kernel
theorem dX12_advance_8 : decode cX12_advance 8 = .ok (.bipush 32, 2) := by decide +kernel
theorem dX12_advance_10 : decode cX12_advance 10 = .ok (.if_icmp .eq 16, 3) := by decide +kernel
theorem dX12_advance_13 : decode cX12_advance 13 = .ok (.aload_n 0, 1) := by decide +kernel
theorem dX12_advance_14 : decode cX12_advance 14 = .ok (.aload_n 0, 1) := by decide +kernel
theorem dX12_advance_15 : decode cX12_advance 15 = .ok (.getfield 170, 3) := by decide +kernel
theorem dX12_advance_18 : decode cX12_advance 18 = .ok (.invokevirtual 173, 3) := by decide +kernel
theorem dX12_advance_21 : decode cX12_advance 21 = .ok (.bipush 10, 2) := by decide +kernel
theorem dX12_advance_23 : decode cX12_advance 23 = .ok (.if_icmp .ne 16, 3) := by decide +kernel
theorem dX12_advance_26 : decode cX12_advance 26 = .ok (.aload_n 0, 1) := by decide +kernel
theorem dX12_advance_27 : decode cX12_advance 27 = .ok (.dup, 1) := by decide +kernel
theorem dX12_advance_28 : decode cX12_advance 28 = .ok (.getfield 170, 3) := by decide +kernel
theorem dX12_advance_31 : decode cX12_advance 31 = .ok (.iconst 1, 1) := by decide +kernel
theorem dX12_advance_32 : decode cX12_advance 32 = .ok (.iadd, 1) := by decide +kernel
theorem dX12_advance_33 : decode cX12_advance 33 = .ok (.putfield 170, 3) := by decide +kernel
theorem dX12_advance_36 : decode cX12_advance 36 = .ok (.goto (-36), 3) := by decide +kernel
theorem dX12_advance_39 : decode cX12_advance 39 = .ok (.aload_n 0, 1) := by decide +kernel
theorem dX12_advance_40 : decode cX12_advance 40 = .ok (.aload_n 0, 1) := by decide +kernel
theorem dX12_advance_41 : decode cX12_advance 41 = .ok (.getfield 170, 3) := by decide +kernel
theorem dX12_advance_44 : decode cX12_advance 44 = .ok (.putfield 176, 3) := by decide +kernel
theorem dX12_advance_47 : decode cX12_advance 47 = .ok (.aload_n 0, 1) := by decide +kernel
theorem dX12_advance_48 : decode cX12_advance 48 = .ok (.iconst 0, 1) := by decide +kernel
theorem dX12_advance_49 : decode cX12_advance 49 = .ok (.putfield 179, 3) := by decide +kernel
theorem dX12_advance_52 : decode cX12_advance 52 = .ok (.aload_n 0, 1) := by decide +kernel
theorem dX12_advance_53 : decode cX12_advance 53 = .ok (.iconst 0, 1) := by decide +kernel
theorem dX12_advance_54 : decode cX12_advance 54 = .ok (.putfield 182, 3) := by decide +kernel
theorem dX12_advance_57 : decode cX12_advance 57 = .ok (.aload_n 0, 1) := by decide +kernel
theorem dX12_advance_58 : decode cX12_advance 58 = .ok (.aload_n 0, 1) := by decide +kernel
theorem dX12_advance_59 : decode cX12_advance 59 = .ok (.getfield 170, 3) := by decide +kernel
theorem dX12_advance_62 : decode cX12_advance 62 = .ok (.invokevirtual 173, 3) := by decide +kernel
theorem dX12_advance_65 : decode cX12_advance 65 = .ok (.istore_n 1, 1) := by decide +kernel
theorem dX12_advance_66 : decode cX12_advance 66 = .ok (.iload_n 1, 1) := by decide +kernel
theorem dX12_advance_67 : decode cX12_advance 67 = .ok (.iconst (-1), 1) := by decide +kernel
theorem dX12_advance_68 : decode cX12_advance 68 = .ok (.if_icmp .ne 11, 3) := by decide +kernel
theorem dX12_advance_71 : decode cX12_advance 71 = .ok (.aload_n 0, 1) := by decide +kernel
theorem dX12_advance_72 : decode cX12_advance 72 = .ok (.iconst 0, 1) := by decide +kernel
theorem dX12_advance_73 : decode cX12_advance 73 = .ok (.putfield 185, 3) := by decide +kernel
theorem dX12_advance_76 : decode cX12_advance 76 = .ok (.goto 153, 3) := by decide +kernel
theorem dX12_advance_79 : decode cX12_advance 79 = .ok (.iload_n 1, 1) := by decide +kernel
theorem dX12_advance_80 : decode cX12_advance 80 = .ok (.invokestatic 188, 3) := by decide +kernel
theorem dX12_advance_83 : decode cX12_advance 83 = .ok (.ifCond .eq 45, 3) := by decide +kernel
theorem dX12_advance_86 : decode cX12_advance 86 = .ok (.aload_n 0, 1) := by decide +kernel
theorem dX12_advance_87 : decode cX12_advance 87 = .ok (.iconst 3, 1) := by decide +kernel
theorem dX12_advance_88 : decode cX12_advance 88 = .ok (.putfield 185, 3) := by decide +kernel
theorem dX12_advance_91 : decode cX12_advance 91 = .ok (.aload_n 0, 1) := by decide +kernel
theorem dX12_advance_92 : decode cX12_advance 92 = .ok (.aload_n 0, 1) := by decide +kernel
theorem dX12_advance_93 : decode cX12_advance 93 = .ok (.getfield 170, 3) := by decide +kernel
theorem dX12_advance_96 : decode cX12_advance 96 = .ok (.invokevirtual 173, 3) := by decide +kernel
theorem dX12_advance_99 : decode cX12_advance 99 = .ok (.invokestatic 188, 3) := by decide +kernel
theorem dX12_advance_102 : decode cX12_advance 102 = .ok (.ifCond .eq 127, 3) := by decide +kernel
theorem dX12_advance_105 : decode cX12_advance 105 = .ok (.aload_n 0, 1) := by decide +kernel
theorem dX12_advance_106 : decode cX12_advance 106 = .ok (.dup, 1) := by decide +kernel
theorem dX12_advance_107 : decode cX12_advance 107 = .ok (.getfield 179, 3) := by decide +kernel
theorem dX12_advance_110 : decode cX12_advance 110 = .ok (.iconst 1, 1) := by decide +kernel
theorem dX12_advance_111 : decode cX12_advance 111 = .ok (.iadd, 1) := by decide +kernel
theorem dX12_advance_112 : decode cX12_advance 112 = .ok (.putfield 179, 3) := by decide +kernel
theorem dX12_advance_115 : decode cX12_advance 115 = .ok (.aload_n 0, 1) := by decide +kernel
theorem dX12_advance_116 : decode cX12_advance 116 = .ok (.dup, 1) := by decide +kernel
theorem dX12_advance_117 : decode cX12_advance 117 = .ok (.getfield 170, 3) := by decide +kernel
theorem dX12_advance_120 : decode cX12_advance 120 = .ok (.iconst 1, 1) := by decide +kernel
theorem dX12_advance_121 : decode cX12_advance 121 = .ok (.iadd, 1) := by decide +kernel
theorem dX12_advance_122 : decode cX12_advance 122 = .ok (.putfield 170, 3) := by decide +kernel
theorem dX12_advance_125 : decode cX12_advance 125 = .ok (.goto (-34), 3) := by decide +kernel
theorem dX12_advance_128 : decode cX12_advance 128 = .ok (.iload_n 1, 1) := by decide +kernel
theorem dX12_advance_129 : decode cX12_advance 129 = .ok (.bipush 48, 2) := by decide +kernel
theorem dX12_advance_131 : decode cX12_advance 131 = .ok (.bipush 57, 2) := by decide +kernel
theorem dX12_advance_133 : decode cX12_advance 133 = .ok (.invokestatic 167, 3) := by decide +kernel
theorem dX12_advance_136 : decode cX12_advance 136 = .ok (.ifCond .eq 78, 3) := by decide +kernel
theorem dX12_advance_139 : decode cX12_advance 139 = .ok (.aload_n 0, 1) := by decide +kernel
theorem dX12_advance_140 : decode cX12_advance 140 = .ok (.iconst 2, 1) := by decide +kernel
theorem dX12_advance_141 : decode cX12_advance 141 = .ok (.putfield 185, 3) := by decide +kernel
theorem dX12_advance_144 : decode cX12_advance 144 = .ok (.aload_n 0, 1) := by decide +kernel
theorem dX12_advance_145 : decode cX12_advance 145 = .ok (.aload_n 0, 1) := by decide +kernel
theorem dX12_advance_146 : decode cX12_advance 146 = .ok (.getfield 170, 3) := by decide +kernel
theorem dX12_advance_149 : decode cX12_advance 149 = .ok (.invokevirtual 173, 3) := by decide +kernel
theorem dX12_advance_152 : decode cX12_advance 152 = .ok (.bipush 48, 2) := by decide +kernel
theorem dX12_advance_154 : decode cX12_advance 154 = .ok (.bipush 57, 2) := by decide +kernel
theorem dX12_advance_156 : decode cX12_advance 156 = .ok (.invokestatic 167, 3) := by decide +kernel
theorem dX12_advance_159 : decode cX12_advance 159 = .ok (.ifCond .eq 70, 3) := by decide +kernel
theorem dX12_advance_162 : decode cX12_advance 162 = .ok (.aload_n 0, 1) := by decide +kernel
theorem dX12_advance_163 : decode cX12_advance 163 = .ok (.aload_n 0, 1) := by decide +kernel
theorem dX12_advance_164 : decode cX12_advance 164 = .ok (.getfield 182, 3) := by decide +kernel
theorem dX12_advance_167 : decode cX12_advance 167 = .ok (.ldc 192, 2) := by decide +kernel
theorem dX12_advance_169 : decode cX12_advance 169 = .ok (.if_icmp .le 10, 3) := by decide +kernel
theorem dX12_advance_172 : decode cX12_advance 172 = .ok (.aload_n 0, 1) := by decide +kernel
theorem dX12_advance_173 : decode cX12_advance 173 = .ok (.getfield 182, 3) := by decide +kernel
theorem dX12_advance_176 : decode cX12_advance 176 = .ok (.goto 22, 3) := by decide +kernel
theorem dX12_advance_179 : decode cX12_advance 179 = .ok (.bipush 10, 2) := by decide +kernel
theorem dX12_advance_181 : decode cX12_advance 181 = .ok (.aload_n 0, 1) := by decide +kernel
theorem dX12_advance_182 : decode cX12_advance 182 = .ok (.getfield 182, 3) := by decide +kernel
theorem dX12_advance_185 : decode cX12_advance 185 = .ok (.imul, 1) := by decide +kernel
theorem dX12_advance_186 : decode cX12_advance 186 = .ok (.aload_n 0, 1) := by decide +kernel
theorem dX12_advance_187 : decode cX12_advance 187 = .ok (.aload_n 0, 1) := by decide +kernel
theorem dX12_advance_188 : decode cX12_advance 188 = .ok (.getfield 170, 3) := by decide +kernel
theorem dX12_advance_191 : decode cX12_advance 191 = .ok (.invokevirtual 173, 3) := by decide +kernel
theorem dX12_advance_194 : decode cX12_advance 194 = .ok (.iadd, 1) := by decide +kernel
theorem dX12_advance_195 : decode cX12_advance 195 = .ok (.bipush 48, 2) := by decide +kernel
theorem dX12_advance_197 : decode cX12_advance 197 = .ok (.isub, 1) := by decide +kernel
theorem dX12_advance_198 : decode cX12_advance 198 = .ok (.putfield 182, 3) := by decide +kernel
theorem dX12_advance_201 : decode cX12_advance 201 = .ok (.aload_n 0, 1) := by decide +kernel
theorem dX12_advance_202 : decode cX12_advance 202 = .ok (.dup, 1) := by decide +kernel
theorem dX12_advance_203 : decode cX12_advance 203 = .ok (.getfield 170, 3) := by decide +kernel
theorem dX12_advance_206 : decode cX12_advance 206 = .ok (.iconst 1, 1) := by decide +kernel
theorem dX12_advance_207 : decode cX12_advance 207 = .ok (.iadd, 1) := by decide +kernel
theorem dX12_advance_208 : decode cX12_advance 208 = .ok (.putfield 170, 3) := by decide +kernel
theorem dX12_advance_211 : decode cX12_advance 211 = .ok (.goto (-67), 3) := by decide +kernel
theorem dX12_advance_214 : decode cX12_advance 214 = .ok (.aload_n 0, 1) := by decide +kernel
theorem dX12_advance_215 : decode cX12_advance 215 = .ok (.iconst 1, 1) := by decide +kernel
theorem dX12_advance_216 : decode cX12_advance 216 = .ok (.putfield 185, 3) := by decide +kernel
theorem dX12_advance_219 : decode cX12_advance 219 = .ok (.aload_n 0, 1) := by decide +kernel
theorem dX12_advance_220 : decode cX12_advance 220 = .ok (.dup, 1) := by decide +kernel
theorem dX12_advance_221 : decode cX12_advance 221 = .ok (.getfield 170, 3) := by decide +kernel
theorem dX12_advance_224 : decode cX12_advance 224 = .ok (.iconst 1, 1) := by decide +kernel
theorem dX12_advance_225 : decode cX12_advance 225 = .ok (.iadd, 1) := by decide +kernel
theorem dX12_advance_226 : decode cX12_advance 226 = .ok (.putfield 170, 3) := by decide +kernel
theorem dX12_advance_229 : decode cX12_advance 229 = .ok (.return_, 1) := by decide +kernel
theorem dX12_is_0 : decode cX12_is 0 = .ok (.aload_n 0, 1) := by decide +kernel
theorem dX12_is_1 : decode cX12_is 1 = .ok (.getfield 185, 3) := by decide +kernel
theorem dX12_is_4 : decode cX12_is 4 = .ok (.iconst 3, 1) := by decide +kernel
theorem dX12_is_5 : decode cX12_is 5 = .ok (.if_icmp .ne 14, 3) := by decide +kernel
theorem dX12_is_8 : decode cX12_is 8 = .ok (.aload_n 0, 1) := by decide +kernel
theorem dX12_is_9 : decode cX12_is 9 = .ok (.getfield 179, 3) := by decide +kernel
theorem dX12_is_12 : decode cX12_is 12 = .ok (.aload_n 1, 1) := by decide +kernel
theorem dX12_is_13 : decode cX12_is 13 = .ok (.invokevirtual 62, 3) := by decide +kernel
theorem dX12_is_16 : decode cX12_is 16 = .ok (.if_icmp .eq 5, 3) := by decide +kernel
theorem dX12_is_19 : decode cX12_is 19 = .ok (.iconst 0, 1) := by decide +kernel
theorem dX12_is_20 : decode cX12_is 20 = .ok (.ireturn, 1) := by decide +kernel
theorem dX12_is_21 : decode cX12_is 21 = .ok (.iconst 0, 1) := by decide +kernel
theorem dX12_is_22 : decode cX12_is 22 = .ok (.istore_n 2, 1) := by decide +kernel
theorem dX12_is_23 : decode cX12_is 23 = .ok (.iload_n 2, 1) := by decide +kernel
theorem dX12_is_24 : decode cX12_is 24 = .ok (.aload_n 0, 1) := by decide +kernel
theorem dX12_is_25 : decode cX12_is 25 = .ok (.getfield 179, 3) := by decide +kernel
theorem dX12_is_28 : decode cX12_is 28 = .ok (.if_icmp .ge 30, 3) := by decide +kernel
theorem dX12_is_31 : decode cX12_is 31 = .ok (.aload_n 0, 1) := by decide +kernel
theorem dX12_is_32 : decode cX12_is 32 = .ok (.getfield 32, 3) := by decide +kernel
theorem dX12_is_35 : decode cX12_is 35 = .ok (.aload_n 0, 1) := by decide +kernel
theorem dX12_is_36 : decode cX12_is 36 = .ok (.getfield 176, 3) := by decide +kernel
theorem dX12_is_39 : decode cX12_is 39 = .ok (.iload_n 2, 1) := by decide +kernel
theorem dX12_is_40 : decode cX12_is 40 = .ok (.iadd, 1) := by decide +kernel
theorem dX12_is_41 : decode cX12_is 41 = .ok (.iaload, 1) := by decide +kernel
theorem dX12_is_42 : decode cX12_is 42 = .ok (.aload_n 1, 1) := by decide +kernel
theorem dX12_is_43 : decode cX12_is 43 = .ok (.iload_n 2, 1) := by decide +kernel
theorem dX12_is_44 : decode cX12_is 44 = .ok (.invokevirtual 68, 3) := by decide +kernel
theorem dX12_is_47 : decode cX12_is 47 = .ok (.if_icmp .eq 5, 3) := by decide +kernel
theorem dX12_is_50 : decode cX12_is 50 = .ok (.iconst 0, 1) := by decide +kernel
theorem dX12_is_51 : decode cX12_is 51 = .ok (.ireturn, 1) := by decide +kernel
theorem dX12_is_52 : decode cX12_is 52 = .ok (.iinc 2 1, 3) := by decide +kernel
theorem dX12_is_55 : decode cX12_is 55 = .ok (.goto (-32), 3) := by decide +kernel
theorem dX12_is_58 : decode cX12_is 58 = .ok (.iconst 1, 1) := by decide +kernel
theorem dX12_is_59 : decode cX12_is 59 = .ok (.ireturn, 1) := by decide +kernel
theorem dX12_check_0 : decode cX12_check 0 = .ok (.aload_n 0, 1) := by decide +kernel
theorem dX12_check_1 : decode cX12_check 1 = .ok (.getfield 164, 3) := by decide +kernel
theorem dX12_check_4 : decode cX12_check 4 = .ok (.ifCond .ne 20, 3) := by decide +kernel
theorem dX12_check_7 : decode cX12_check 7 = .ok (.iload_n 1, 1) := by decide +kernel
theorem dX12_check_8 : decode cX12_check 8 = .ok (.ifCond .ne 16, 3) := by decide +kernel
theorem dX12_check_11 : decode cX12_check 11 = .ok (.aload_n 0, 1) := by decide +kernel
theorem dX12_check_12 : decode cX12_check 12 = .ok (.iload_n 2, 1) := by decide +kernel
theorem dX12_check_13 : decode cX12_check 13 = .ok (.putfield 164, 3) := by decide +kernel
theorem dX12_check_16 : decode cX12_check 16 = .ok (.aload_n 0, 1) := by decide +kernel
theorem dX12_check_17 : decode cX12_check 17 = .ok (.aload_n 0, 1) := by decide +kernel
theorem dX12_check_18 : decode cX12_check 18 = .ok (.getfield 176, 3) := by decide +kernel
theorem dX12_check_21 : decode cX12_check 21 = .ok (.putfield 35, 3) := by decide +kernel
theorem dX12_check_24 : decode cX12_check 24 = .ok (.aload_n 0, 1) := by decide +kernel
theorem dX12_check_25 : decode cX12_check 25 = .ok (.getfield 164, 3) := by decide +kernel
theorem dX12_check_28 : decode cX12_check 28 = .ok (.ifCond .ne 7, 3) := by decide +kernel
theorem dX12_check_31 : decode cX12_check 31 = .ok (.iconst 1, 1) := by decide +kernel
theorem dX12_check_32 : decode cX12_check 32 = .ok (.goto 4, 3) := by decide +kernel
theorem dX12_check_35 : decode cX12_check 35 = .ok (.iconst 0, 1) := by decide +kernel
theorem dX12_check_36 : decode cX12_check 36 = .ok (.ireturn, 1) := by decide +kernel
theorem dX12_next_0 : decode cX12_next 0 = .ok (.aload_n 0, 1) := by decide +kernel
theorem dX12_next_1 : decode cX12_next 1 = .ok (.getfield 164, 3) := by decide +kernel
theorem dX12_next_4 : decode cX12_next 4 = .ok (.ifCond .ne 7, 3) := by decide +kernel
theorem dX12_next_7 : decode cX12_next 7 = .ok (.aload_n 0, 1) := by decide +kernel
theorem dX12_next_8 : decode cX12_next 8 = .ok (.invokevirtual 193, 3) := by decide +kernel
theorem dX12_next_11 : decode cX12_next 11 = .ok (.return_, 1) := by decide +kernel
theorem dX12_number_0 : decode cX12_number 0 = .ok (.aload_n 0, 1) := by decide +kernel
theorem dX12_number_1 : decode cX12_number 1 = .ok (.aload_n 0, 1) := by decide +kernel
theorem dX12_number_2 : decode cX12_number 2 = .ok (.getfield 185, 3) := by decide +kernel
theorem dX12_number_5 : decode cX12_number 5 = .ok (.iconst 2, 1) := by decide +kernel
theorem dX12_number_6 : decode cX12_number 6 = .ok (.if_icmp .ne 7, 3) := by decide +kernel
theorem dX12_number_9 : decode cX12_number 9 = .ok (.iconst 1, 1) := by decide +kernel
theorem dX12_number_10 : decode cX12_number 10 = .ok (.goto 4, 3) := by decide +kernel
theorem dX12_number_13 : decode cX12_number 13 = .ok (.iconst 0, 1) := by decide +kernel
theorem dX12_number_14 : decode cX12_number 14 = .ok (.iconst 1, 1) := by decide +kernel
theorem dX12_number_15 : decode cX12_number 15 = .ok (.invokevirtual 196, 3) := by decide +kernel
theorem dX12_number_18 : decode cX12_number 18 = .ok (.pop, 1) := by decide +kernel
theorem dX12_number_19 : decode cX12_number 19 = .ok (.aload_n 0, 1) := by decide +kernel
theorem dX12_number_20 : decode cX12_number 20 = .ok (.aload_n 0, 1) := by decide +kernel
theorem dX12_number_21 : decode cX12_number 21 = .ok (.getfield 182, 3) := by decide +kernel
theorem dX12_number_24 : decode cX12_number 24 = .ok (.iload_n 1, 1) := by decide +kernel
theorem dX12_number_25 : decode cX12_number 25 = .ok (.iload_n 2, 1) := by decide +kernel
theorem dX12_number_26 : decode cX12_number 26 = .ok (.invokestatic 167, 3) := by decide +kernel
theorem dX12_number_29 : decode cX12_number 29 = .ok (.iconst 2, 1) := by decide +kernel
theorem dX12_number_30 : decode cX12_number 30 = .ok (.invokevirtual 196, 3) := by decide +kernel
theorem dX12_number_33 : decode cX12_number 33 = .ok (.pop, 1) := by decide +kernel
theorem dX12_number_34 : decode cX12_number 34 = .ok (.aload_n 0, 1) := by decide +kernel
theorem dX12_number_35 : decode cX12_number 35 = .ok (.getfield 164, 3) := by decide +kernel
theorem dX12_number_38 : decode cX12_number 38 = .ok (.ifCond .ne 10, 3) := by decide +kernel
theorem dX12_number_41 : decode cX12_number 41 = .ok (.aload_n 0, 1) := by decide +kernel
theorem dX12_number_42 : decode cX12_number 42 = .ok (.getfield 182, 3) := by decide +kernel
theorem dX12_number_45 : decode cX12_number 45 = .ok (.goto 4, 3) := by decide +kernel
theorem dX12_number_48 : decode cX12_number 48 = .ok (.iload_n 1, 1) := by decide +kernel
theorem dX12_number_49 : decode cX12_number 49 = .ok (.istore_n 3, 1) := by decide +kernel
theorem dX12_number_50 : decode cX12_number 50 = .ok (.aload_n 0, 1) := by decide +kernel
theorem dX12_number_51 : decode cX12_number 51 = .ok (.invokevirtual 199, 3) := by decide +kernel
theorem dX12_number_54 : decode cX12_number 54 = .ok (.iload_n 3, 1) := by decide +kernel
theorem dX12_number_55 : decode cX12_number 55 = .ok (.ireturn, 1) := by decide +kernel
theorem dX12_semicolon_0 : decode cX12_semicolon 0 = .ok (.aload_n 0, 1) := by decide +kernel
theorem dX12_semicolon_1 : decode cX12_semicolon 1 = .ok (.aload_n 0, 1) := by decide +kernel
theorem dX12_semicolon_2 : decode cX12_semicolon 2 = .ok (.getfield 185, 3) := by decide +kernel
theorem dX12_semicolon_5 : decode cX12_semicolon 5 = .ok (.iconst 1, 1) := by decide +kernel
theorem dX12_semicolon_6 : decode cX12_semicolon 6 = .ok (.if_icmp .ne 21, 3) := by decide +kernel
theorem dX12_semicolon_9 : decode cX12_semicolon 9 = .ok (.aload_n 0, 1) := by decide +kernel
theorem dX12_semicolon_10 : decode cX12_semicolon 10 = .ok (.getfield 32, 3) := by decide +kernel
theorem dX12_semicolon_13 : decode cX12_semicolon 13 = .ok (.aload_n 0, 1) := by decide +kernel
theorem dX12_semicolon_14 : decode cX12_semicolon 14 = .ok (.getfield 176, 3) := by decide +kernel
theorem dX12_semicolon_17 : decode cX12_semicolon 17 = .ok (.iaload, 1) := by decide +kernel
theorem dX12_semicolon_18 : decode cX12_semicolon 18 = .ok (.bipush 59, 2) := by decide +kernel
theorem dX12_semicolon_20 : decode cX12_semicolon 20 = .ok (.if_icmp .ne 7, 3) := by decide +kernel
theorem dX12_semicolon_23 : decode cX12_semicolon 23 = .ok (.iconst 1, 1) := by decide +kernel
theorem dX12_semicolon_24 : decode cX12_semicolon 24 = .ok (.goto 4, 3) := by decide +kernel
theorem dX12_semicolon_27 : decode cX12_semicolon 27 = .ok (.iconst 0, 1) := by decide +kernel
theorem dX12_semicolon_28 : decode cX12_semicolon 28 = .ok (.iconst 1, 1) := by decide +kernel
theorem dX12_semicolon_29 : decode cX12_semicolon 29 = .ok (.invokevirtual 196, 3) := by decide +kernel
theorem dX12_semicolon_32 : decode cX12_semicolon 32 = .ok (.pop, 1) := by decide +kernel
theorem dX12_semicolon_33 : decode cX12_semicolon 33 = .ok (.return_, 1) := by decide +kernel
theorem dX12_finish_0 : decode cX12_finish 0 = .ok (.aload_n 0, 1) := by decide +kernel
theorem dX12_finish_1 : decode cX12_finish 1 = .ok (.invokevirtual 202, 3) := by decide +kernel
theorem dX12_finish_4 : decode cX12_finish 4 = .ok (.aload_n 0, 1) := by decide +kernel
theorem dX12_finish_5 : decode cX12_finish 5 = .ok (.invokevirtual 199, 3) := by decide +kernel
theorem dX12_finish_8 : decode cX12_finish 8 = .ok (.return_, 1) := by decide +kernel
theorem dX12_mayDo_0 : decode cX12_mayDo 0 = .ok (.aload_n 0, 1) := by decide +kernel
theorem dX12_mayDo_1 : decode cX12_mayDo 1 = .ok (.invokevirtual 202, 3) := by decide +kernel
theorem dX12_mayDo_4 : decode cX12_mayDo 4 = .ok (.aload_n 0, 1) := by decide +kernel
theorem dX12_mayDo_5 : decode cX12_mayDo 5 = .ok (.aload_n 0, 1) := by decide +kernel
theorem dX12_mayDo_6 : decode cX12_mayDo 6 = .ok (.getfield 164, 3) := by decide +kernel
theorem dX12_mayDo_9 : decode cX12_mayDo 9 = .ok (.ifCond .ne 7, 3) := by decide +kernel
theorem dX12_mayDo_12 : decode cX12_mayDo 12 = .ok (.iload_n 1, 1) := by decide +kernel
theorem dX12_mayDo_13 : decode cX12_mayDo 13 = .ok (.ifCond .ne 7, 3) := by decide +kernel
theorem dX12_mayDo_16 : decode cX12_mayDo 16 = .ok (.iconst 1, 1) := by decide +kernel
theorem dX12_mayDo_17 : decode cX12_mayDo 17 = .ok (.goto 4, 3) := by decide +kernel
theorem dX12_mayDo_20 : decode cX12_mayDo 20 = .ok (.iconst 0, 1) := by decide +kernel
theorem dX12_mayDo_21 : decode cX12_mayDo 21 = .ok (.bipush 6, 2) := by decide +kernel
theorem dX12_mayDo_23 : decode cX12_mayDo 23 = .ok (.invokevirtual 196, 3) := by decide +kernel
theorem dX12_mayDo_26 : decode cX12_mayDo 26 = .ok (.pop, 1) := by decide +kernel
theorem dX12_mayDo_27 : decode cX12_mayDo 27 = .ok (.aload_n 0, 1) := by decide +kernel
theorem dX12_mayDo_28 : decode cX12_mayDo 28 = .ok (.getfield 164, 3) := by decide +kernel
theorem dX12_mayDo_31 : decode cX12_mayDo 31 = .ok (.ifCond .ne 7, 3) := by decide +kernel
theorem dX12_mayDo_34 : decode cX12_mayDo 34 = .ok (.iconst 1, 1) := by decide +kernel
theorem dX12_mayDo_35 : decode cX12_mayDo 35 = .ok (.goto 4, 3) := by decide +kernel
theorem dX12_mayDo_38 : decode cX12_mayDo 38 = .ok (.iconst 0, 1) := by decide +kernel
theorem dX12_mayDo_39 : decode cX12_mayDo 39 = .ok (.ireturn, 1) := by decide +kernel
theorem dX12_nameFrom_0 : decode cX12_nameFrom 0 = .ok (.iload_n 2, 1) := by decide +kernel
theorem dX12_nameFrom_1 : decode cX12_nameFrom 1 = .ok (.iconst 1, 1) := by decide +kernel
theorem dX12_nameFrom_2 : decode cX12_nameFrom 2 = .ok (.iconst 4, 1) := by decide +kernel
theorem dX12_nameFrom_3 : decode cX12_nameFrom 3 = .ok (.invokestatic 167, 3) := by decide +kernel
theorem dX12_nameFrom_6 : decode cX12_nameFrom 6 = .ok (.ifCond .ne 5, 3) := by decide +kernel
theorem dX12_nameFrom_9 : decode cX12_nameFrom 9 = .ok (.iconst (-1), 1) := by decide +kernel
theorem dX12_nameFrom_10 : decode cX12_nameFrom 10 = .ok (.ireturn, 1) := by decide +kernel
theorem dX12_nameFrom_11 : decode cX12_nameFrom 11 = .ok (.iconst 0, 1) := by decide +kernel
theorem dX12_nameFrom_12 : decode cX12_nameFrom 12 = .ok (.istore_n 3, 1) := by decide +kernel
theorem dX12_nameFrom_13 : decode cX12_nameFrom 13 = .ok (.iconst 0, 1) := by decide +kernel
theorem dX12_nameFrom_14 : decode cX12_nameFrom 14 = .ok (.istore 4, 2) := by decide +kernel
theorem dX12_nameFrom_16 : decode cX12_nameFrom 16 = .ok (.iload 4, 2) := by decide +kernel
theorem dX12_nameFrom_18 : decode cX12_nameFrom 18 = .ok (.iconst 4, 1) := by decide +kernel
theorem dX12_nameFrom_19 : decode cX12_nameFrom 19 = .ok (.if_icmp .ge 60, 3) := by decide +kernel
theorem dX12_nameFrom_22 : decode cX12_nameFrom 22 = .ok (.iload 4, 2) := by decide +kernel
theorem dX12_nameFrom_24 : decode cX12_nameFrom 24 = .ok (.iload_n 2, 1) := by decide +kernel
theorem dX12_nameFrom_25 : decode cX12_nameFrom 25 = .ok (.if_icmp .ge 20, 3) := by decide +kernel
theorem dX12_nameFrom_28 : decode cX12_nameFrom 28 = .ok (.aload_n 0, 1) := by decide +kernel
theorem dX12_nameFrom_29 : decode cX12_nameFrom 29 = .ok (.getfield 32, 3) := by decide +kernel
theorem dX12_nameFrom_32 : decode cX12_nameFrom 32 = .ok (.iload_n 1, 1) := by decide +kernel
theorem dX12_nameFrom_33 : decode cX12_nameFrom 33 = .ok (.iload 4, 2) := by decide +kernel
theorem dX12_nameFrom_35 : decode cX12_nameFrom 35 = .ok (.iadd, 1) := by decide +kernel
theorem dX12_nameFrom_36 : decode cX12_nameFrom 36 = .ok (.iaload, 1) := by decide +kernel
theorem dX12_nameFrom_37 : decode cX12_nameFrom 37 = .ok (.invokestatic 188, 3) := by decide +kernel
theorem dX12_nameFrom_40 : decode cX12_nameFrom 40 = .ok (.ifCond .ne 5, 3) := by decide +kernel
theorem dX12_nameFrom_43 : decode cX12_nameFrom 43 = .ok (.iconst (-1), 1) := by decide +kernel
theorem dX12_nameFrom_44 : decode cX12_nameFrom 44 = .ok (.ireturn, 1) := by decide +kernel
theorem dX12_nameFrom_45 : decode cX12_nameFrom 45 = .ok (.iload_n 3, 1) := by decide +kernel
theorem dX12_nameFrom_46 : decode cX12_nameFrom 46 = .ok (.bipush 27, 2) := by decide +kernel
theorem dX12_nameFrom_48 : decode cX12_nameFrom 48 = .ok (.imul, 1) := by decide +kernel
theorem dX12_nameFrom_49 : decode cX12_nameFrom 49 = .ok (.iload 4, 2) := by decide +kernel
theorem dX12_nameFrom_51 : decode cX12_nameFrom 51 = .ok (.iload_n 2, 1) := by decide +kernel
theorem dX12_nameFrom_52 : decode cX12_nameFrom 52 = .ok (.if_icmp .ge 18, 3) := by decide +kernel
theorem dX12_nameFrom_55 : decode cX12_nameFrom 55 = .ok (.aload_n 0, 1) := by decide +kernel
theorem dX12_nameFrom_56 : decode cX12_nameFrom 56 = .ok (.getfield 32, 3) := by decide +kernel
theorem dX12_nameFrom_59 : decode cX12_nameFrom 59 = .ok (.iload_n 1, 1) := by decide +kernel
theorem dX12_nameFrom_60 : decode cX12_nameFrom 60 = .ok (.iload 4, 2) := by decide +kernel
theorem dX12_nameFrom_62 : decode cX12_nameFrom 62 = .ok (.iadd, 1) := by decide +kernel
theorem dX12_nameFrom_63 : decode cX12_nameFrom 63 = .ok (.iaload, 1) := by decide +kernel
theorem dX12_nameFrom_64 : decode cX12_nameFrom 64 = .ok (.bipush 96, 2) := by decide +kernel
theorem dX12_nameFrom_66 : decode cX12_nameFrom 66 = .ok (.isub, 1) := by decide +kernel
theorem dX12_nameFrom_67 : decode cX12_nameFrom 67 = .ok (.goto 4, 3) := by decide +kernel
theorem dX12_nameFrom_70 : decode cX12_nameFrom 70 = .ok (.iconst 0, 1) := by decide +kernel
theorem dX12_nameFrom_71 : decode cX12_nameFrom 71 = .ok (.iadd, 1) := by decide +kernel
theorem dX12_nameFrom_72 : decode cX12_nameFrom 72 = .ok (.istore_n 3, 1) := by decide +kernel
theorem dX12_nameFrom_73 : decode cX12_nameFrom 73 = .ok (.iinc 4 1, 3) := by decide +kernel
theorem dX12_nameFrom_76 : decode cX12_nameFrom 76 = .ok (.goto (-60), 3) := by decide +kernel
theorem dX12_nameFrom_79 : decode cX12_nameFrom 79 = .ok (.iload_n 3, 1) := by decide +kernel
theorem dX12_nameFrom_80 : decode cX12_nameFrom 80 = .ok (.ireturn, 1) := by decide +kernel
theorem dX12_realmNamed_0 : decode cX12_realmNamed 0 = .ok (.iconst 0, 1) := by decide +kernel
theorem dX12_realmNamed_1 : decode cX12_realmNamed 1 = .ok (.istore_n 2, 1) := by decide +kernel
theorem dX12_realmNamed_2 : decode cX12_realmNamed 2 = .ok (.iload_n 2, 1) := by decide +kernel
theorem dX12_realmNamed_3 : decode cX12_realmNamed 3 = .ok (.aload_n 0, 1) := by decide +kernel
theorem dX12_realmNamed_4 : decode cX12_realmNamed 4 = .ok (.iconst 3, 1) := by decide +kernel
theorem dX12_realmNamed_5 : decode cX12_realmNamed 5 = .ok (.iaload, 1) := by decide +kernel
theorem dX12_realmNamed_6 : decode cX12_realmNamed 6 = .ok (.if_icmp .ge 23, 3) := by decide +kernel
theorem dX12_realmNamed_9 : decode cX12_realmNamed 9 = .ok (.aload_n 0, 1) := by decide +kernel
theorem dX12_realmNamed_10 : decode cX12_realmNamed 10 = .ok (.iload_n 2, 1) := by decide +kernel
theorem dX12_realmNamed_11 : decode cX12_realmNamed 11 = .ok (.invokestatic 91, 3) := by decide +kernel
theorem dX12_realmNamed_14 : decode cX12_realmNamed 14 = .ok (.iconst 0, 1) := by decide +kernel
theorem dX12_realmNamed_15 : decode cX12_realmNamed 15 = .ok (.iadd, 1) := by decide +kernel
theorem dX12_realmNamed_16 : decode cX12_realmNamed 16 = .ok (.iaload, 1) := by decide +kernel
theorem dX12_realmNamed_17 : decode cX12_realmNamed 17 = .ok (.iload_n 1, 1) := by decide +kernel
theorem dX12_realmNamed_18 : decode cX12_realmNamed 18 = .ok (.if_icmp .ne 5, 3) := by decide +kernel
theorem dX12_realmNamed_21 : decode cX12_realmNamed 21 = .ok (.iload_n 2, 1) := by decide +kernel
theorem dX12_realmNamed_22 : decode cX12_realmNamed 22 = .ok (.ireturn, 1) := by decide +kernel
theorem dX12_realmNamed_23 : decode cX12_realmNamed 23 = .ok (.iinc 2 1, 3) := by decide +kernel
theorem dX12_realmNamed_26 : decode cX12_realmNamed 26 = .ok (.goto (-24), 3) := by decide +kernel
theorem dX12_realmNamed_29 : decode cX12_realmNamed 29 = .ok (.iconst (-1), 1) := by decide +kernel
theorem dX12_realmNamed_30 : decode cX12_realmNamed 30 = .ok (.ireturn, 1) := by decide +kernel
theorem dX12_userNamed_0 : decode cX12_userNamed 0 = .ok (.iconst 0, 1) := by decide +kernel
theorem dX12_userNamed_1 : decode cX12_userNamed 1 = .ok (.istore_n 2, 1) := by decide +kernel
theorem dX12_userNamed_2 : decode cX12_userNamed 2 = .ok (.iload_n 2, 1) := by decide +kernel
theorem dX12_userNamed_3 : decode cX12_userNamed 3 = .ok (.aload_n 0, 1) := by decide +kernel
theorem dX12_userNamed_4 : decode cX12_userNamed 4 = .ok (.iconst 4, 1) := by decide +kernel
theorem dX12_userNamed_5 : decode cX12_userNamed 5 = .ok (.iaload, 1) := by decide +kernel
theorem dX12_userNamed_6 : decode cX12_userNamed 6 = .ok (.if_icmp .ge 23, 3) := by decide +kernel
theorem dX12_userNamed_9 : decode cX12_userNamed 9 = .ok (.aload_n 0, 1) := by decide +kernel
theorem dX12_userNamed_10 : decode cX12_userNamed 10 = .ok (.iload_n 2, 1) := by decide +kernel
theorem dX12_userNamed_11 : decode cX12_userNamed 11 = .ok (.invokestatic 87, 3) := by decide +kernel
theorem dX12_userNamed_14 : decode cX12_userNamed 14 = .ok (.iconst 0, 1) := by decide +kernel
theorem dX12_userNamed_15 : decode cX12_userNamed 15 = .ok (.iadd, 1) := by decide +kernel
theorem dX12_userNamed_16 : decode cX12_userNamed 16 = .ok (.iaload, 1) := by decide +kernel
theorem dX12_userNamed_17 : decode cX12_userNamed 17 = .ok (.iload_n 1, 1) := by decide +kernel
theorem dX12_userNamed_18 : decode cX12_userNamed 18 = .ok (.if_icmp .ne 5, 3) := by decide +kernel
theorem dX12_userNamed_21 : decode cX12_userNamed 21 = .ok (.iload_n 2, 1) := by decide +kernel
theorem dX12_userNamed_22 : decode cX12_userNamed 22 = .ok (.ireturn, 1) := by decide +kernel
theorem dX12_userNamed_23 : decode cX12_userNamed 23 = .ok (.iinc 2 1, 3) := by decide +kernel
theorem dX12_userNamed_26 : decode cX12_userNamed 26 = .ok (.goto (-24), 3) := by decide +kernel
theorem dX12_userNamed_29 : decode cX12_userNamed 29 = .ok (.iconst (-1), 1) := by decide +kernel
theorem dX12_userNamed_30 : decode cX12_userNamed 30 = .ok (.ireturn, 1) := by decide +kernel
theorem dX12_serviceNamed_0 : decode cX12_serviceNamed 0 = .ok (.iconst 0, 1) := by decide +kernel
theorem dX12_serviceNamed_1 : decode cX12_serviceNamed 1 = .ok (.istore_n 2, 1) := by decide +kernel
theorem dX12_serviceNamed_2 : decode cX12_serviceNamed 2 = .ok (.iload_n 2, 1) := by decide +kernel
theorem dX12_serviceNamed_3 : decode cX12_serviceNamed 3 = .ok (.aload_n 0, 1) := by decide +kernel
theorem dX12_serviceNamed_4 : decode cX12_serviceNamed 4 = .ok (.iconst 5, 1) := by decide +kernel
theorem dX12_serviceNamed_5 : decode cX12_serviceNamed 5 = .ok (.iaload, 1) := by decide +kernel
theorem dX12_serviceNamed_6 : decode cX12_serviceNamed 6 = .ok (.if_icmp .ge 23, 3) := by decide +kernel
theorem dX12_serviceNamed_9 : decode cX12_serviceNamed 9 = .ok (.aload_n 0, 1) := by decide +kernel
theorem dX12_serviceNamed_10 : decode cX12_serviceNamed 10 = .ok (.iload_n 2, 1) := by decide +kernel
theorem dX12_serviceNamed_11 : decode cX12_serviceNamed 11 = .ok (.invokestatic 122, 3) := by decide +kernel
theorem dX12_serviceNamed_14 : decode cX12_serviceNamed 14 = .ok (.iconst 0, 1) := by decide +kernel
theorem dX12_serviceNamed_15 : decode cX12_serviceNamed 15 = .ok (.iadd, 1) := by decide +kernel
theorem dX12_serviceNamed_16 : decode cX12_serviceNamed 16 = .ok (.iaload, 1) := by decide +kernel
theorem dX12_serviceNamed_17 : decode cX12_serviceNamed 17 = .ok (.iload_n 1, 1) := by decide +kernel
theorem dX12_serviceNamed_18 : decode cX12_serviceNamed 18 = .ok (.if_icmp .ne 5, 3) := by decide +kernel
theorem dX12_serviceNamed_21 : decode cX12_serviceNamed 21 = .ok (.iload_n 2, 1) := by decide +kernel
theorem dX12_serviceNamed_22 : decode cX12_serviceNamed 22 = .ok (.ireturn, 1) := by decide +kernel
theorem dX12_serviceNamed_23 : decode cX12_serviceNamed 23 = .ok (.iinc 2 1, 3) := by decide +kernel
theorem dX12_serviceNamed_26 : decode cX12_serviceNamed 26 = .ok (.goto (-24), 3) := by decide +kernel
theorem dX12_serviceNamed_29 : decode cX12_serviceNamed 29 = .ok (.iconst (-1), 1) := by decide +kernel
theorem dX12_serviceNamed_30 : decode cX12_serviceNamed 30 = .ok (.ireturn, 1) := by decide +kernel
theorem dX12_named_0 : decode cX12_named 0 = .ok (.aload_n 0, 1) := by decide +kernel
theorem dX12_named_1 : decode cX12_named 1 = .ok (.iload_n 1, 1) := by decide +kernel
theorem dX12_named_2 : decode cX12_named 2 = .ok (.invokestatic 205, 3) := by decide +kernel
theorem dX12_named_5 : decode cX12_named 5 = .ok (.istore_n 2, 1) := by decide +kernel
theorem dX12_named_6 : decode cX12_named 6 = .ok (.iload_n 2, 1) := by decide +kernel
theorem dX12_named_7 : decode cX12_named 7 = .ok (.iconst (-1), 1) := by decide +kernel
theorem dX12_named_8 : decode cX12_named 8 = .ok (.if_icmp .eq 5, 3) := by decide +kernel
theorem dX12_named_11 : decode cX12_named 11 = .ok (.iload_n 2, 1) := by decide +kernel
theorem dX12_named_12 : decode cX12_named 12 = .ok (.ireturn, 1) := by decide +kernel
theorem dX12_named_13 : decode cX12_named 13 = .ok (.aload_n 0, 1) := by decide +kernel
theorem dX12_named_14 : decode cX12_named 14 = .ok (.iload_n 1, 1) := by decide +kernel
theorem dX12_named_15 : decode cX12_named 15 = .ok (.invokestatic 208, 3) := by decide +kernel
theorem dX12_named_18 : decode cX12_named 18 = .ok (.istore_n 3, 1) := by decide +kernel
theorem dX12_named_19 : decode cX12_named 19 = .ok (.iload_n 3, 1) := by decide +kernel
theorem dX12_named_20 : decode cX12_named 20 = .ok (.iconst (-1), 1) := by decide +kernel
theorem dX12_named_21 : decode cX12_named 21 = .ok (.if_icmp .eq 8, 3) := by decide +kernel
theorem dX12_named_24 : decode cX12_named 24 = .ok (.bipush 100, 2) := by decide +kernel
theorem dX12_named_26 : decode cX12_named 26 = .ok (.iload_n 3, 1) := by decide +kernel
theorem dX12_named_27 : decode cX12_named 27 = .ok (.iadd, 1) := by decide +kernel
theorem dX12_named_28 : decode cX12_named 28 = .ok (.ireturn, 1) := by decide +kernel
theorem dX12_named_29 : decode cX12_named 29 = .ok (.aload_n 0, 1) := by decide +kernel
theorem dX12_named_30 : decode cX12_named 30 = .ok (.iload_n 1, 1) := by decide +kernel
theorem dX12_named_31 : decode cX12_named 31 = .ok (.invokestatic 211, 3) := by decide +kernel
theorem dX12_named_34 : decode cX12_named 34 = .ok (.istore 4, 2) := by decide +kernel
theorem dX12_named_36 : decode cX12_named 36 = .ok (.iload 4, 2) := by decide +kernel
theorem dX12_named_38 : decode cX12_named 38 = .ok (.iconst (-1), 1) := by decide +kernel
theorem dX12_named_39 : decode cX12_named 39 = .ok (.if_icmp .ne 7, 3) := by decide +kernel
theorem dX12_named_42 : decode cX12_named 42 = .ok (.iconst (-1), 1) := by decide +kernel
theorem dX12_named_43 : decode cX12_named 43 = .ok (.goto 9, 3) := by decide +kernel
theorem dX12_named_46 : decode cX12_named 46 = .ok (.sipush 200, 3) := by decide +kernel
theorem dX12_named_49 : decode cX12_named 49 = .ok (.iload 4, 2) := by decide +kernel
theorem dX12_named_51 : decode cX12_named 51 = .ok (.iadd, 1) := by decide +kernel
theorem dX12_named_52 : decode cX12_named 52 = .ok (.ireturn, 1) := by decide +kernel
theorem dX12_newName_0 : decode cX12_newName 0 = .ok (.aload_n 0, 1) := by decide +kernel
theorem dX12_newName_1 : decode cX12_newName 1 = .ok (.aload_n 0, 1) := by decide +kernel
theorem dX12_newName_2 : decode cX12_newName 2 = .ok (.getfield 185, 3) := by decide +kernel
theorem dX12_newName_5 : decode cX12_newName 5 = .ok (.iconst 3, 1) := by decide +kernel
theorem dX12_newName_6 : decode cX12_newName 6 = .ok (.if_icmp .ne 7, 3) := by decide +kernel
theorem dX12_newName_9 : decode cX12_newName 9 = .ok (.iconst 1, 1) := by decide +kernel
theorem dX12_newName_10 : decode cX12_newName 10 = .ok (.goto 4, 3) := by decide +kernel
theorem dX12_newName_13 : decode cX12_newName 13 = .ok (.iconst 0, 1) := by decide +kernel
theorem dX12_newName_14 : decode cX12_newName 14 = .ok (.iconst 1, 1) := by decide +kernel
theorem dX12_newName_15 : decode cX12_newName 15 = .ok (.invokevirtual 196, 3) := by decide +kernel
theorem dX12_newName_18 : decode cX12_newName 18 = .ok (.pop, 1) := by decide +kernel
theorem dX12_newName_19 : decode cX12_newName 19 = .ok (.aload_n 0, 1) := by decide +kernel
theorem dX12_newName_20 : decode cX12_newName 20 = .ok (.getfield 164, 3) := by decide +kernel
theorem dX12_newName_23 : decode cX12_newName 23 = .ok (.ifCond .ne 18, 3) := by decide +kernel
theorem dX12_newName_26 : decode cX12_newName 26 = .ok (.aload_n 0, 1) := by decide +kernel
theorem dX12_newName_27 : decode cX12_newName 27 = .ok (.aload_n 0, 1) := by decide +kernel
theorem dX12_newName_28 : decode cX12_newName 28 = .ok (.getfield 176, 3) := by decide +kernel
theorem dX12_newName_31 : decode cX12_newName 31 = .ok (.aload_n 0, 1) := by decide +kernel
theorem dX12_newName_32 : decode cX12_newName 32 = .ok (.getfield 179, 3) := by decide +kernel
theorem dX12_newName_35 : decode cX12_newName 35 = .ok (.invokevirtual 214, 3) := by decide +kernel
theorem dX12_newName_38 : decode cX12_newName 38 = .ok (.goto 4, 3) := by decide +kernel
theorem dX12_newName_41 : decode cX12_newName 41 = .ok (.iconst 0, 1) := by decide +kernel
theorem dX12_newName_42 : decode cX12_newName 42 = .ok (.istore_n 1, 1) := by decide +kernel
theorem dX12_newName_43 : decode cX12_newName 43 = .ok (.aload_n 0, 1) := by decide +kernel
theorem dX12_newName_44 : decode cX12_newName 44 = .ok (.iload_n 1, 1) := by decide +kernel
theorem dX12_newName_45 : decode cX12_newName 45 = .ok (.iconst (-1), 1) := by decide +kernel
theorem dX12_newName_46 : decode cX12_newName 46 = .ok (.if_icmp .eq 7, 3) := by decide +kernel
theorem dX12_newName_49 : decode cX12_newName 49 = .ok (.iconst 1, 1) := by decide +kernel
theorem dX12_newName_50 : decode cX12_newName 50 = .ok (.goto 4, 3) := by decide +kernel
theorem dX12_newName_53 : decode cX12_newName 53 = .ok (.iconst 0, 1) := by decide +kernel
theorem dX12_newName_54 : decode cX12_newName 54 = .ok (.iconst 2, 1) := by decide +kernel
theorem dX12_newName_55 : decode cX12_newName 55 = .ok (.invokevirtual 196, 3) := by decide +kernel
theorem dX12_newName_58 : decode cX12_newName 58 = .ok (.pop, 1) := by decide +kernel
theorem dX12_newName_59 : decode cX12_newName 59 = .ok (.aload_n 0, 1) := by decide +kernel
theorem dX12_newName_60 : decode cX12_newName 60 = .ok (.aload_n 0, 1) := by decide +kernel
theorem dX12_newName_61 : decode cX12_newName 61 = .ok (.getfield 164, 3) := by decide +kernel
theorem dX12_newName_64 : decode cX12_newName 64 = .ok (.ifCond .ne 15, 3) := by decide +kernel
theorem dX12_newName_67 : decode cX12_newName 67 = .ok (.aload_n 0, 1) := by decide +kernel
theorem dX12_newName_68 : decode cX12_newName 68 = .ok (.getfield 13, 3) := by decide +kernel
theorem dX12_newName_71 : decode cX12_newName 71 = .ok (.iload_n 1, 1) := by decide +kernel
theorem dX12_newName_72 : decode cX12_newName 72 = .ok (.invokestatic 217, 3) := by decide +kernel
theorem dX12_newName_75 : decode cX12_newName 75 = .ok (.iconst (-1), 1) := by decide +kernel
theorem dX12_newName_76 : decode cX12_newName 76 = .ok (.if_icmp .ne 7, 3) := by decide +kernel
theorem dX12_newName_79 : decode cX12_newName 79 = .ok (.iconst 1, 1) := by decide +kernel
theorem dX12_newName_80 : decode cX12_newName 80 = .ok (.goto 4, 3) := by decide +kernel
theorem dX12_newName_83 : decode cX12_newName 83 = .ok (.iconst 0, 1) := by decide +kernel
theorem dX12_newName_84 : decode cX12_newName 84 = .ok (.iconst 3, 1) := by decide +kernel
theorem dX12_newName_85 : decode cX12_newName 85 = .ok (.invokevirtual 196, 3) := by decide +kernel
theorem dX12_newName_88 : decode cX12_newName 88 = .ok (.pop, 1) := by decide +kernel
theorem dX12_newName_89 : decode cX12_newName 89 = .ok (.aload_n 0, 1) := by decide +kernel
theorem dX12_newName_90 : decode cX12_newName 90 = .ok (.invokevirtual 199, 3) := by decide +kernel
theorem dX12_newName_93 : decode cX12_newName 93 = .ok (.iload_n 1, 1) := by decide +kernel
theorem dX12_newName_94 : decode cX12_newName 94 = .ok (.ireturn, 1) := by decide +kernel
theorem dX12_nameHere_0 : decode cX12_nameHere 0 = .ok (.aload_n 0, 1) := by decide +kernel
theorem dX12_nameHere_1 : decode cX12_nameHere 1 = .ok (.aload_n 0, 1) := by decide +kernel
theorem dX12_nameHere_2 : decode cX12_nameHere 2 = .ok (.getfield 185, 3) := by decide +kernel
theorem dX12_nameHere_5 : decode cX12_nameHere 5 = .ok (.iconst 3, 1) := by decide +kernel
theorem dX12_nameHere_6 : decode cX12_nameHere 6 = .ok (.if_icmp .ne 7, 3) := by decide +kernel
theorem dX12_nameHere_9 : decode cX12_nameHere 9 = .ok (.iconst 1, 1) := by decide +kernel
theorem dX12_nameHere_10 : decode cX12_nameHere 10 = .ok (.goto 4, 3) := by decide +kernel
theorem dX12_nameHere_13 : decode cX12_nameHere 13 = .ok (.iconst 0, 1) := by decide +kernel
theorem dX12_nameHere_14 : decode cX12_nameHere 14 = .ok (.iconst 1, 1) := by decide +kernel
theorem dX12_nameHere_15 : decode cX12_nameHere 15 = .ok (.invokevirtual 196, 3) := by decide +kernel
theorem dX12_nameHere_18 : decode cX12_nameHere 18 = .ok (.pop, 1) := by decide +kernel
theorem dX12_nameHere_19 : decode cX12_nameHere 19 = .ok (.aload_n 0, 1) := by decide +kernel
theorem dX12_nameHere_20 : decode cX12_nameHere 20 = .ok (.getfield 164, 3) := by decide +kernel
theorem dX12_nameHere_23 : decode cX12_nameHere 23 = .ok (.ifCond .ne 18, 3) := by decide +kernel
theorem dX12_nameHere_26 : decode cX12_nameHere 26 = .ok (.aload_n 0, 1) := by decide +kernel
theorem dX12_nameHere_27 : decode cX12_nameHere 27 = .ok (.aload_n 0, 1) := by decide +kernel
theorem dX12_nameHere_28 : decode cX12_nameHere 28 = .ok (.getfield 176, 3) := by decide +kernel
theorem dX12_nameHere_31 : decode cX12_nameHere 31 = .ok (.aload_n 0, 1) := by decide +kernel
theorem dX12_nameHere_32 : decode cX12_nameHere 32 = .ok (.getfield 179, 3) := by decide +kernel
theorem dX12_nameHere_35 : decode cX12_nameHere 35 = .ok (.invokevirtual 214, 3) := by decide +kernel
theorem dX12_nameHere_38 : decode cX12_nameHere 38 = .ok (.goto 4, 3) := by decide +kernel
theorem dX12_nameHere_41 : decode cX12_nameHere 41 = .ok (.iconst 0, 1) := by decide +kernel
theorem dX12_nameHere_42 : decode cX12_nameHere 42 = .ok (.ireturn, 1) := by decide +kernel
theorem dX12_exists_0 : decode cX12_exists 0 = .ok (.aload_n 0, 1) := by decide +kernel
theorem dX12_exists_1 : decode cX12_exists 1 = .ok (.aload_n 0, 1) := by decide +kernel
theorem dX12_exists_2 : decode cX12_exists 2 = .ok (.getfield 164, 3) := by decide +kernel
theorem dX12_exists_5 : decode cX12_exists 5 = .ok (.ifCond .ne 8, 3) := by decide +kernel
theorem dX12_exists_8 : decode cX12_exists 8 = .ok (.iload_n 1, 1) := by decide +kernel
theorem dX12_exists_9 : decode cX12_exists 9 = .ok (.iconst (-1), 1) := by decide +kernel
theorem dX12_exists_10 : decode cX12_exists 10 = .ok (.if_icmp .eq 7, 3) := by decide +kernel
theorem dX12_exists_13 : decode cX12_exists 13 = .ok (.iconst 1, 1) := by decide +kernel
theorem dX12_exists_14 : decode cX12_exists 14 = .ok (.goto 4, 3) := by decide +kernel
theorem dX12_exists_17 : decode cX12_exists 17 = .ok (.iconst 0, 1) := by decide +kernel
theorem dX12_exists_18 : decode cX12_exists 18 = .ok (.iconst 4, 1) := by decide +kernel
theorem dX12_exists_19 : decode cX12_exists 19 = .ok (.invokevirtual 196, 3) := by decide +kernel
theorem dX12_exists_22 : decode cX12_exists 22 = .ok (.pop, 1) := by decide +kernel
theorem dX12_exists_23 : decode cX12_exists 23 = .ok (.aload_n 0, 1) := by decide +kernel
theorem dX12_exists_24 : decode cX12_exists 24 = .ok (.invokevirtual 199, 3) := by decide +kernel
theorem dX12_exists_27 : decode cX12_exists 27 = .ok (.aload_n 0, 1) := by decide +kernel
theorem dX12_exists_28 : decode cX12_exists 28 = .ok (.getfield 164, 3) := by decide +kernel
theorem dX12_exists_31 : decode cX12_exists 31 = .ok (.ifCond .ne 7, 3) := by decide +kernel
theorem dX12_exists_34 : decode cX12_exists 34 = .ok (.iload_n 1, 1) := by decide +kernel
theorem dX12_exists_35 : decode cX12_exists 35 = .ok (.goto 4, 3) := by decide +kernel
theorem dX12_exists_38 : decode cX12_exists 38 = .ok (.iconst 0, 1) := by decide +kernel
theorem dX12_exists_39 : decode cX12_exists 39 = .ok (.ireturn, 1) := by decide +kernel
theorem dX12_realmHere_0 : decode cX12_realmHere 0 = .ok (.aload_n 0, 1) := by decide +kernel
theorem dX12_realmHere_1 : decode cX12_realmHere 1 = .ok (.aload_n 0, 1) := by decide +kernel
theorem dX12_realmHere_2 : decode cX12_realmHere 2 = .ok (.getfield 13, 3) := by decide +kernel
theorem dX12_realmHere_5 : decode cX12_realmHere 5 = .ok (.aload_n 0, 1) := by decide +kernel
theorem dX12_realmHere_6 : decode cX12_realmHere 6 = .ok (.invokevirtual 220, 3) := by decide +kernel
theorem dX12_realmHere_9 : decode cX12_realmHere 9 = .ok (.invokestatic 205, 3) := by decide +kernel
theorem dX12_realmHere_12 : decode cX12_realmHere 12 = .ok (.invokevirtual 223, 3) := by decide +kernel
theorem dX12_realmHere_15 : decode cX12_realmHere 15 = .ok (.ireturn, 1) := by decide +kernel
theorem dX12_userHere_0 : decode cX12_userHere 0 = .ok (.aload_n 0, 1) := by decide +kernel
theorem dX12_userHere_1 : decode cX12_userHere 1 = .ok (.aload_n 0, 1) := by decide +kernel
theorem dX12_userHere_2 : decode cX12_userHere 2 = .ok (.getfield 13, 3) := by decide +kernel
theorem dX12_userHere_5 : decode cX12_userHere 5 = .ok (.aload_n 0, 1) := by decide +kernel
theorem dX12_userHere_6 : decode cX12_userHere 6 = .ok (.invokevirtual 220, 3) := by decide +kernel
theorem dX12_userHere_9 : decode cX12_userHere 9 = .ok (.invokestatic 208, 3) := by decide +kernel
theorem dX12_userHere_12 : decode cX12_userHere 12 = .ok (.invokevirtual 223, 3) := by decide +kernel
theorem dX12_userHere_15 : decode cX12_userHere 15 = .ok (.ireturn, 1) := by decide +kernel
theorem dX12_serviceHere_0 : decode cX12_serviceHere 0 = .ok (.aload_n 0, 1) := by decide +kernel
theorem dX12_serviceHere_1 : decode cX12_serviceHere 1 = .ok (.aload_n 0, 1) := by decide +kernel
theorem dX12_serviceHere_2 : decode cX12_serviceHere 2 = .ok (.getfield 13, 3) := by decide +kernel
theorem dX12_serviceHere_5 : decode cX12_serviceHere 5 = .ok (.aload_n 0, 1) := by decide +kernel
theorem dX12_serviceHere_6 : decode cX12_serviceHere 6 = .ok (.invokevirtual 220, 3) := by decide +kernel
theorem dX12_serviceHere_9 : decode cX12_serviceHere 9 = .ok (.invokestatic 211, 3) := by decide +kernel
theorem dX12_serviceHere_12 : decode cX12_serviceHere 12 = .ok (.invokevirtual 223, 3) := by decide +kernel
theorem dX12_serviceHere_15 : decode cX12_serviceHere 15 = .ok (.ireturn, 1) := by decide +kernel
theorem dX12_ticketHere_0 : decode cX12_ticketHere 0 = .ok (.aload_n 0, 1) := by decide +kernel
theorem dX12_ticketHere_1 : decode cX12_ticketHere 1 = .ok (.aload_n 0, 1) := by decide +kernel
theorem dX12_ticketHere_2 : decode cX12_ticketHere 2 = .ok (.getfield 185, 3) := by decide +kernel
theorem dX12_ticketHere_5 : decode cX12_ticketHere 5 = .ok (.iconst 2, 1) := by decide +kernel
theorem dX12_ticketHere_6 : decode cX12_ticketHere 6 = .ok (.if_icmp .ne 7, 3) := by decide +kernel
theorem dX12_ticketHere_9 : decode cX12_ticketHere 9 = .ok (.iconst 1, 1) := by decide +kernel
theorem dX12_ticketHere_10 : decode cX12_ticketHere 10 = .ok (.goto 4, 3) := by decide +kernel
theorem dX12_ticketHere_13 : decode cX12_ticketHere 13 = .ok (.iconst 0, 1) := by decide +kernel
theorem dX12_ticketHere_14 : decode cX12_ticketHere 14 = .ok (.iconst 1, 1) := by decide +kernel
theorem dX12_ticketHere_15 : decode cX12_ticketHere 15 = .ok (.invokevirtual 196, 3) := by decide +kernel
theorem dX12_ticketHere_18 : decode cX12_ticketHere 18 = .ok (.pop, 1) := by decide +kernel
theorem dX12_ticketHere_19 : decode cX12_ticketHere 19 = .ok (.aload_n 0, 1) := by decide +kernel
theorem dX12_ticketHere_20 : decode cX12_ticketHere 20 = .ok (.aload_n 0, 1) := by decide +kernel
theorem dX12_ticketHere_21 : decode cX12_ticketHere 21 = .ok (.getfield 164, 3) := by decide +kernel
theorem dX12_ticketHere_24 : decode cX12_ticketHere 24 = .ok (.ifCond .ne 17, 3) := by decide +kernel
theorem dX12_ticketHere_27 : decode cX12_ticketHere 27 = .ok (.aload_n 0, 1) := by decide +kernel
theorem dX12_ticketHere_28 : decode cX12_ticketHere 28 = .ok (.getfield 13, 3) := by decide +kernel
theorem dX12_ticketHere_31 : decode cX12_ticketHere 31 = .ok (.aload_n 0, 1) := by decide +kernel
theorem dX12_ticketHere_32 : decode cX12_ticketHere 32 = .ok (.getfield 182, 3) := by decide +kernel
theorem dX12_ticketHere_35 : decode cX12_ticketHere 35 = .ok (.invokestatic 226, 3) := by decide +kernel
theorem dX12_ticketHere_38 : decode cX12_ticketHere 38 = .ok (.goto 4, 3) := by decide +kernel
theorem dX12_ticketHere_41 : decode cX12_ticketHere 41 = .ok (.iconst 0, 1) := by decide +kernel
theorem dX12_ticketHere_42 : decode cX12_ticketHere 42 = .ok (.invokevirtual 223, 3) := by decide +kernel
theorem dX12_ticketHere_45 : decode cX12_ticketHere 45 = .ok (.ireturn, 1) := by decide +kernel
theorem dX12_clockHere_0 : decode cX12_clockHere 0 = .ok (.aload_n 0, 1) := by decide +kernel
theorem dX12_clockHere_1 : decode cX12_clockHere 1 = .ok (.ldc 229, 2) := by decide +kernel
theorem dX12_clockHere_3 : decode cX12_clockHere 3 = .ok (.invokevirtual 231, 3) := by decide +kernel
theorem dX12_clockHere_6 : decode cX12_clockHere 6 = .ok (.istore_n 1, 1) := by decide +kernel
theorem dX12_clockHere_7 : decode cX12_clockHere 7 = .ok (.aload_n 0, 1) := by decide +kernel
theorem dX12_clockHere_8 : decode cX12_clockHere 8 = .ok (.ldc 235, 2) := by decide +kernel
theorem dX12_clockHere_10 : decode cX12_clockHere 10 = .ok (.invokevirtual 231, 3) := by decide +kernel
theorem dX12_clockHere_13 : decode cX12_clockHere 13 = .ok (.istore_n 2, 1) := by decide +kernel
theorem dX12_clockHere_14 : decode cX12_clockHere 14 = .ok (.aload_n 0, 1) := by decide +kernel
theorem dX12_clockHere_15 : decode cX12_clockHere 15 = .ok (.iload_n 1, 1) := by decide +kernel
theorem dX12_clockHere_16 : decode cX12_clockHere 16 = .ok (.ifCond .ne 16, 3) := by decide +kernel
theorem dX12_clockHere_19 : decode cX12_clockHere 19 = .ok (.iload_n 2, 1) := by decide +kernel
theorem dX12_clockHere_20 : decode cX12_clockHere 20 = .ok (.ifCond .ne 12, 3) := by decide +kernel
theorem dX12_clockHere_23 : decode cX12_clockHere 23 = .ok (.aload_n 0, 1) := by decide +kernel
theorem dX12_clockHere_24 : decode cX12_clockHere 24 = .ok (.ldc 237, 2) := by decide +kernel
theorem dX12_clockHere_26 : decode cX12_clockHere 26 = .ok (.invokevirtual 231, 3) := by decide +kernel
theorem dX12_clockHere_29 : decode cX12_clockHere 29 = .ok (.ifCond .eq 7, 3) := by decide +kernel
theorem dX12_clockHere_32 : decode cX12_clockHere 32 = .ok (.iconst 1, 1) := by decide +kernel
theorem dX12_clockHere_33 : decode cX12_clockHere 33 = .ok (.goto 4, 3) := by decide +kernel
theorem dX12_clockHere_36 : decode cX12_clockHere 36 = .ok (.iconst 0, 1) := by decide +kernel
theorem dX12_clockHere_37 : decode cX12_clockHere 37 = .ok (.iconst 1, 1) := by decide +kernel
theorem dX12_clockHere_38 : decode cX12_clockHere 38 = .ok (.invokevirtual 196, 3) := by decide +kernel
theorem dX12_clockHere_41 : decode cX12_clockHere 41 = .ok (.pop, 1) := by decide +kernel
theorem dX12_clockHere_42 : decode cX12_clockHere 42 = .ok (.aload_n 0, 1) := by decide +kernel
theorem dX12_clockHere_43 : decode cX12_clockHere 43 = .ok (.invokevirtual 199, 3) := by decide +kernel
theorem dX12_clockHere_46 : decode cX12_clockHere 46 = .ok (.iload_n 2, 1) := by decide +kernel
theorem dX12_clockHere_47 : decode cX12_clockHere 47 = .ok (.ifCond .eq 7, 3) := by decide +kernel
theorem dX12_clockHere_50 : decode cX12_clockHere 50 = .ok (.iconst 0, 1) := by decide +kernel
theorem dX12_clockHere_51 : decode cX12_clockHere 51 = .ok (.goto 10, 3) := by decide +kernel
theorem dX12_clockHere_54 : decode cX12_clockHere 54 = .ok (.aload_n 0, 1) := by decide +kernel
theorem dX12_clockHere_55 : decode cX12_clockHere 55 = .ok (.iconst 1, 1) := by decide +kernel
theorem dX12_clockHere_56 : decode cX12_clockHere 56 = .ok (.bipush 9, 2) := by decide +kernel
theorem dX12_clockHere_58 : decode cX12_clockHere 58 = .ok (.invokevirtual 239, 3) := by decide +kernel
theorem dX12_clockHere_61 : decode cX12_clockHere 61 = .ok (.istore_n 3, 1) := by decide +kernel
theorem dX12_clockHere_62 : decode cX12_clockHere 62 = .ok (.iload_n 1, 1) := by decide +kernel
theorem dX12_clockHere_63 : decode cX12_clockHere 63 = .ok (.ifCond .eq 7, 3) := by decide +kernel
theorem dX12_clockHere_66 : decode cX12_clockHere 66 = .ok (.iload_n 3, 1) := by decide +kernel
theorem dX12_clockHere_67 : decode cX12_clockHere 67 = .ok (.goto 5, 3) := by decide +kernel
theorem dX12_clockHere_70 : decode cX12_clockHere 70 = .ok (.iload_n 3, 1) := by decide +kernel
theorem dX12_clockHere_71 : decode cX12_clockHere 71 = .ok (.ineg, 1) := by decide +kernel
theorem dX12_clockHere_72 : decode cX12_clockHere 72 = .ok (.ireturn, 1) := by decide +kernel
theorem dX12_readRealm_0 : decode cX12_readRealm 0 = .ok (.aload_n 0, 1) := by decide +kernel
theorem dX12_readRealm_1 : decode cX12_readRealm 1 = .ok (.aload_n 0, 1) := by decide +kernel
theorem dX12_readRealm_2 : decode cX12_readRealm 2 = .ok (.getfield 13, 3) := by decide +kernel
theorem dX12_readRealm_5 : decode cX12_readRealm 5 = .ok (.iconst 3, 1) := by decide +kernel
theorem dX12_readRealm_6 : decode cX12_readRealm 6 = .ok (.iaload, 1) := by decide +kernel
theorem dX12_readRealm_7 : decode cX12_readRealm 7 = .ok (.iconst 5, 1) := by decide +kernel
theorem dX12_readRealm_8 : decode cX12_readRealm 8 = .ok (.if_icmp .ge 7, 3) := by decide +kernel
theorem dX12_readRealm_11 : decode cX12_readRealm 11 = .ok (.iconst 1, 1) := by decide +kernel
theorem dX12_readRealm_12 : decode cX12_readRealm 12 = .ok (.goto 4, 3) := by decide +kernel
theorem dX12_readRealm_15 : decode cX12_readRealm 15 = .ok (.iconst 0, 1) := by decide +kernel
theorem dX12_readRealm_16 : decode cX12_readRealm 16 = .ok (.iconst 5, 1) := by decide +kernel
theorem dX12_readRealm_17 : decode cX12_readRealm 17 = .ok (.invokevirtual 196, 3) := by decide +kernel
theorem dX12_readRealm_20 : decode cX12_readRealm 20 = .ok (.pop, 1) := by decide +kernel
theorem dX12_readRealm_21 : decode cX12_readRealm 21 = .ok (.aload_n 0, 1) := by decide +kernel
theorem dX12_readRealm_22 : decode cX12_readRealm 22 = .ok (.invokevirtual 199, 3) := by decide +kernel
theorem dX12_readRealm_25 : decode cX12_readRealm 25 = .ok (.aload_n 0, 1) := by decide +kernel
theorem dX12_readRealm_26 : decode cX12_readRealm 26 = .ok (.invokevirtual 242, 3) := by decide +kernel
theorem dX12_readRealm_29 : decode cX12_readRealm 29 = .ok (.istore_n 1, 1) := by decide +kernel
theorem dX12_readRealm_30 : decode cX12_readRealm 30 = .ok (.aload_n 0, 1) := by decide +kernel
theorem dX12_readRealm_31 : decode cX12_readRealm 31 = .ok (.iconst 1, 1) := by decide +kernel
theorem dX12_readRealm_32 : decode cX12_readRealm 32 = .ok (.sipush 999, 3) := by decide +kernel
theorem dX12_readRealm_35 : decode cX12_readRealm 35 = .ok (.invokevirtual 239, 3) := by decide +kernel
theorem dX12_readRealm_38 : decode cX12_readRealm 38 = .ok (.istore_n 2, 1) := by decide +kernel
theorem dX12_readRealm_39 : decode cX12_readRealm 39 = .ok (.aload_n 0, 1) := by decide +kernel
theorem dX12_readRealm_40 : decode cX12_readRealm 40 = .ok (.iconst 0, 1) := by decide +kernel
theorem dX12_readRealm_41 : decode cX12_readRealm 41 = .ok (.sipush 9999, 3) := by decide +kernel
theorem dX12_readRealm_44 : decode cX12_readRealm 44 = .ok (.invokevirtual 239, 3) := by decide +kernel
theorem dX12_readRealm_47 : decode cX12_readRealm 47 = .ok (.istore_n 3, 1) := by decide +kernel
theorem dX12_readRealm_48 : decode cX12_readRealm 48 = .ok (.aload_n 0, 1) := by decide +kernel
theorem dX12_readRealm_49 : decode cX12_readRealm 49 = .ok (.invokevirtual 245, 3) := by decide +kernel
theorem dX12_readRealm_52 : decode cX12_readRealm 52 = .ok (.istore 4, 2) := by decide +kernel
theorem dX12_readRealm_54 : decode cX12_readRealm 54 = .ok (.aload_n 0, 1) := by decide +kernel
theorem dX12_readRealm_55 : decode cX12_readRealm 55 = .ok (.invokevirtual 248, 3) := by decide +kernel
theorem dX12_readRealm_58 : decode cX12_readRealm 58 = .ok (.aload_n 0, 1) := by decide +kernel
theorem dX12_readRealm_59 : decode cX12_readRealm 59 = .ok (.getfield 164, 3) := by decide +kernel
theorem dX12_readRealm_62 : decode cX12_readRealm 62 = .ok (.ifCond .ne 65, 3) := by decide +kernel
theorem dX12_readRealm_65 : decode cX12_readRealm 65 = .ok (.aload_n 0, 1) := by decide +kernel
theorem dX12_readRealm_66 : decode cX12_readRealm 66 = .ok (.getfield 13, 3) := by decide +kernel
theorem dX12_readRealm_69 : decode cX12_readRealm 69 = .ok (.iconst 3, 1) := by decide +kernel
theorem dX12_readRealm_70 : decode cX12_readRealm 70 = .ok (.iaload, 1) := by decide +kernel
theorem dX12_readRealm_71 : decode cX12_readRealm 71 = .ok (.invokestatic 91, 3) := by decide +kernel
theorem dX12_readRealm_74 : decode cX12_readRealm 74 = .ok (.istore 5, 2) := by decide +kernel
theorem dX12_readRealm_76 : decode cX12_readRealm 76 = .ok (.aload_n 0, 1) := by decide +kernel
theorem dX12_readRealm_77 : decode cX12_readRealm 77 = .ok (.getfield 13, 3) := by decide +kernel
theorem dX12_readRealm_80 : decode cX12_readRealm 80 = .ok (.iload 5, 2) := by decide +kernel
theorem dX12_readRealm_82 : decode cX12_readRealm 82 = .ok (.iconst 0, 1) := by decide +kernel
theorem dX12_readRealm_83 : decode cX12_readRealm 83 = .ok (.iadd, 1) := by decide +kernel
theorem dX12_readRealm_84 : decode cX12_readRealm 84 = .ok (.iload_n 1, 1) := by decide +kernel
theorem dX12_readRealm_85 : decode cX12_readRealm 85 = .ok (.iastore, 1) := by decide +kernel
theorem dX12_readRealm_86 : decode cX12_readRealm 86 = .ok (.aload_n 0, 1) := by decide +kernel
theorem dX12_readRealm_87 : decode cX12_readRealm 87 = .ok (.getfield 13, 3) := by decide +kernel
theorem dX12_readRealm_90 : decode cX12_readRealm 90 = .ok (.iload 5, 2) := by decide +kernel
theorem dX12_readRealm_92 : decode cX12_readRealm 92 = .ok (.iconst 1, 1) := by decide +kernel
theorem dX12_readRealm_93 : decode cX12_readRealm 93 = .ok (.iadd, 1) := by decide +kernel
theorem dX12_readRealm_94 : decode cX12_readRealm 94 = .ok (.iload_n 2, 1) := by decide +kernel
theorem dX12_readRealm_95 : decode cX12_readRealm 95 = .ok (.iastore, 1) := by decide +kernel
theorem dX12_readRealm_96 : decode cX12_readRealm 96 = .ok (.aload_n 0, 1) := by decide +kernel
theorem dX12_readRealm_97 : decode cX12_readRealm 97 = .ok (.getfield 13, 3) := by decide +kernel
theorem dX12_readRealm_100 : decode cX12_readRealm 100 = .ok (.iload 5, 2) := by decide +kernel
theorem dX12_readRealm_102 : decode cX12_readRealm 102 = .ok (.iconst 2, 1) := by decide +kernel
theorem dX12_readRealm_103 : decode cX12_readRealm 103 = .ok (.iadd, 1) := by decide +kernel
theorem dX12_readRealm_104 : decode cX12_readRealm 104 = .ok (.iload_n 3, 1) := by decide +kernel
theorem dX12_readRealm_105 : decode cX12_readRealm 105 = .ok (.iastore, 1) := by decide +kernel
theorem dX12_readRealm_106 : decode cX12_readRealm 106 = .ok (.aload_n 0, 1) := by decide +kernel
theorem dX12_readRealm_107 : decode cX12_readRealm 107 = .ok (.getfield 13, 3) := by decide +kernel
theorem dX12_readRealm_110 : decode cX12_readRealm 110 = .ok (.iload 5, 2) := by decide +kernel
theorem dX12_readRealm_112 : decode cX12_readRealm 112 = .ok (.iconst 3, 1) := by decide +kernel
theorem dX12_readRealm_113 : decode cX12_readRealm 113 = .ok (.iadd, 1) := by decide +kernel
theorem dX12_readRealm_114 : decode cX12_readRealm 114 = .ok (.iload 4, 2) := by decide +kernel
theorem dX12_readRealm_116 : decode cX12_readRealm 116 = .ok (.iastore, 1) := by decide +kernel
theorem dX12_readRealm_117 : decode cX12_readRealm 117 = .ok (.aload_n 0, 1) := by decide +kernel
theorem dX12_readRealm_118 : decode cX12_readRealm 118 = .ok (.getfield 13, 3) := by decide +kernel
theorem dX12_readRealm_121 : decode cX12_readRealm 121 = .ok (.iconst 3, 1) := by decide +kernel
theorem dX12_readRealm_122 : decode cX12_readRealm 122 = .ok (.dup2, 1) := by decide +kernel
theorem dX12_readRealm_123 : decode cX12_readRealm 123 = .ok (.iaload, 1) := by decide +kernel
theorem dX12_readRealm_124 : decode cX12_readRealm 124 = .ok (.iconst 1, 1) := by decide +kernel
theorem dX12_readRealm_125 : decode cX12_readRealm 125 = .ok (.iadd, 1) := by decide +kernel
theorem dX12_readRealm_126 : decode cX12_readRealm 126 = .ok (.iastore, 1) := by decide +kernel
theorem dX12_readRealm_127 : decode cX12_readRealm 127 = .ok (.return_, 1) := by decide +kernel
theorem dX12_readTrust_0 : decode cX12_readTrust 0 = .ok (.aload_n 0, 1) := by decide +kernel
theorem dX12_readTrust_1 : decode cX12_readTrust 1 = .ok (.invokevirtual 199, 3) := by decide +kernel
theorem dX12_readTrust_4 : decode cX12_readTrust 4 = .ok (.aload_n 0, 1) := by decide +kernel
theorem dX12_readTrust_5 : decode cX12_readTrust 5 = .ok (.invokevirtual 251, 3) := by decide +kernel
theorem dX12_readTrust_8 : decode cX12_readTrust 8 = .ok (.istore_n 1, 1) := by decide +kernel
theorem dX12_readTrust_9 : decode cX12_readTrust 9 = .ok (.aload_n 0, 1) := by decide +kernel
theorem dX12_readTrust_10 : decode cX12_readTrust 10 = .ok (.getfield 13, 3) := by decide +kernel
theorem dX12_readTrust_13 : decode cX12_readTrust 13 = .ok (.aload_n 0, 1) := by decide +kernel
theorem dX12_readTrust_14 : decode cX12_readTrust 14 = .ok (.invokevirtual 220, 3) := by decide +kernel
theorem dX12_readTrust_17 : decode cX12_readTrust 17 = .ok (.invokestatic 205, 3) := by decide +kernel
theorem dX12_readTrust_20 : decode cX12_readTrust 20 = .ok (.istore_n 2, 1) := by decide +kernel
theorem dX12_readTrust_21 : decode cX12_readTrust 21 = .ok (.aload_n 0, 1) := by decide +kernel
theorem dX12_readTrust_22 : decode cX12_readTrust 22 = .ok (.aload_n 0, 1) := by decide +kernel
theorem dX12_readTrust_23 : decode cX12_readTrust 23 = .ok (.getfield 164, 3) := by decide +kernel
theorem dX12_readTrust_26 : decode cX12_readTrust 26 = .ok (.ifCond .ne 8, 3) := by decide +kernel
theorem dX12_readTrust_29 : decode cX12_readTrust 29 = .ok (.iload_n 2, 1) := by decide +kernel
theorem dX12_readTrust_30 : decode cX12_readTrust 30 = .ok (.iload_n 1, 1) := by decide +kernel
theorem dX12_readTrust_31 : decode cX12_readTrust 31 = .ok (.if_icmp .eq 7, 3) := by decide +kernel
theorem dX12_readTrust_34 : decode cX12_readTrust 34 = .ok (.iconst 1, 1) := by decide +kernel
theorem dX12_readTrust_35 : decode cX12_readTrust 35 = .ok (.goto 4, 3) := by decide +kernel
theorem dX12_readTrust_38 : decode cX12_readTrust 38 = .ok (.iconst 0, 1) := by decide +kernel
theorem dX12_readTrust_39 : decode cX12_readTrust 39 = .ok (.iconst 3, 1) := by decide +kernel
theorem dX12_readTrust_40 : decode cX12_readTrust 40 = .ok (.invokevirtual 196, 3) := by decide +kernel
theorem dX12_readTrust_43 : decode cX12_readTrust 43 = .ok (.pop, 1) := by decide +kernel
theorem dX12_readTrust_44 : decode cX12_readTrust 44 = .ok (.aload_n 0, 1) := by decide +kernel
theorem dX12_readTrust_45 : decode cX12_readTrust 45 = .ok (.iload_n 2, 1) := by decide +kernel
theorem dX12_readTrust_46 : decode cX12_readTrust 46 = .ok (.invokevirtual 223, 3) := by decide +kernel
theorem dX12_readTrust_49 : decode cX12_readTrust 49 = .ok (.istore_n 2, 1) := by decide +kernel
theorem dX12_readTrust_50 : decode cX12_readTrust 50 = .ok (.aload_n 0, 1) := by decide +kernel
theorem dX12_readTrust_51 : decode cX12_readTrust 51 = .ok (.aload_n 0, 1) := by decide +kernel
theorem dX12_readTrust_52 : decode cX12_readTrust 52 = .ok (.getfield 164, 3) := by decide +kernel
theorem dX12_readTrust_55 : decode cX12_readTrust 55 = .ok (.ifCond .ne 19, 3) := by decide +kernel
theorem dX12_readTrust_58 : decode cX12_readTrust 58 = .ok (.aload_n 0, 1) := by decide +kernel
theorem dX12_readTrust_59 : decode cX12_readTrust 59 = .ok (.getfield 13, 3) := by decide +kernel
theorem dX12_readTrust_62 : decode cX12_readTrust 62 = .ok (.iload_n 1, 1) := by decide +kernel
theorem dX12_readTrust_63 : decode cX12_readTrust 63 = .ok (.iload_n 2, 1) := by decide +kernel
theorem dX12_readTrust_64 : decode cX12_readTrust 64 = .ok (.invokestatic 75, 3) := by decide +kernel
theorem dX12_readTrust_67 : decode cX12_readTrust 67 = .ok (.ifCond .eq 7, 3) := by decide +kernel
theorem dX12_readTrust_70 : decode cX12_readTrust 70 = .ok (.iconst 1, 1) := by decide +kernel
theorem dX12_readTrust_71 : decode cX12_readTrust 71 = .ok (.goto 4, 3) := by decide +kernel
theorem dX12_readTrust_74 : decode cX12_readTrust 74 = .ok (.iconst 0, 1) := by decide +kernel
theorem dX12_readTrust_75 : decode cX12_readTrust 75 = .ok (.invokevirtual 254, 3) := by decide +kernel
theorem dX12_readTrust_78 : decode cX12_readTrust 78 = .ok (.ifCond .eq 17, 3) := by decide +kernel
theorem dX12_readTrust_81 : decode cX12_readTrust 81 = .ok (.aload_n 0, 1) := by decide +kernel
theorem dX12_readTrust_82 : decode cX12_readTrust 82 = .ok (.getfield 13, 3) := by decide +kernel
theorem dX12_readTrust_85 : decode cX12_readTrust 85 = .ok (.bipush 30, 2) := by decide +kernel
theorem dX12_readTrust_87 : decode cX12_readTrust 87 = .ok (.iconst 5, 1) := by decide +kernel
theorem dX12_readTrust_88 : decode cX12_readTrust 88 = .ok (.iload_n 1, 1) := by decide +kernel
theorem dX12_readTrust_89 : decode cX12_readTrust 89 = .ok (.imul, 1) := by decide +kernel
theorem dX12_readTrust_90 : decode cX12_readTrust 90 = .ok (.iadd, 1) := by decide +kernel
theorem dX12_readTrust_91 : decode cX12_readTrust 91 = .ok (.iload_n 2, 1) := by decide +kernel
theorem dX12_readTrust_92 : decode cX12_readTrust 92 = .ok (.iadd, 1) := by decide +kernel
theorem dX12_readTrust_93 : decode cX12_readTrust 93 = .ok (.iconst 1, 1) := by decide +kernel
theorem dX12_readTrust_94 : decode cX12_readTrust 94 = .ok (.iastore, 1) := by decide +kernel
theorem dX12_readTrust_95 : decode cX12_readTrust 95 = .ok (.aload_n 0, 1) := by decide +kernel
theorem dX12_readTrust_96 : decode cX12_readTrust 96 = .ok (.invokevirtual 199, 3) := by decide +kernel
theorem dX12_readTrust_99 : decode cX12_readTrust 99 = .ok (.return_, 1) := by decide +kernel
theorem dX12_readUser_0 : decode cX12_readUser 0 = .ok (.aload_n 0, 1) := by decide +kernel
theorem dX12_readUser_1 : decode cX12_readUser 1 = .ok (.aload_n 0, 1) := by decide +kernel
theorem dX12_readUser_2 : decode cX12_readUser 2 = .ok (.getfield 13, 3) := by decide +kernel
theorem dX12_readUser_5 : decode cX12_readUser 5 = .ok (.iconst 4, 1) := by decide +kernel
theorem dX12_readUser_6 : decode cX12_readUser 6 = .ok (.iaload, 1) := by decide +kernel
theorem dX12_readUser_7 : decode cX12_readUser 7 = .ok (.bipush 6, 2) := by decide +kernel
theorem dX12_readUser_9 : decode cX12_readUser 9 = .ok (.if_icmp .ge 7, 3) := by decide +kernel
theorem dX12_readUser_12 : decode cX12_readUser 12 = .ok (.iconst 1, 1) := by decide +kernel
theorem dX12_readUser_13 : decode cX12_readUser 13 = .ok (.goto 4, 3) := by decide +kernel
theorem dX12_readUser_16 : decode cX12_readUser 16 = .ok (.iconst 0, 1) := by decide +kernel
theorem dX12_readUser_17 : decode cX12_readUser 17 = .ok (.iconst 5, 1) := by decide +kernel
theorem dX12_readUser_18 : decode cX12_readUser 18 = .ok (.invokevirtual 196, 3) := by decide +kernel
theorem dX12_readUser_21 : decode cX12_readUser 21 = .ok (.pop, 1) := by decide +kernel
theorem dX12_readUser_22 : decode cX12_readUser 22 = .ok (.aload_n 0, 1) := by decide +kernel
theorem dX12_readUser_23 : decode cX12_readUser 23 = .ok (.invokevirtual 199, 3) := by decide +kernel
theorem dX12_readUser_26 : decode cX12_readUser 26 = .ok (.aload_n 0, 1) := by decide +kernel
theorem dX12_readUser_27 : decode cX12_readUser 27 = .ok (.invokevirtual 242, 3) := by decide +kernel
theorem dX12_readUser_30 : decode cX12_readUser 30 = .ok (.istore_n 1, 1) := by decide +kernel
theorem dX12_readUser_31 : decode cX12_readUser 31 = .ok (.aload_n 0, 1) := by decide +kernel
theorem dX12_readUser_32 : decode cX12_readUser 32 = .ok (.invokevirtual 251, 3) := by decide +kernel
theorem dX12_readUser_35 : decode cX12_readUser 35 = .ok (.istore_n 2, 1) := by decide +kernel
theorem dX12_readUser_36 : decode cX12_readUser 36 = .ok (.aload_n 0, 1) := by decide +kernel
theorem dX12_readUser_37 : decode cX12_readUser 37 = .ok (.iconst 0, 1) := by decide +kernel
theorem dX12_readUser_38 : decode cX12_readUser 38 = .ok (.sipush 9999, 3) := by decide +kernel
theorem dX12_readUser_41 : decode cX12_readUser 41 = .ok (.invokevirtual 239, 3) := by decide +kernel
theorem dX12_readUser_44 : decode cX12_readUser 44 = .ok (.istore_n 3, 1) := by decide +kernel
theorem dX12_readUser_45 : decode cX12_readUser 45 = .ok (.aload_n 0, 1) := by decide +kernel
theorem dX12_readUser_46 : decode cX12_readUser 46 = .ok (.invokevirtual 245, 3) := by decide +kernel
theorem dX12_readUser_49 : decode cX12_readUser 49 = .ok (.istore 4, 2) := by decide +kernel
theorem dX12_readUser_51 : decode cX12_readUser 51 = .ok (.aload_n 0, 1) := by decide +kernel
theorem dX12_readUser_52 : decode cX12_readUser 52 = .ok (.invokevirtual 248, 3) := by decide +kernel
theorem dX12_readUser_55 : decode cX12_readUser 55 = .ok (.aload_n 0, 1) := by decide +kernel
theorem dX12_readUser_56 : decode cX12_readUser 56 = .ok (.getfield 164, 3) := by decide +kernel
theorem dX12_readUser_59 : decode cX12_readUser 59 = .ok (.ifCond .ne 65, 3) := by decide +kernel
theorem dX12_readUser_62 : decode cX12_readUser 62 = .ok (.aload_n 0, 1) := by decide +kernel
theorem dX12_readUser_63 : decode cX12_readUser 63 = .ok (.getfield 13, 3) := by decide +kernel
theorem dX12_readUser_66 : decode cX12_readUser 66 = .ok (.iconst 4, 1) := by decide +kernel
theorem dX12_readUser_67 : decode cX12_readUser 67 = .ok (.iaload, 1) := by decide +kernel
theorem dX12_readUser_68 : decode cX12_readUser 68 = .ok (.invokestatic 87, 3) := by decide +kernel
theorem dX12_readUser_71 : decode cX12_readUser 71 = .ok (.istore 5, 2) := by decide +kernel
theorem dX12_readUser_73 : decode cX12_readUser 73 = .ok (.aload_n 0, 1) := by decide +kernel
theorem dX12_readUser_74 : decode cX12_readUser 74 = .ok (.getfield 13, 3) := by decide +kernel
theorem dX12_readUser_77 : decode cX12_readUser 77 = .ok (.iload 5, 2) := by decide +kernel
theorem dX12_readUser_79 : decode cX12_readUser 79 = .ok (.iconst 0, 1) := by decide +kernel
theorem dX12_readUser_80 : decode cX12_readUser 80 = .ok (.iadd, 1) := by decide +kernel
theorem dX12_readUser_81 : decode cX12_readUser 81 = .ok (.iload_n 1, 1) := by decide +kernel
theorem dX12_readUser_82 : decode cX12_readUser 82 = .ok (.iastore, 1) := by decide +kernel
theorem dX12_readUser_83 : decode cX12_readUser 83 = .ok (.aload_n 0, 1) := by decide +kernel
theorem dX12_readUser_84 : decode cX12_readUser 84 = .ok (.getfield 13, 3) := by decide +kernel
theorem dX12_readUser_87 : decode cX12_readUser 87 = .ok (.iload 5, 2) := by decide +kernel
theorem dX12_readUser_89 : decode cX12_readUser 89 = .ok (.iconst 1, 1) := by decide +kernel
theorem dX12_readUser_90 : decode cX12_readUser 90 = .ok (.iadd, 1) := by decide +kernel
theorem dX12_readUser_91 : decode cX12_readUser 91 = .ok (.iload_n 2, 1) := by decide +kernel
theorem dX12_readUser_92 : decode cX12_readUser 92 = .ok (.iastore, 1) := by decide +kernel
theorem dX12_readUser_93 : decode cX12_readUser 93 = .ok (.aload_n 0, 1) := by decide +kernel
theorem dX12_readUser_94 : decode cX12_readUser 94 = .ok (.getfield 13, 3) := by decide +kernel
theorem dX12_readUser_97 : decode cX12_readUser 97 = .ok (.iload 5, 2) := by decide +kernel
theorem dX12_readUser_99 : decode cX12_readUser 99 = .ok (.iconst 2, 1) := by decide +kernel
theorem dX12_readUser_100 : decode cX12_readUser 100 = .ok (.iadd, 1) := by decide +kernel
theorem dX12_readUser_101 : decode cX12_readUser 101 = .ok (.iload_n 3, 1) := by decide +kernel
theorem dX12_readUser_102 : decode cX12_readUser 102 = .ok (.iastore, 1) := by decide +kernel
theorem dX12_readUser_103 : decode cX12_readUser 103 = .ok (.aload_n 0, 1) := by decide +kernel
theorem dX12_readUser_104 : decode cX12_readUser 104 = .ok (.getfield 13, 3) := by decide +kernel
theorem dX12_readUser_107 : decode cX12_readUser 107 = .ok (.iload 5, 2) := by decide +kernel
theorem dX12_readUser_109 : decode cX12_readUser 109 = .ok (.iconst 3, 1) := by decide +kernel
theorem dX12_readUser_110 : decode cX12_readUser 110 = .ok (.iadd, 1) := by decide +kernel
theorem dX12_readUser_111 : decode cX12_readUser 111 = .ok (.iload 4, 2) := by decide +kernel
theorem dX12_readUser_113 : decode cX12_readUser 113 = .ok (.iastore, 1) := by decide +kernel
theorem dX12_readUser_114 : decode cX12_readUser 114 = .ok (.aload_n 0, 1) := by decide +kernel
theorem dX12_readUser_115 : decode cX12_readUser 115 = .ok (.getfield 13, 3) := by decide +kernel
theorem dX12_readUser_118 : decode cX12_readUser 118 = .ok (.iconst 4, 1) := by decide +kernel
theorem dX12_readUser_119 : decode cX12_readUser 119 = .ok (.dup2, 1) := by decide +kernel
theorem dX12_readUser_120 : decode cX12_readUser 120 = .ok (.iaload, 1) := by decide +kernel
theorem dX12_readUser_121 : decode cX12_readUser 121 = .ok (.iconst 1, 1) := by decide +kernel
theorem dX12_readUser_122 : decode cX12_readUser 122 = .ok (.iadd, 1) := by decide +kernel
theorem dX12_readUser_123 : decode cX12_readUser 123 = .ok (.iastore, 1) := by decide +kernel
theorem dX12_readUser_124 : decode cX12_readUser 124 = .ok (.return_, 1) := by decide +kernel
theorem dX12_readService_0 : decode cX12_readService 0 = .ok (.aload_n 0, 1) := by decide +kernel
theorem dX12_readService_1 : decode cX12_readService 1 = .ok (.aload_n 0, 1) := by decide +kernel
theorem dX12_readService_2 : decode cX12_readService 2 = .ok (.getfield 13, 3) := by decide +kernel
theorem dX12_readService_5 : decode cX12_readService 5 = .ok (.iconst 5, 1) := by decide +kernel
theorem dX12_readService_6 : decode cX12_readService 6 = .ok (.iaload, 1) := by decide +kernel
theorem dX12_readService_7 : decode cX12_readService 7 = .ok (.bipush 6, 2) := by decide +kernel
theorem dX12_readService_9 : decode cX12_readService 9 = .ok (.if_icmp .ge 7, 3) := by decide +kernel
theorem dX12_readService_12 : decode cX12_readService 12 = .ok (.iconst 1, 1) := by decide +kernel
theorem dX12_readService_13 : decode cX12_readService 13 = .ok (.goto 4, 3) := by decide +kernel
theorem dX12_readService_16 : decode cX12_readService 16 = .ok (.iconst 0, 1) := by decide +kernel
theorem dX12_readService_17 : decode cX12_readService 17 = .ok (.iconst 5, 1) := by decide +kernel
theorem dX12_readService_18 : decode cX12_readService 18 = .ok (.invokevirtual 196, 3) := by decide +kernel
theorem dX12_readService_21 : decode cX12_readService 21 = .ok (.pop, 1) := by decide +kernel
theorem dX12_readService_22 : decode cX12_readService 22 = .ok (.aload_n 0, 1) := by decide +kernel
theorem dX12_readService_23 : decode cX12_readService 23 = .ok (.invokevirtual 199, 3) := by decide +kernel
theorem dX12_readService_26 : decode cX12_readService 26 = .ok (.aload_n 0, 1) := by decide +kernel
theorem dX12_readService_27 : decode cX12_readService 27 = .ok (.invokevirtual 242, 3) := by decide +kernel
theorem dX12_readService_30 : decode cX12_readService 30 = .ok (.istore_n 1, 1) := by decide +kernel
theorem dX12_readService_31 : decode cX12_readService 31 = .ok (.aload_n 0, 1) := by decide +kernel
theorem dX12_readService_32 : decode cX12_readService 32 = .ok (.invokevirtual 251, 3) := by decide +kernel
theorem dX12_readService_35 : decode cX12_readService 35 = .ok (.istore_n 2, 1) := by decide +kernel
theorem dX12_readService_36 : decode cX12_readService 36 = .ok (.aload_n 0, 1) := by decide +kernel
theorem dX12_readService_37 : decode cX12_readService 37 = .ok (.iconst 0, 1) := by decide +kernel
theorem dX12_readService_38 : decode cX12_readService 38 = .ok (.bipush 99, 2) := by decide +kernel
theorem dX12_readService_40 : decode cX12_readService 40 = .ok (.invokevirtual 239, 3) := by decide +kernel
theorem dX12_readService_43 : decode cX12_readService 43 = .ok (.istore_n 3, 1) := by decide +kernel
theorem dX12_readService_44 : decode cX12_readService 44 = .ok (.aload_n 0, 1) := by decide +kernel
theorem dX12_readService_45 : decode cX12_readService 45 = .ok (.invokevirtual 248, 3) := by decide +kernel
theorem dX12_readService_48 : decode cX12_readService 48 = .ok (.aload_n 0, 1) := by decide +kernel
theorem dX12_readService_49 : decode cX12_readService 49 = .ok (.getfield 164, 3) := by decide +kernel
theorem dX12_readService_52 : decode cX12_readService 52 = .ok (.ifCond .ne 65, 3) := by decide +kernel
theorem dX12_readService_55 : decode cX12_readService 55 = .ok (.aload_n 0, 1) := by decide +kernel
theorem dX12_readService_56 : decode cX12_readService 56 = .ok (.getfield 13, 3) := by decide +kernel
theorem dX12_readService_59 : decode cX12_readService 59 = .ok (.iconst 5, 1) := by decide +kernel
theorem dX12_readService_60 : decode cX12_readService 60 = .ok (.iaload, 1) := by decide +kernel
theorem dX12_readService_61 : decode cX12_readService 61 = .ok (.invokestatic 122, 3) := by decide +kernel
theorem dX12_readService_64 : decode cX12_readService 64 = .ok (.istore 4, 2) := by decide +kernel
theorem dX12_readService_66 : decode cX12_readService 66 = .ok (.aload_n 0, 1) := by decide +kernel
theorem dX12_readService_67 : decode cX12_readService 67 = .ok (.getfield 13, 3) := by decide +kernel
theorem dX12_readService_70 : decode cX12_readService 70 = .ok (.iload 4, 2) := by decide +kernel
theorem dX12_readService_72 : decode cX12_readService 72 = .ok (.iconst 0, 1) := by decide +kernel
theorem dX12_readService_73 : decode cX12_readService 73 = .ok (.iadd, 1) := by decide +kernel
theorem dX12_readService_74 : decode cX12_readService 74 = .ok (.iload_n 1, 1) := by decide +kernel
theorem dX12_readService_75 : decode cX12_readService 75 = .ok (.iastore, 1) := by decide +kernel
theorem dX12_readService_76 : decode cX12_readService 76 = .ok (.aload_n 0, 1) := by decide +kernel
theorem dX12_readService_77 : decode cX12_readService 77 = .ok (.getfield 13, 3) := by decide +kernel
theorem dX12_readService_80 : decode cX12_readService 80 = .ok (.iload 4, 2) := by decide +kernel
theorem dX12_readService_82 : decode cX12_readService 82 = .ok (.iconst 1, 1) := by decide +kernel
theorem dX12_readService_83 : decode cX12_readService 83 = .ok (.iadd, 1) := by decide +kernel
theorem dX12_readService_84 : decode cX12_readService 84 = .ok (.iload_n 2, 1) := by decide +kernel
theorem dX12_readService_85 : decode cX12_readService 85 = .ok (.iastore, 1) := by decide +kernel
theorem dX12_readService_86 : decode cX12_readService 86 = .ok (.aload_n 0, 1) := by decide +kernel
theorem dX12_readService_87 : decode cX12_readService 87 = .ok (.getfield 13, 3) := by decide +kernel
theorem dX12_readService_90 : decode cX12_readService 90 = .ok (.iload 4, 2) := by decide +kernel
theorem dX12_readService_92 : decode cX12_readService 92 = .ok (.iconst 2, 1) := by decide +kernel
theorem dX12_readService_93 : decode cX12_readService 93 = .ok (.iadd, 1) := by decide +kernel
theorem dX12_readService_94 : decode cX12_readService 94 = .ok (.iload_n 3, 1) := by decide +kernel
theorem dX12_readService_95 : decode cX12_readService 95 = .ok (.iastore, 1) := by decide +kernel
theorem dX12_readService_96 : decode cX12_readService 96 = .ok (.aload_n 0, 1) := by decide +kernel
theorem dX12_readService_97 : decode cX12_readService 97 = .ok (.getfield 13, 3) := by decide +kernel
theorem dX12_readService_100 : decode cX12_readService 100 = .ok (.bipush 9, 2) := by decide +kernel
theorem dX12_readService_102 : decode cX12_readService 102 = .ok (.dup2, 1) := by decide +kernel
theorem dX12_readService_103 : decode cX12_readService 103 = .ok (.iaload, 1) := by decide +kernel
theorem dX12_readService_104 : decode cX12_readService 104 = .ok (.iload_n 3, 1) := by decide +kernel
theorem dX12_readService_105 : decode cX12_readService 105 = .ok (.iadd, 1) := by decide +kernel
theorem dX12_readService_106 : decode cX12_readService 106 = .ok (.iastore, 1) := by decide +kernel
theorem dX12_readService_107 : decode cX12_readService 107 = .ok (.aload_n 0, 1) := by decide +kernel
theorem dX12_readService_108 : decode cX12_readService 108 = .ok (.getfield 13, 3) := by decide +kernel
theorem dX12_readService_111 : decode cX12_readService 111 = .ok (.iconst 5, 1) := by decide +kernel
theorem dX12_readService_112 : decode cX12_readService 112 = .ok (.dup2, 1) := by decide +kernel
theorem dX12_readService_113 : decode cX12_readService 113 = .ok (.iaload, 1) := by decide +kernel
theorem dX12_readService_114 : decode cX12_readService 114 = .ok (.iconst 1, 1) := by decide +kernel
theorem dX12_readService_115 : decode cX12_readService 115 = .ok (.iadd, 1) := by decide +kernel
theorem dX12_readService_116 : decode cX12_readService 116 = .ok (.iastore, 1) := by decide +kernel
theorem dX12_readService_117 : decode cX12_readService 117 = .ok (.return_, 1) := by decide +kernel
theorem dX12_readLogin_0 : decode cX12_readLogin 0 = .ok (.aload_n 0, 1) := by decide +kernel
theorem dX12_readLogin_1 : decode cX12_readLogin 1 = .ok (.invokevirtual 199, 3) := by decide +kernel
theorem dX12_readLogin_4 : decode cX12_readLogin 4 = .ok (.aload_n 0, 1) := by decide +kernel
theorem dX12_readLogin_5 : decode cX12_readLogin 5 = .ok (.invokevirtual 258, 3) := by decide +kernel
theorem dX12_readLogin_8 : decode cX12_readLogin 8 = .ok (.istore_n 1, 1) := by decide +kernel
theorem dX12_readLogin_9 : decode cX12_readLogin 9 = .ok (.aload_n 0, 1) := by decide +kernel
theorem dX12_readLogin_10 : decode cX12_readLogin 10 = .ok (.iconst 0, 1) := by decide +kernel
theorem dX12_readLogin_11 : decode cX12_readLogin 11 = .ok (.sipush 9999, 3) := by decide +kernel
theorem dX12_readLogin_14 : decode cX12_readLogin 14 = .ok (.invokevirtual 239, 3) := by decide +kernel
theorem dX12_readLogin_17 : decode cX12_readLogin 17 = .ok (.istore_n 2, 1) := by decide +kernel
theorem dX12_readLogin_18 : decode cX12_readLogin 18 = .ok (.aload_n 0, 1) := by decide +kernel
theorem dX12_readLogin_19 : decode cX12_readLogin 19 = .ok (.getfield 164, 3) := by decide +kernel
theorem dX12_readLogin_22 : decode cX12_readLogin 22 = .ok (.ifCond .ne 17, 3) := by decide +kernel
theorem dX12_readLogin_25 : decode cX12_readLogin 25 = .ok (.aload_n 0, 1) := by decide +kernel
theorem dX12_readLogin_26 : decode cX12_readLogin 26 = .ok (.ldc_w 261, 3) := by decide +kernel
theorem dX12_readLogin_29 : decode cX12_readLogin 29 = .ok (.invokevirtual 231, 3) := by decide +kernel
theorem dX12_readLogin_32 : decode cX12_readLogin 32 = .ok (.ifCond .eq 7, 3) := by decide +kernel
theorem dX12_readLogin_35 : decode cX12_readLogin 35 = .ok (.iconst 1, 1) := by decide +kernel
theorem dX12_readLogin_36 : decode cX12_readLogin 36 = .ok (.goto 4, 3) := by decide +kernel
theorem dX12_readLogin_39 : decode cX12_readLogin 39 = .ok (.iconst 0, 1) := by decide +kernel
theorem dX12_readLogin_40 : decode cX12_readLogin 40 = .ok (.istore_n 3, 1) := by decide +kernel
theorem dX12_readLogin_41 : decode cX12_readLogin 41 = .ok (.iload_n 3, 1) := by decide +kernel
theorem dX12_readLogin_42 : decode cX12_readLogin 42 = .ok (.ifCond .eq 7, 3) := by decide +kernel
theorem dX12_readLogin_45 : decode cX12_readLogin 45 = .ok (.aload_n 0, 1) := by decide +kernel
theorem dX12_readLogin_46 : decode cX12_readLogin 46 = .ok (.invokevirtual 199, 3) := by decide +kernel
theorem dX12_readLogin_49 : decode cX12_readLogin 49 = .ok (.aload_n 0, 1) := by decide +kernel
theorem dX12_readLogin_50 : decode cX12_readLogin 50 = .ok (.aload_n 0, 1) := by decide +kernel
theorem dX12_readLogin_51 : decode cX12_readLogin 51 = .ok (.getfield 164, 3) := by decide +kernel
theorem dX12_readLogin_54 : decode cX12_readLogin 54 = .ok (.ifCond .ne 19, 3) := by decide +kernel
theorem dX12_readLogin_57 : decode cX12_readLogin 57 = .ok (.aload_n 0, 1) := by decide +kernel
theorem dX12_readLogin_58 : decode cX12_readLogin 58 = .ok (.getfield 13, 3) := by decide +kernel
theorem dX12_readLogin_61 : decode cX12_readLogin 61 = .ok (.iload_n 1, 1) := by decide +kernel
theorem dX12_readLogin_62 : decode cX12_readLogin 62 = .ok (.iload_n 2, 1) := by decide +kernel
theorem dX12_readLogin_63 : decode cX12_readLogin 63 = .ok (.invokestatic 263, 3) := by decide +kernel
theorem dX12_readLogin_66 : decode cX12_readLogin 66 = .ok (.ifCond .eq 7, 3) := by decide +kernel
theorem dX12_readLogin_69 : decode cX12_readLogin 69 = .ok (.iconst 1, 1) := by decide +kernel
theorem dX12_readLogin_70 : decode cX12_readLogin 70 = .ok (.goto 4, 3) := by decide +kernel
theorem dX12_readLogin_73 : decode cX12_readLogin 73 = .ok (.iconst 0, 1) := by decide +kernel
theorem dX12_readLogin_74 : decode cX12_readLogin 74 = .ok (.invokevirtual 254, 3) := by decide +kernel
theorem dX12_readLogin_77 : decode cX12_readLogin 77 = .ok (.ifCond .eq 20, 3) := by decide +kernel
theorem dX12_readLogin_80 : decode cX12_readLogin 80 = .ok (.aload_n 0, 1) := by decide +kernel
theorem dX12_readLogin_81 : decode cX12_readLogin 81 = .ok (.getfield 13, 3) := by decide +kernel
theorem dX12_readLogin_84 : decode cX12_readLogin 84 = .ok (.iload_n 1, 1) := by decide +kernel
theorem dX12_readLogin_85 : decode cX12_readLogin 85 = .ok (.iload_n 3, 1) := by decide +kernel
theorem dX12_readLogin_86 : decode cX12_readLogin 86 = .ok (.invokestatic 266, 3) := by decide +kernel
theorem dX12_readLogin_89 : decode cX12_readLogin 89 = .ok (.ifCond .ge 8, 3) := by decide +kernel
theorem dX12_readLogin_92 : decode cX12_readLogin 92 = .ok (.aload_n 0, 1) := by decide +kernel
theorem dX12_readLogin_93 : decode cX12_readLogin 93 = .ok (.iconst 1, 1) := by decide +kernel
theorem dX12_readLogin_94 : decode cX12_readLogin 94 = .ok (.putfield 164, 3) := by decide +kernel
theorem dX12_readLogin_97 : decode cX12_readLogin 97 = .ok (.aload_n 0, 1) := by decide +kernel
theorem dX12_readLogin_98 : decode cX12_readLogin 98 = .ok (.invokevirtual 199, 3) := by decide +kernel
theorem dX12_readLogin_101 : decode cX12_readLogin 101 = .ok (.return_, 1) := by decide +kernel
theorem dX12_readRefer_0 : decode cX12_readRefer 0 = .ok (.aload_n 0, 1) := by decide +kernel
theorem dX12_readRefer_1 : decode cX12_readRefer 1 = .ok (.invokevirtual 199, 3) := by decide +kernel
theorem dX12_readRefer_4 : decode cX12_readRefer 4 = .ok (.aload_n 0, 1) := by decide +kernel
theorem dX12_readRefer_5 : decode cX12_readRefer 5 = .ok (.invokevirtual 270, 3) := by decide +kernel
theorem dX12_readRefer_8 : decode cX12_readRefer 8 = .ok (.istore_n 1, 1) := by decide +kernel
theorem dX12_readRefer_9 : decode cX12_readRefer 9 = .ok (.aload_n 0, 1) := by decide +kernel
theorem dX12_readRefer_10 : decode cX12_readRefer 10 = .ok (.invokevirtual 251, 3) := by decide +kernel
theorem dX12_readRefer_13 : decode cX12_readRefer 13 = .ok (.istore_n 2, 1) := by decide +kernel
theorem dX12_readRefer_14 : decode cX12_readRefer 14 = .ok (.aload_n 0, 1) := by decide +kernel
theorem dX12_readRefer_15 : decode cX12_readRefer 15 = .ok (.aload_n 0, 1) := by decide +kernel
theorem dX12_readRefer_16 : decode cX12_readRefer 16 = .ok (.getfield 164, 3) := by decide +kernel
theorem dX12_readRefer_19 : decode cX12_readRefer 19 = .ok (.ifCond .ne 19, 3) := by decide +kernel
theorem dX12_readRefer_22 : decode cX12_readRefer 22 = .ok (.aload_n 0, 1) := by decide +kernel
theorem dX12_readRefer_23 : decode cX12_readRefer 23 = .ok (.getfield 13, 3) := by decide +kernel
theorem dX12_readRefer_26 : decode cX12_readRefer 26 = .ok (.iload_n 1, 1) := by decide +kernel
theorem dX12_readRefer_27 : decode cX12_readRefer 27 = .ok (.iload_n 2, 1) := by decide +kernel
theorem dX12_readRefer_28 : decode cX12_readRefer 28 = .ok (.invokestatic 273, 3) := by decide +kernel
theorem dX12_readRefer_31 : decode cX12_readRefer 31 = .ok (.ifCond .eq 7, 3) := by decide +kernel
theorem dX12_readRefer_34 : decode cX12_readRefer 34 = .ok (.iconst 1, 1) := by decide +kernel
theorem dX12_readRefer_35 : decode cX12_readRefer 35 = .ok (.goto 4, 3) := by decide +kernel
theorem dX12_readRefer_38 : decode cX12_readRefer 38 = .ok (.iconst 0, 1) := by decide +kernel
theorem dX12_readRefer_39 : decode cX12_readRefer 39 = .ok (.invokevirtual 254, 3) := by decide +kernel
theorem dX12_readRefer_42 : decode cX12_readRefer 42 = .ok (.ifCond .eq 21, 3) := by decide +kernel
theorem dX12_readRefer_45 : decode cX12_readRefer 45 = .ok (.aload_n 0, 1) := by decide +kernel
theorem dX12_readRefer_46 : decode cX12_readRefer 46 = .ok (.getfield 13, 3) := by decide +kernel
theorem dX12_readRefer_49 : decode cX12_readRefer 49 = .ok (.iload_n 1, 1) := by decide +kernel
theorem dX12_readRefer_50 : decode cX12_readRefer 50 = .ok (.iload_n 2, 1) := by decide +kernel
theorem dX12_readRefer_51 : decode cX12_readRefer 51 = .ok (.iconst (-1), 1) := by decide +kernel
theorem dX12_readRefer_52 : decode cX12_readRefer 52 = .ok (.invokestatic 276, 3) := by decide +kernel
theorem dX12_readRefer_55 : decode cX12_readRefer 55 = .ok (.ifCond .ge 8, 3) := by decide +kernel
theorem dX12_readRefer_58 : decode cX12_readRefer 58 = .ok (.aload_n 0, 1) := by decide +kernel
theorem dX12_readRefer_59 : decode cX12_readRefer 59 = .ok (.iconst 1, 1) := by decide +kernel
theorem dX12_readRefer_60 : decode cX12_readRefer 60 = .ok (.putfield 164, 3) := by decide +kernel
theorem dX12_readRefer_63 : decode cX12_readRefer 63 = .ok (.aload_n 0, 1) := by decide +kernel
theorem dX12_readRefer_64 : decode cX12_readRefer 64 = .ok (.invokevirtual 199, 3) := by decide +kernel
theorem dX12_readRefer_67 : decode cX12_readRefer 67 = .ok (.return_, 1) := by decide +kernel
theorem dX12_readRequest_0 : decode cX12_readRequest 0 = .ok (.aload_n 0, 1) := by decide +kernel
theorem dX12_readRequest_1 : decode cX12_readRequest 1 = .ok (.invokevirtual 199, 3) := by decide +kernel
theorem dX12_readRequest_4 : decode cX12_readRequest 4 = .ok (.aload_n 0, 1) := by decide +kernel
theorem dX12_readRequest_5 : decode cX12_readRequest 5 = .ok (.invokevirtual 270, 3) := by decide +kernel
theorem dX12_readRequest_8 : decode cX12_readRequest 8 = .ok (.istore_n 1, 1) := by decide +kernel
theorem dX12_readRequest_9 : decode cX12_readRequest 9 = .ok (.aload_n 0, 1) := by decide +kernel
theorem dX12_readRequest_10 : decode cX12_readRequest 10 = .ok (.invokevirtual 280, 3) := by decide +kernel
theorem dX12_readRequest_13 : decode cX12_readRequest 13 = .ok (.istore_n 2, 1) := by decide +kernel
theorem dX12_readRequest_14 : decode cX12_readRequest 14 = .ok (.aload_n 0, 1) := by decide +kernel
theorem dX12_readRequest_15 : decode cX12_readRequest 15 = .ok (.aload_n 0, 1) := by decide +kernel
theorem dX12_readRequest_16 : decode cX12_readRequest 16 = .ok (.getfield 164, 3) := by decide +kernel
theorem dX12_readRequest_19 : decode cX12_readRequest 19 = .ok (.ifCond .ne 19, 3) := by decide +kernel
theorem dX12_readRequest_22 : decode cX12_readRequest 22 = .ok (.aload_n 0, 1) := by decide +kernel
theorem dX12_readRequest_23 : decode cX12_readRequest 23 = .ok (.getfield 13, 3) := by decide +kernel
theorem dX12_readRequest_26 : decode cX12_readRequest 26 = .ok (.iload_n 1, 1) := by decide +kernel
theorem dX12_readRequest_27 : decode cX12_readRequest 27 = .ok (.iload_n 2, 1) := by decide +kernel
theorem dX12_readRequest_28 : decode cX12_readRequest 28 = .ok (.invokestatic 283, 3) := by decide +kernel
theorem dX12_readRequest_31 : decode cX12_readRequest 31 = .ok (.ifCond .eq 7, 3) := by decide +kernel
theorem dX12_readRequest_34 : decode cX12_readRequest 34 = .ok (.iconst 1, 1) := by decide +kernel
theorem dX12_readRequest_35 : decode cX12_readRequest 35 = .ok (.goto 4, 3) := by decide +kernel
theorem dX12_readRequest_38 : decode cX12_readRequest 38 = .ok (.iconst 0, 1) := by decide +kernel
theorem dX12_readRequest_39 : decode cX12_readRequest 39 = .ok (.invokevirtual 254, 3) := by decide +kernel
theorem dX12_readRequest_42 : decode cX12_readRequest 42 = .ok (.ifCond .eq 31, 3) := by decide +kernel
theorem dX12_readRequest_45 : decode cX12_readRequest 45 = .ok (.aload_n 0, 1) := by decide +kernel
theorem dX12_readRequest_46 : decode cX12_readRequest 46 = .ok (.getfield 13, 3) := by decide +kernel
theorem dX12_readRequest_49 : decode cX12_readRequest 49 = .ok (.iload_n 1, 1) := by decide +kernel
theorem dX12_readRequest_50 : decode cX12_readRequest 50 = .ok (.aload_n 0, 1) := by decide +kernel
theorem dX12_readRequest_51 : decode cX12_readRequest 51 = .ok (.getfield 13, 3) := by decide +kernel
theorem dX12_readRequest_54 : decode cX12_readRequest 54 = .ok (.iload_n 2, 1) := by decide +kernel
theorem dX12_readRequest_55 : decode cX12_readRequest 55 = .ok (.invokestatic 122, 3) := by decide +kernel
theorem dX12_readRequest_58 : decode cX12_readRequest 58 = .ok (.iconst 1, 1) := by decide +kernel
theorem dX12_readRequest_59 : decode cX12_readRequest 59 = .ok (.iadd, 1) := by decide +kernel
theorem dX12_readRequest_60 : decode cX12_readRequest 60 = .ok (.iaload, 1) := by decide +kernel
theorem dX12_readRequest_61 : decode cX12_readRequest 61 = .ok (.iload_n 2, 1) := by decide +kernel
theorem dX12_readRequest_62 : decode cX12_readRequest 62 = .ok (.invokestatic 276, 3) := by decide +kernel
theorem dX12_readRequest_65 : decode cX12_readRequest 65 = .ok (.ifCond .ge 8, 3) := by decide +kernel
theorem dX12_readRequest_68 : decode cX12_readRequest 68 = .ok (.aload_n 0, 1) := by decide +kernel
theorem dX12_readRequest_69 : decode cX12_readRequest 69 = .ok (.iconst 1, 1) := by decide +kernel
theorem dX12_readRequest_70 : decode cX12_readRequest 70 = .ok (.putfield 164, 3) := by decide +kernel
theorem dX12_readRequest_73 : decode cX12_readRequest 73 = .ok (.aload_n 0, 1) := by decide +kernel
theorem dX12_readRequest_74 : decode cX12_readRequest 74 = .ok (.invokevirtual 199, 3) := by decide +kernel
theorem dX12_readRequest_77 : decode cX12_readRequest 77 = .ok (.return_, 1) := by decide +kernel
theorem dX12_readRenew_0 : decode cX12_readRenew 0 = .ok (.aload_n 0, 1) := by decide +kernel
theorem dX12_readRenew_1 : decode cX12_readRenew 1 = .ok (.invokevirtual 199, 3) := by decide +kernel
theorem dX12_readRenew_4 : decode cX12_readRenew 4 = .ok (.aload_n 0, 1) := by decide +kernel
theorem dX12_readRenew_5 : decode cX12_readRenew 5 = .ok (.invokevirtual 270, 3) := by decide +kernel
theorem dX12_readRenew_8 : decode cX12_readRenew 8 = .ok (.istore_n 1, 1) := by decide +kernel
theorem dX12_readRenew_9 : decode cX12_readRenew 9 = .ok (.aload_n 0, 1) := by decide +kernel
theorem dX12_readRenew_10 : decode cX12_readRenew 10 = .ok (.aload_n 0, 1) := by decide +kernel
theorem dX12_readRenew_11 : decode cX12_readRenew 11 = .ok (.getfield 164, 3) := by decide +kernel
theorem dX12_readRenew_14 : decode cX12_readRenew 14 = .ok (.ifCond .ne 18, 3) := by decide +kernel
theorem dX12_readRenew_17 : decode cX12_readRenew 17 = .ok (.aload_n 0, 1) := by decide +kernel
theorem dX12_readRenew_18 : decode cX12_readRenew 18 = .ok (.getfield 13, 3) := by decide +kernel
theorem dX12_readRenew_21 : decode cX12_readRenew 21 = .ok (.iload_n 1, 1) := by decide +kernel
theorem dX12_readRenew_22 : decode cX12_readRenew 22 = .ok (.invokestatic 286, 3) := by decide +kernel
theorem dX12_readRenew_25 : decode cX12_readRenew 25 = .ok (.ifCond .eq 7, 3) := by decide +kernel
theorem dX12_readRenew_28 : decode cX12_readRenew 28 = .ok (.iconst 1, 1) := by decide +kernel
theorem dX12_readRenew_29 : decode cX12_readRenew 29 = .ok (.goto 4, 3) := by decide +kernel
theorem dX12_readRenew_32 : decode cX12_readRenew 32 = .ok (.iconst 0, 1) := by decide +kernel
theorem dX12_readRenew_33 : decode cX12_readRenew 33 = .ok (.invokevirtual 254, 3) := by decide +kernel
theorem dX12_readRenew_36 : decode cX12_readRenew 36 = .ok (.ifCond .eq 19, 3) := by decide +kernel
theorem dX12_readRenew_39 : decode cX12_readRenew 39 = .ok (.aload_n 0, 1) := by decide +kernel
theorem dX12_readRenew_40 : decode cX12_readRenew 40 = .ok (.getfield 13, 3) := by decide +kernel
theorem dX12_readRenew_43 : decode cX12_readRenew 43 = .ok (.iload_n 1, 1) := by decide +kernel
theorem dX12_readRenew_44 : decode cX12_readRenew 44 = .ok (.invokestatic 289, 3) := by decide +kernel
theorem dX12_readRenew_47 : decode cX12_readRenew 47 = .ok (.ifCond .ge 8, 3) := by decide +kernel
theorem dX12_readRenew_50 : decode cX12_readRenew 50 = .ok (.aload_n 0, 1) := by decide +kernel
theorem dX12_readRenew_51 : decode cX12_readRenew 51 = .ok (.iconst 1, 1) := by decide +kernel
theorem dX12_readRenew_52 : decode cX12_readRenew 52 = .ok (.putfield 164, 3) := by decide +kernel
theorem dX12_readRenew_55 : decode cX12_readRenew 55 = .ok (.aload_n 0, 1) := by decide +kernel
theorem dX12_readRenew_56 : decode cX12_readRenew 56 = .ok (.invokevirtual 199, 3) := by decide +kernel
theorem dX12_readRenew_59 : decode cX12_readRenew 59 = .ok (.return_, 1) := by decide +kernel
theorem dX12_readCheese_0 : decode cX12_readCheese 0 = .ok (.aload_n 0, 1) := by decide +kernel
theorem dX12_readCheese_1 : decode cX12_readCheese 1 = .ok (.invokevirtual 199, 3) := by decide +kernel
theorem dX12_readCheese_4 : decode cX12_readCheese 4 = .ok (.aload_n 0, 1) := by decide +kernel
theorem dX12_readCheese_5 : decode cX12_readCheese 5 = .ok (.invokevirtual 270, 3) := by decide +kernel
theorem dX12_readCheese_8 : decode cX12_readCheese 8 = .ok (.istore_n 1, 1) := by decide +kernel
theorem dX12_readCheese_9 : decode cX12_readCheese 9 = .ok (.aload_n 0, 1) := by decide +kernel
theorem dX12_readCheese_10 : decode cX12_readCheese 10 = .ok (.aload_n 0, 1) := by decide +kernel
theorem dX12_readCheese_11 : decode cX12_readCheese 11 = .ok (.getfield 164, 3) := by decide +kernel
theorem dX12_readCheese_14 : decode cX12_readCheese 14 = .ok (.ifCond .ne 18, 3) := by decide +kernel
theorem dX12_readCheese_17 : decode cX12_readCheese 17 = .ok (.aload_n 0, 1) := by decide +kernel
theorem dX12_readCheese_18 : decode cX12_readCheese 18 = .ok (.getfield 13, 3) := by decide +kernel
theorem dX12_readCheese_21 : decode cX12_readCheese 21 = .ok (.iload_n 1, 1) := by decide +kernel
theorem dX12_readCheese_22 : decode cX12_readCheese 22 = .ok (.invokestatic 292, 3) := by decide +kernel
theorem dX12_readCheese_25 : decode cX12_readCheese 25 = .ok (.ifCond .eq 7, 3) := by decide +kernel
theorem dX12_readCheese_28 : decode cX12_readCheese 28 = .ok (.iconst 1, 1) := by decide +kernel
theorem dX12_readCheese_29 : decode cX12_readCheese 29 = .ok (.goto 4, 3) := by decide +kernel
theorem dX12_readCheese_32 : decode cX12_readCheese 32 = .ok (.iconst 0, 1) := by decide +kernel
theorem dX12_readCheese_33 : decode cX12_readCheese 33 = .ok (.invokevirtual 254, 3) := by decide +kernel
theorem dX12_readCheese_36 : decode cX12_readCheese 36 = .ok (.ifCond .eq 19, 3) := by decide +kernel
theorem dX12_readCheese_39 : decode cX12_readCheese 39 = .ok (.aload_n 0, 1) := by decide +kernel
theorem dX12_readCheese_40 : decode cX12_readCheese 40 = .ok (.getfield 13, 3) := by decide +kernel
theorem dX12_readCheese_43 : decode cX12_readCheese 43 = .ok (.iload_n 1, 1) := by decide +kernel
theorem dX12_readCheese_44 : decode cX12_readCheese 44 = .ok (.invokestatic 295, 3) := by decide +kernel
theorem dX12_readCheese_47 : decode cX12_readCheese 47 = .ok (.ifCond .ge 8, 3) := by decide +kernel
theorem dX12_readCheese_50 : decode cX12_readCheese 50 = .ok (.aload_n 0, 1) := by decide +kernel
theorem dX12_readCheese_51 : decode cX12_readCheese 51 = .ok (.iconst 1, 1) := by decide +kernel
theorem dX12_readCheese_52 : decode cX12_readCheese 52 = .ok (.putfield 164, 3) := by decide +kernel
theorem dX12_readCheese_55 : decode cX12_readCheese 55 = .ok (.aload_n 0, 1) := by decide +kernel
theorem dX12_readCheese_56 : decode cX12_readCheese 56 = .ok (.invokevirtual 199, 3) := by decide +kernel
theorem dX12_readCheese_59 : decode cX12_readCheese 59 = .ok (.return_, 1) := by decide +kernel
theorem dX12_readDrop_0 : decode cX12_readDrop 0 = .ok (.aload_n 0, 1) := by decide +kernel
theorem dX12_readDrop_1 : decode cX12_readDrop 1 = .ok (.invokevirtual 199, 3) := by decide +kernel
theorem dX12_readDrop_4 : decode cX12_readDrop 4 = .ok (.aload_n 0, 1) := by decide +kernel
theorem dX12_readDrop_5 : decode cX12_readDrop 5 = .ok (.invokevirtual 270, 3) := by decide +kernel
theorem dX12_readDrop_8 : decode cX12_readDrop 8 = .ok (.istore_n 1, 1) := by decide +kernel
theorem dX12_readDrop_9 : decode cX12_readDrop 9 = .ok (.aload_n 0, 1) := by decide +kernel
theorem dX12_readDrop_10 : decode cX12_readDrop 10 = .ok (.invokevirtual 248, 3) := by decide +kernel
theorem dX12_readDrop_13 : decode cX12_readDrop 13 = .ok (.aload_n 0, 1) := by decide +kernel
theorem dX12_readDrop_14 : decode cX12_readDrop 14 = .ok (.getfield 164, 3) := by decide +kernel
theorem dX12_readDrop_17 : decode cX12_readDrop 17 = .ok (.ifCond .ne 19, 3) := by decide +kernel
theorem dX12_readDrop_20 : decode cX12_readDrop 20 = .ok (.aload_n 0, 1) := by decide +kernel
theorem dX12_readDrop_21 : decode cX12_readDrop 21 = .ok (.getfield 13, 3) := by decide +kernel
theorem dX12_readDrop_24 : decode cX12_readDrop 24 = .ok (.iload_n 1, 1) := by decide +kernel
theorem dX12_readDrop_25 : decode cX12_readDrop 25 = .ok (.invokestatic 142, 3) := by decide +kernel
theorem dX12_readDrop_28 : decode cX12_readDrop 28 = .ok (.ifCond .ge 8, 3) := by decide +kernel
theorem dX12_readDrop_31 : decode cX12_readDrop 31 = .ok (.aload_n 0, 1) := by decide +kernel
theorem dX12_readDrop_32 : decode cX12_readDrop 32 = .ok (.iconst 1, 1) := by decide +kernel
theorem dX12_readDrop_33 : decode cX12_readDrop 33 = .ok (.putfield 164, 3) := by decide +kernel
theorem dX12_readDrop_36 : decode cX12_readDrop 36 = .ok (.return_, 1) := by decide +kernel
theorem dX12_readSweep_0 : decode cX12_readSweep 0 = .ok (.aload_n 0, 1) := by decide +kernel
theorem dX12_readSweep_1 : decode cX12_readSweep 1 = .ok (.invokevirtual 199, 3) := by decide +kernel
theorem dX12_readSweep_4 : decode cX12_readSweep 4 = .ok (.aload_n 0, 1) := by decide +kernel
theorem dX12_readSweep_5 : decode cX12_readSweep 5 = .ok (.invokevirtual 248, 3) := by decide +kernel
theorem dX12_readSweep_8 : decode cX12_readSweep 8 = .ok (.aload_n 0, 1) := by decide +kernel
theorem dX12_readSweep_9 : decode cX12_readSweep 9 = .ok (.getfield 164, 3) := by decide +kernel
theorem dX12_readSweep_12 : decode cX12_readSweep 12 = .ok (.ifCond .ne 18, 3) := by decide +kernel
theorem dX12_readSweep_15 : decode cX12_readSweep 15 = .ok (.aload_n 0, 1) := by decide +kernel
theorem dX12_readSweep_16 : decode cX12_readSweep 16 = .ok (.getfield 13, 3) := by decide +kernel
theorem dX12_readSweep_19 : decode cX12_readSweep 19 = .ok (.invokestatic 298, 3) := by decide +kernel
theorem dX12_readSweep_22 : decode cX12_readSweep 22 = .ok (.ifCond .ge 8, 3) := by decide +kernel
theorem dX12_readSweep_25 : decode cX12_readSweep 25 = .ok (.aload_n 0, 1) := by decide +kernel
theorem dX12_readSweep_26 : decode cX12_readSweep 26 = .ok (.iconst 1, 1) := by decide +kernel
theorem dX12_readSweep_27 : decode cX12_readSweep 27 = .ok (.putfield 164, 3) := by decide +kernel
theorem dX12_readSweep_30 : decode cX12_readSweep 30 = .ok (.return_, 1) := by decide +kernel
theorem dX12_readPass_0 : decode cX12_readPass 0 = .ok (.aload_n 0, 1) := by decide +kernel
theorem dX12_readPass_1 : decode cX12_readPass 1 = .ok (.invokevirtual 199, 3) := by decide +kernel
theorem dX12_readPass_4 : decode cX12_readPass 4 = .ok (.aload_n 0, 1) := by decide +kernel
theorem dX12_readPass_5 : decode cX12_readPass 5 = .ok (.iconst 0, 1) := by decide +kernel
theorem dX12_readPass_6 : decode cX12_readPass 6 = .ok (.sipush 999, 3) := by decide +kernel
theorem dX12_readPass_9 : decode cX12_readPass 9 = .ok (.invokevirtual 239, 3) := by decide +kernel
theorem dX12_readPass_12 : decode cX12_readPass 12 = .ok (.istore_n 1, 1) := by decide +kernel
theorem dX12_readPass_13 : decode cX12_readPass 13 = .ok (.aload_n 0, 1) := by decide +kernel
theorem dX12_readPass_14 : decode cX12_readPass 14 = .ok (.invokevirtual 248, 3) := by decide +kernel
theorem dX12_readPass_17 : decode cX12_readPass 17 = .ok (.aload_n 0, 1) := by decide +kernel
theorem dX12_readPass_18 : decode cX12_readPass 18 = .ok (.getfield 164, 3) := by decide +kernel
theorem dX12_readPass_21 : decode cX12_readPass 21 = .ok (.ifCond .ne 19, 3) := by decide +kernel
theorem dX12_readPass_24 : decode cX12_readPass 24 = .ok (.aload_n 0, 1) := by decide +kernel
theorem dX12_readPass_25 : decode cX12_readPass 25 = .ok (.getfield 13, 3) := by decide +kernel
theorem dX12_readPass_28 : decode cX12_readPass 28 = .ok (.iload_n 1, 1) := by decide +kernel
theorem dX12_readPass_29 : decode cX12_readPass 29 = .ok (.invokestatic 301, 3) := by decide +kernel
theorem dX12_readPass_32 : decode cX12_readPass 32 = .ok (.ifCond .ge 8, 3) := by decide +kernel
theorem dX12_readPass_35 : decode cX12_readPass 35 = .ok (.aload_n 0, 1) := by decide +kernel
theorem dX12_readPass_36 : decode cX12_readPass 36 = .ok (.iconst 1, 1) := by decide +kernel
theorem dX12_readPass_37 : decode cX12_readPass 37 = .ok (.putfield 164, 3) := by decide +kernel
theorem dX12_readPass_40 : decode cX12_readPass 40 = .ok (.return_, 1) := by decide +kernel
theorem dX12_readStatement_0 : decode cX12_readStatement 0 = .ok (.aload_n 0, 1) := by decide +kernel
theorem dX12_readStatement_1 : decode cX12_readStatement 1 = .ok (.ldc_w 304, 3) := by decide +kernel
theorem dX12_readStatement_4 : decode cX12_readStatement 4 = .ok (.invokevirtual 231, 3) := by decide +kernel
theorem dX12_readStatement_7 : decode cX12_readStatement 7 = .ok (.ifCond .eq 10, 3) := by decide +kernel
theorem dX12_readStatement_10 : decode cX12_readStatement 10 = .ok (.aload_n 0, 1) := by decide +kernel
theorem dX12_readStatement_11 : decode cX12_readStatement 11 = .ok (.invokevirtual 306, 3) := by decide +kernel
theorem dX12_readStatement_14 : decode cX12_readStatement 14 = .ok (.goto 197, 3) := by decide +kernel
theorem dX12_readStatement_17 : decode cX12_readStatement 17 = .ok (.aload_n 0, 1) := by decide +kernel
theorem dX12_readStatement_18 : decode cX12_readStatement 18 = .ok (.ldc_w 309, 3) := by decide +kernel
theorem dX12_readStatement_21 : decode cX12_readStatement 21 = .ok (.invokevirtual 231, 3) := by decide +kernel
theorem dX12_readStatement_24 : decode cX12_readStatement 24 = .ok (.ifCond .eq 10, 3) := by decide +kernel
theorem dX12_readStatement_27 : decode cX12_readStatement 27 = .ok (.aload_n 0, 1) := by decide +kernel
theorem dX12_readStatement_28 : decode cX12_readStatement 28 = .ok (.invokevirtual 311, 3) := by decide +kernel
theorem dX12_readStatement_31 : decode cX12_readStatement 31 = .ok (.goto 180, 3) := by decide +kernel
theorem dX12_readStatement_34 : decode cX12_readStatement 34 = .ok (.aload_n 0, 1) := by decide +kernel
theorem dX12_readStatement_35 : decode cX12_readStatement 35 = .ok (.ldc_w 314, 3) := by decide +kernel
theorem dX12_readStatement_38 : decode cX12_readStatement 38 = .ok (.invokevirtual 231, 3) := by decide +kernel
theorem dX12_readStatement_41 : decode cX12_readStatement 41 = .ok (.ifCond .eq 10, 3) := by decide +kernel
theorem dX12_readStatement_44 : decode cX12_readStatement 44 = .ok (.aload_n 0, 1) := by decide +kernel
theorem dX12_readStatement_45 : decode cX12_readStatement 45 = .ok (.invokevirtual 316, 3) := by decide +kernel
theorem dX12_readStatement_48 : decode cX12_readStatement 48 = .ok (.goto 163, 3) := by decide +kernel
theorem dX12_readStatement_51 : decode cX12_readStatement 51 = .ok (.aload_n 0, 1) := by decide +kernel
theorem dX12_readStatement_52 : decode cX12_readStatement 52 = .ok (.ldc_w 319, 3) := by decide +kernel
theorem dX12_readStatement_55 : decode cX12_readStatement 55 = .ok (.invokevirtual 231, 3) := by decide +kernel
theorem dX12_readStatement_58 : decode cX12_readStatement 58 = .ok (.ifCond .eq 10, 3) := by decide +kernel
theorem dX12_readStatement_61 : decode cX12_readStatement 61 = .ok (.aload_n 0, 1) := by decide +kernel
theorem dX12_readStatement_62 : decode cX12_readStatement 62 = .ok (.invokevirtual 321, 3) := by decide +kernel
theorem dX12_readStatement_65 : decode cX12_readStatement 65 = .ok (.goto 146, 3) := by decide +kernel
theorem dX12_readStatement_68 : decode cX12_readStatement 68 = .ok (.aload_n 0, 1) := by decide +kernel
theorem dX12_readStatement_69 : decode cX12_readStatement 69 = .ok (.ldc_w 324, 3) := by decide +kernel
theorem dX12_readStatement_72 : decode cX12_readStatement 72 = .ok (.invokevirtual 231, 3) := by decide +kernel
theorem dX12_readStatement_75 : decode cX12_readStatement 75 = .ok (.ifCond .eq 10, 3) := by decide +kernel
theorem dX12_readStatement_78 : decode cX12_readStatement 78 = .ok (.aload_n 0, 1) := by decide +kernel
theorem dX12_readStatement_79 : decode cX12_readStatement 79 = .ok (.invokevirtual 326, 3) := by decide +kernel
theorem dX12_readStatement_82 : decode cX12_readStatement 82 = .ok (.goto 129, 3) := by decide +kernel
theorem dX12_readStatement_85 : decode cX12_readStatement 85 = .ok (.aload_n 0, 1) := by decide +kernel
theorem dX12_readStatement_86 : decode cX12_readStatement 86 = .ok (.ldc_w 329, 3) := by decide +kernel
theorem dX12_readStatement_89 : decode cX12_readStatement 89 = .ok (.invokevirtual 231, 3) := by decide +kernel
theorem dX12_readStatement_92 : decode cX12_readStatement 92 = .ok (.ifCond .eq 10, 3) := by decide +kernel
theorem dX12_readStatement_95 : decode cX12_readStatement 95 = .ok (.aload_n 0, 1) := by decide +kernel
theorem dX12_readStatement_96 : decode cX12_readStatement 96 = .ok (.invokevirtual 331, 3) := by decide +kernel
theorem dX12_readStatement_99 : decode cX12_readStatement 99 = .ok (.goto 112, 3) := by decide +kernel
theorem dX12_readStatement_102 : decode cX12_readStatement 102 = .ok (.aload_n 0, 1) := by decide +kernel
theorem dX12_readStatement_103 : decode cX12_readStatement 103 = .ok (.ldc_w 334, 3) := by decide +kernel
theorem dX12_readStatement_106 : decode cX12_readStatement 106 = .ok (.invokevirtual 231, 3) := by decide +kernel
theorem dX12_readStatement_109 : decode cX12_readStatement 109 = .ok (.ifCond .eq 10, 3) := by decide +kernel
theorem dX12_readStatement_112 : decode cX12_readStatement 112 = .ok (.aload_n 0, 1) := by decide +kernel
theorem dX12_readStatement_113 : decode cX12_readStatement 113 = .ok (.invokevirtual 336, 3) := by decide +kernel
theorem dX12_readStatement_116 : decode cX12_readStatement 116 = .ok (.goto 95, 3) := by decide +kernel
theorem dX12_readStatement_119 : decode cX12_readStatement 119 = .ok (.aload_n 0, 1) := by decide +kernel
theorem dX12_readStatement_120 : decode cX12_readStatement 120 = .ok (.ldc_w 339, 3) := by decide +kernel
theorem dX12_readStatement_123 : decode cX12_readStatement 123 = .ok (.invokevirtual 231, 3) := by decide +kernel
theorem dX12_readStatement_126 : decode cX12_readStatement 126 = .ok (.ifCond .eq 10, 3) := by decide +kernel
theorem dX12_readStatement_129 : decode cX12_readStatement 129 = .ok (.aload_n 0, 1) := by decide +kernel
theorem dX12_readStatement_130 : decode cX12_readStatement 130 = .ok (.invokevirtual 341, 3) := by decide +kernel
theorem dX12_readStatement_133 : decode cX12_readStatement 133 = .ok (.goto 78, 3) := by decide +kernel
theorem dX12_readStatement_136 : decode cX12_readStatement 136 = .ok (.aload_n 0, 1) := by decide +kernel
theorem dX12_readStatement_137 : decode cX12_readStatement 137 = .ok (.ldc_w 344, 3) := by decide +kernel
theorem dX12_readStatement_140 : decode cX12_readStatement 140 = .ok (.invokevirtual 231, 3) := by decide +kernel
theorem dX12_readStatement_143 : decode cX12_readStatement 143 = .ok (.ifCond .eq 10, 3) := by decide +kernel
theorem dX12_readStatement_146 : decode cX12_readStatement 146 = .ok (.aload_n 0, 1) := by decide +kernel
theorem dX12_readStatement_147 : decode cX12_readStatement 147 = .ok (.invokevirtual 346, 3) := by decide +kernel
theorem dX12_readStatement_150 : decode cX12_readStatement 150 = .ok (.goto 61, 3) := by decide +kernel
theorem dX12_readStatement_153 : decode cX12_readStatement 153 = .ok (.aload_n 0, 1) := by decide +kernel
theorem dX12_readStatement_154 : decode cX12_readStatement 154 = .ok (.ldc_w 349, 3) := by decide +kernel
theorem dX12_readStatement_157 : decode cX12_readStatement 157 = .ok (.invokevirtual 231, 3) := by decide +kernel
theorem dX12_readStatement_160 : decode cX12_readStatement 160 = .ok (.ifCond .eq 10, 3) := by decide +kernel
theorem dX12_readStatement_163 : decode cX12_readStatement 163 = .ok (.aload_n 0, 1) := by decide +kernel
theorem dX12_readStatement_164 : decode cX12_readStatement 164 = .ok (.invokevirtual 351, 3) := by decide +kernel
theorem dX12_readStatement_167 : decode cX12_readStatement 167 = .ok (.goto 44, 3) := by decide +kernel
theorem dX12_readStatement_170 : decode cX12_readStatement 170 = .ok (.aload_n 0, 1) := by decide +kernel
theorem dX12_readStatement_171 : decode cX12_readStatement 171 = .ok (.ldc_w 354, 3) := by decide +kernel
theorem dX12_readStatement_174 : decode cX12_readStatement 174 = .ok (.invokevirtual 231, 3) := by decide +kernel
theorem dX12_readStatement_177 : decode cX12_readStatement 177 = .ok (.ifCond .eq 10, 3) := by decide +kernel
theorem dX12_readStatement_180 : decode cX12_readStatement 180 = .ok (.aload_n 0, 1) := by decide +kernel
theorem dX12_readStatement_181 : decode cX12_readStatement 181 = .ok (.invokevirtual 356, 3) := by decide +kernel
theorem dX12_readStatement_184 : decode cX12_readStatement 184 = .ok (.goto 27, 3) := by decide +kernel
theorem dX12_readStatement_187 : decode cX12_readStatement 187 = .ok (.aload_n 0, 1) := by decide +kernel
theorem dX12_readStatement_188 : decode cX12_readStatement 188 = .ok (.ldc_w 359, 3) := by decide +kernel
theorem dX12_readStatement_191 : decode cX12_readStatement 191 = .ok (.invokevirtual 231, 3) := by decide +kernel
theorem dX12_readStatement_194 : decode cX12_readStatement 194 = .ok (.ifCond .eq 10, 3) := by decide +kernel
theorem dX12_readStatement_197 : decode cX12_readStatement 197 = .ok (.aload_n 0, 1) := by decide +kernel
theorem dX12_readStatement_198 : decode cX12_readStatement 198 = .ok (.invokevirtual 361, 3) := by decide +kernel
theorem dX12_readStatement_201 : decode cX12_readStatement 201 = .ok (.goto 10, 3) := by decide +kernel
theorem dX12_readStatement_204 : decode cX12_readStatement 204 = .ok (.aload_n 0, 1) := by decide +kernel
theorem dX12_readStatement_205 : decode cX12_readStatement 205 = .ok (.iconst 0, 1) := by decide +kernel
theorem dX12_readStatement_206 : decode cX12_readStatement 206 = .ok (.iconst 1, 1) := by decide +kernel
theorem dX12_readStatement_207 : decode cX12_readStatement 207 = .ok (.invokevirtual 196, 3) := by decide +kernel
theorem dX12_readStatement_210 : decode cX12_readStatement 210 = .ok (.pop, 1) := by decide +kernel
theorem dX12_readStatement_211 : decode cX12_readStatement 211 = .ok (.return_, 1) := by decide +kernel
theorem dX12_read_0 : decode cX12_read 0 = .ok (.aload_n 0, 1) := by decide +kernel
theorem dX12_read_1 : decode cX12_read 1 = .ok (.iconst 0, 1) := by decide +kernel
theorem dX12_read_2 : decode cX12_read 2 = .ok (.putfield 164, 3) := by decide +kernel
theorem dX12_read_5 : decode cX12_read 5 = .ok (.aload_n 0, 1) := by decide +kernel
theorem dX12_read_6 : decode cX12_read 6 = .ok (.iconst (-1), 1) := by decide +kernel
theorem dX12_read_7 : decode cX12_read 7 = .ok (.putfield 35, 3) := by decide +kernel
theorem dX12_read_10 : decode cX12_read 10 = .ok (.aload_n 0, 1) := by decide +kernel
theorem dX12_read_11 : decode cX12_read 11 = .ok (.iconst 0, 1) := by decide +kernel
theorem dX12_read_12 : decode cX12_read 12 = .ok (.putfield 170, 3) := by decide +kernel
theorem dX12_read_15 : decode cX12_read 15 = .ok (.iconst 0, 1) := by decide +kernel
theorem dX12_read_16 : decode cX12_read 16 = .ok (.istore_n 1, 1) := by decide +kernel
theorem dX12_read_17 : decode cX12_read 17 = .ok (.iload_n 1, 1) := by decide +kernel
theorem dX12_read_18 : decode cX12_read 18 = .ok (.sipush 463, 3) := by decide +kernel
theorem dX12_read_21 : decode cX12_read 21 = .ok (.if_icmp .ge 16, 3) := by decide +kernel
theorem dX12_read_24 : decode cX12_read 24 = .ok (.aload_n 0, 1) := by decide +kernel
theorem dX12_read_25 : decode cX12_read 25 = .ok (.getfield 13, 3) := by decide +kernel
theorem dX12_read_28 : decode cX12_read 28 = .ok (.iload_n 1, 1) := by decide +kernel
theorem dX12_read_29 : decode cX12_read 29 = .ok (.iconst 0, 1) := by decide +kernel
theorem dX12_read_30 : decode cX12_read 30 = .ok (.iastore, 1) := by decide +kernel
theorem dX12_read_31 : decode cX12_read 31 = .ok (.iinc 1 1, 3) := by decide +kernel
theorem dX12_read_34 : decode cX12_read 34 = .ok (.goto (-17), 3) := by decide +kernel
theorem dX12_read_37 : decode cX12_read 37 = .ok (.aload_n 0, 1) := by decide +kernel
theorem dX12_read_38 : decode cX12_read 38 = .ok (.invokevirtual 193, 3) := by decide +kernel
theorem dX12_read_41 : decode cX12_read 41 = .ok (.aload_n 0, 1) := by decide +kernel
theorem dX12_read_42 : decode cX12_read 42 = .ok (.aload_n 0, 1) := by decide +kernel
theorem dX12_read_43 : decode cX12_read 43 = .ok (.ldc_w 364, 3) := by decide +kernel
theorem dX12_read_46 : decode cX12_read 46 = .ok (.invokevirtual 231, 3) := by decide +kernel
theorem dX12_read_49 : decode cX12_read 49 = .ok (.iconst 1, 1) := by decide +kernel
theorem dX12_read_50 : decode cX12_read 50 = .ok (.invokevirtual 196, 3) := by decide +kernel
theorem dX12_read_53 : decode cX12_read 53 = .ok (.pop, 1) := by decide +kernel
theorem dX12_read_54 : decode cX12_read 54 = .ok (.aload_n 0, 1) := by decide +kernel
theorem dX12_read_55 : decode cX12_read 55 = .ok (.invokevirtual 199, 3) := by decide +kernel
theorem dX12_read_58 : decode cX12_read 58 = .ok (.aload_n 0, 1) := by decide +kernel
theorem dX12_read_59 : decode cX12_read 59 = .ok (.getfield 13, 3) := by decide +kernel
theorem dX12_read_62 : decode cX12_read 62 = .ok (.iconst 1, 1) := by decide +kernel
theorem dX12_read_63 : decode cX12_read 63 = .ok (.aload_n 0, 1) := by decide +kernel
theorem dX12_read_64 : decode cX12_read 64 = .ok (.iconst 0, 1) := by decide +kernel
theorem dX12_read_65 : decode cX12_read 65 = .ok (.bipush 9, 2) := by decide +kernel
theorem dX12_read_67 : decode cX12_read 67 = .ok (.invokevirtual 239, 3) := by decide +kernel
theorem dX12_read_70 : decode cX12_read 70 = .ok (.iastore, 1) := by decide +kernel
theorem dX12_read_71 : decode cX12_read 71 = .ok (.aload_n 0, 1) := by decide +kernel
theorem dX12_read_72 : decode cX12_read 72 = .ok (.getfield 13, 3) := by decide +kernel
theorem dX12_read_75 : decode cX12_read 75 = .ok (.iconst 2, 1) := by decide +kernel
theorem dX12_read_76 : decode cX12_read 76 = .ok (.aload_n 0, 1) := by decide +kernel
theorem dX12_read_77 : decode cX12_read 77 = .ok (.iconst 0, 1) := by decide +kernel
theorem dX12_read_78 : decode cX12_read 78 = .ok (.sipush 1023, 3) := by decide +kernel
theorem dX12_read_81 : decode cX12_read 81 = .ok (.invokevirtual 239, 3) := by decide +kernel
theorem dX12_read_84 : decode cX12_read 84 = .ok (.iastore, 1) := by decide +kernel
theorem dX12_read_85 : decode cX12_read 85 = .ok (.aload_n 0, 1) := by decide +kernel
theorem dX12_read_86 : decode cX12_read 86 = .ok (.invokevirtual 248, 3) := by decide +kernel
theorem dX12_read_89 : decode cX12_read 89 = .ok (.aload_n 0, 1) := by decide +kernel
theorem dX12_read_90 : decode cX12_read 90 = .ok (.getfield 164, 3) := by decide +kernel
theorem dX12_read_93 : decode cX12_read 93 = .ok (.ifCond .ne 17, 3) := by decide +kernel
theorem dX12_read_96 : decode cX12_read 96 = .ok (.aload_n 0, 1) := by decide +kernel
theorem dX12_read_97 : decode cX12_read 97 = .ok (.getfield 185, 3) := by decide +kernel
theorem dX12_read_100 : decode cX12_read 100 = .ok (.ifCond .eq 10, 3) := by decide +kernel
theorem dX12_read_103 : decode cX12_read 103 = .ok (.aload_n 0, 1) := by decide +kernel
theorem dX12_read_104 : decode cX12_read 104 = .ok (.invokevirtual 366, 3) := by decide +kernel
theorem dX12_read_107 : decode cX12_read 107 = .ok (.goto (-18), 3) := by decide +kernel
theorem dX12_read_110 : decode cX12_read 110 = .ok (.return_, 1) := by decide +kernel
theorem dX12_load_0 : decode cX12_load 0 = .ok (.aload_n 0, 1) := by decide +kernel
theorem dX12_load_1 : decode cX12_load 1 = .ok (.iconst 0, 1) := by decide +kernel
theorem dX12_load_2 : decode cX12_load 2 = .ok (.putfield 72, 3) := by decide +kernel
theorem dX12_load_5 : decode cX12_load 5 = .ok (.aload_n 0, 1) := by decide +kernel
theorem dX12_load_6 : decode cX12_load 6 = .ok (.invokevirtual 52, 3) := by decide +kernel
theorem dX12_load_9 : decode cX12_load 9 = .ok (.aload_n 0, 1) := by decide +kernel
theorem dX12_load_10 : decode cX12_load 10 = .ok (.iconst 0, 1) := by decide +kernel
theorem dX12_load_11 : decode cX12_load 11 = .ok (.putfield 55, 3) := by decide +kernel
theorem dX12_load_14 : decode cX12_load 14 = .ok (.aload_n 0, 1) := by decide +kernel
theorem dX12_load_15 : decode cX12_load 15 = .ok (.aload_n 0, 1) := by decide +kernel
theorem dX12_load_16 : decode cX12_load 16 = .ok (.getfield 164, 3) := by decide +kernel
theorem dX12_load_19 : decode cX12_load 19 = .ok (.ifCond .eq 7, 3) := by decide +kernel
theorem dX12_load_22 : decode cX12_load 22 = .ok (.iconst 1, 1) := by decide +kernel
theorem dX12_load_23 : decode cX12_load 23 = .ok (.goto 4, 3) := by decide +kernel
theorem dX12_load_26 : decode cX12_load 26 = .ok (.iconst 0, 1) := by decide +kernel
theorem dX12_load_27 : decode cX12_load 27 = .ok (.iconst 1, 1) := by decide +kernel
theorem dX12_load_28 : decode cX12_load 28 = .ok (.invokevirtual 152, 3) := by decide +kernel
theorem dX12_load_31 : decode cX12_load 31 = .ok (.ifCond .eq 5, 3) := by decide +kernel
theorem dX12_load_34 : decode cX12_load 34 = .ok (.iconst 0, 1) := by decide +kernel
theorem dX12_load_35 : decode cX12_load 35 = .ok (.ireturn, 1) := by decide +kernel
theorem dX12_load_36 : decode cX12_load 36 = .ok (.aload_n 0, 1) := by decide +kernel
theorem dX12_load_37 : decode cX12_load 37 = .ok (.invokevirtual 369, 3) := by decide +kernel
theorem dX12_load_40 : decode cX12_load 40 = .ok (.aload_n 0, 1) := by decide +kernel
theorem dX12_load_41 : decode cX12_load 41 = .ok (.getfield 13, 3) := by decide +kernel
theorem dX12_load_44 : decode cX12_load 44 = .ok (.iconst 0, 1) := by decide +kernel
theorem dX12_load_45 : decode cX12_load 45 = .ok (.aload_n 0, 1) := by decide +kernel
theorem dX12_load_46 : decode cX12_load 46 = .ok (.getfield 7, 3) := by decide +kernel
theorem dX12_load_49 : decode cX12_load 49 = .ok (.iconst 0, 1) := by decide +kernel
theorem dX12_load_50 : decode cX12_load 50 = .ok (.invokestatic 58, 3) := by decide +kernel
theorem dX12_load_53 : decode cX12_load 53 = .ok (.aload_n 0, 1) := by decide +kernel
theorem dX12_load_54 : decode cX12_load 54 = .ok (.getfield 7, 3) := by decide +kernel
theorem dX12_load_57 : decode cX12_load 57 = .ok (.bipush 6, 2) := by decide +kernel
theorem dX12_load_59 : decode cX12_load 59 = .ok (.iaload, 1) := by decide +kernel
theorem dX12_load_60 : decode cX12_load 60 = .ok (.ireturn, 1) := by decide +kernel
theorem dX12_remember_0 : decode cX12_remember 0 = .ok (.aload_n 0, 1) := by decide +kernel
theorem dX12_remember_1 : decode cX12_remember 1 = .ok (.getfield 372, 3) := by decide +kernel
theorem dX12_remember_4 : decode cX12_remember 4 = .ok (.bipush 8, 2) := by decide +kernel
theorem dX12_remember_6 : decode cX12_remember 6 = .ok (.if_icmp .ne 26, 3) := by decide +kernel
theorem dX12_remember_9 : decode cX12_remember 9 = .ok (.aload_n 0, 1) := by decide +kernel
theorem dX12_remember_10 : decode cX12_remember 10 = .ok (.aload_n 0, 1) := by decide +kernel
theorem dX12_remember_11 : decode cX12_remember 11 = .ok (.getfield 375, 3) := by decide +kernel
theorem dX12_remember_14 : decode cX12_remember 14 = .ok (.iconst 1, 1) := by decide +kernel
theorem dX12_remember_15 : decode cX12_remember 15 = .ok (.iadd, 1) := by decide +kernel
theorem dX12_remember_16 : decode cX12_remember 16 = .ok (.bipush 8, 2) := by decide +kernel
theorem dX12_remember_18 : decode cX12_remember 18 = .ok (.irem, 1) := by decide +kernel
theorem dX12_remember_19 : decode cX12_remember 19 = .ok (.putfield 375, 3) := by decide +kernel
theorem dX12_remember_22 : decode cX12_remember 22 = .ok (.aload_n 0, 1) := by decide +kernel
theorem dX12_remember_23 : decode cX12_remember 23 = .ok (.dup, 1) := by decide +kernel
theorem dX12_remember_24 : decode cX12_remember 24 = .ok (.getfield 372, 3) := by decide +kernel
theorem dX12_remember_27 : decode cX12_remember 27 = .ok (.iconst 1, 1) := by decide +kernel
theorem dX12_remember_28 : decode cX12_remember 28 = .ok (.isub, 1) := by decide +kernel
theorem dX12_remember_29 : decode cX12_remember 29 = .ok (.putfield 372, 3) := by decide +kernel
theorem dX12_remember_32 : decode cX12_remember 32 = .ok (.aload_n 0, 1) := by decide +kernel
theorem dX12_remember_33 : decode cX12_remember 33 = .ok (.getfield 7, 3) := by decide +kernel
theorem dX12_remember_36 : decode cX12_remember 36 = .ok (.iconst 0, 1) := by decide +kernel
theorem dX12_remember_37 : decode cX12_remember 37 = .ok (.aload_n 0, 1) := by decide +kernel
theorem dX12_remember_38 : decode cX12_remember 38 = .ok (.getfield 19, 3) := by decide +kernel
theorem dX12_remember_41 : decode cX12_remember 41 = .ok (.sipush 463, 3) := by decide +kernel
theorem dX12_remember_44 : decode cX12_remember 44 = .ok (.aload_n 0, 1) := by decide +kernel
theorem dX12_remember_45 : decode cX12_remember 45 = .ok (.getfield 375, 3) := by decide +kernel
theorem dX12_remember_48 : decode cX12_remember 48 = .ok (.aload_n 0, 1) := by decide +kernel
theorem dX12_remember_49 : decode cX12_remember 49 = .ok (.getfield 372, 3) := by decide +kernel
theorem dX12_remember_52 : decode cX12_remember 52 = .ok (.iadd, 1) := by decide +kernel
theorem dX12_remember_53 : decode cX12_remember 53 = .ok (.bipush 8, 2) := by decide +kernel
theorem dX12_remember_55 : decode cX12_remember 55 = .ok (.irem, 1) := by decide +kernel
theorem dX12_remember_56 : decode cX12_remember 56 = .ok (.imul, 1) := by decide +kernel
theorem dX12_remember_57 : decode cX12_remember 57 = .ok (.invokestatic 58, 3) := by decide +kernel
theorem dX12_remember_60 : decode cX12_remember 60 = .ok (.aload_n 0, 1) := by decide +kernel
theorem dX12_remember_61 : decode cX12_remember 61 = .ok (.dup, 1) := by decide +kernel
theorem dX12_remember_62 : decode cX12_remember 62 = .ok (.getfield 372, 3) := by decide +kernel
theorem dX12_remember_65 : decode cX12_remember 65 = .ok (.iconst 1, 1) := by decide +kernel
theorem dX12_remember_66 : decode cX12_remember 66 = .ok (.iadd, 1) := by decide +kernel
theorem dX12_remember_67 : decode cX12_remember 67 = .ok (.putfield 372, 3) := by decide +kernel
theorem dX12_remember_70 : decode cX12_remember 70 = .ok (.return_, 1) := by decide +kernel
theorem dX12_undo_0 : decode cX12_undo 0 = .ok (.aload_n 0, 1) := by decide +kernel
theorem dX12_undo_1 : decode cX12_undo 1 = .ok (.iconst 0, 1) := by decide +kernel
theorem dX12_undo_2 : decode cX12_undo 2 = .ok (.putfield 72, 3) := by decide +kernel
theorem dX12_undo_5 : decode cX12_undo 5 = .ok (.aload_n 0, 1) := by decide +kernel
theorem dX12_undo_6 : decode cX12_undo 6 = .ok (.aload_n 0, 1) := by decide +kernel
theorem dX12_undo_7 : decode cX12_undo 7 = .ok (.getfield 372, 3) := by decide +kernel
theorem dX12_undo_10 : decode cX12_undo 10 = .ok (.ifCond .ne 7, 3) := by decide +kernel
theorem dX12_undo_13 : decode cX12_undo 13 = .ok (.iconst 1, 1) := by decide +kernel
theorem dX12_undo_14 : decode cX12_undo 14 = .ok (.goto 4, 3) := by decide +kernel
theorem dX12_undo_17 : decode cX12_undo 17 = .ok (.iconst 0, 1) := by decide +kernel
theorem dX12_undo_18 : decode cX12_undo 18 = .ok (.iconst 1, 1) := by decide +kernel
theorem dX12_undo_19 : decode cX12_undo 19 = .ok (.invokevirtual 152, 3) := by decide +kernel
theorem dX12_undo_22 : decode cX12_undo 22 = .ok (.ifCond .eq 5, 3) := by decide +kernel
theorem dX12_undo_25 : decode cX12_undo 25 = .ok (.iconst 0, 1) := by decide +kernel
theorem dX12_undo_26 : decode cX12_undo 26 = .ok (.ireturn, 1) := by decide +kernel
theorem dX12_undo_27 : decode cX12_undo 27 = .ok (.aload_n 0, 1) := by decide +kernel
theorem dX12_undo_28 : decode cX12_undo 28 = .ok (.dup, 1) := by decide +kernel
theorem dX12_undo_29 : decode cX12_undo 29 = .ok (.getfield 372, 3) := by decide +kernel
theorem dX12_undo_32 : decode cX12_undo 32 = .ok (.iconst 1, 1) := by decide +kernel
theorem dX12_undo_33 : decode cX12_undo 33 = .ok (.isub, 1) := by decide +kernel
theorem dX12_undo_34 : decode cX12_undo 34 = .ok (.putfield 372, 3) := by decide +kernel
theorem dX12_undo_37 : decode cX12_undo 37 = .ok (.aload_n 0, 1) := by decide +kernel
theorem dX12_undo_38 : decode cX12_undo 38 = .ok (.getfield 19, 3) := by decide +kernel
theorem dX12_undo_41 : decode cX12_undo 41 = .ok (.sipush 463, 3) := by decide +kernel
theorem dX12_undo_44 : decode cX12_undo 44 = .ok (.aload_n 0, 1) := by decide +kernel
theorem dX12_undo_45 : decode cX12_undo 45 = .ok (.getfield 375, 3) := by decide +kernel
theorem dX12_undo_48 : decode cX12_undo 48 = .ok (.aload_n 0, 1) := by decide +kernel
theorem dX12_undo_49 : decode cX12_undo 49 = .ok (.getfield 372, 3) := by decide +kernel
theorem dX12_undo_52 : decode cX12_undo 52 = .ok (.iadd, 1) := by decide +kernel
theorem dX12_undo_53 : decode cX12_undo 53 = .ok (.bipush 8, 2) := by decide +kernel
theorem dX12_undo_55 : decode cX12_undo 55 = .ok (.irem, 1) := by decide +kernel
theorem dX12_undo_56 : decode cX12_undo 56 = .ok (.imul, 1) := by decide +kernel
theorem dX12_undo_57 : decode cX12_undo 57 = .ok (.aload_n 0, 1) := by decide +kernel
theorem dX12_undo_58 : decode cX12_undo 58 = .ok (.getfield 7, 3) := by decide +kernel
theorem dX12_undo_61 : decode cX12_undo 61 = .ok (.iconst 0, 1) := by decide +kernel
theorem dX12_undo_62 : decode cX12_undo 62 = .ok (.invokestatic 58, 3) := by decide +kernel
theorem dX12_undo_65 : decode cX12_undo 65 = .ok (.aload_n 0, 1) := by decide +kernel
theorem dX12_undo_66 : decode cX12_undo 66 = .ok (.getfield 372, 3) := by decide +kernel
theorem dX12_undo_69 : decode cX12_undo 69 = .ok (.ireturn, 1) := by decide +kernel
theorem dX12_noNumber_0 : decode cX12_noNumber 0 = .ok (.aload_n 0, 1) := by decide +kernel
theorem dX12_noNumber_1 : decode cX12_noNumber 1 = .ok (.iconst 0, 1) := by decide +kernel
theorem dX12_noNumber_2 : decode cX12_noNumber 2 = .ok (.putfield 72, 3) := by decide +kernel
theorem dX12_noNumber_5 : decode cX12_noNumber 5 = .ok (.aload_n 0, 1) := by decide +kernel
theorem dX12_noNumber_6 : decode cX12_noNumber 6 = .ok (.iload_n 1, 1) := by decide +kernel
theorem dX12_noNumber_7 : decode cX12_noNumber 7 = .ok (.iload_n 2, 1) := by decide +kernel
theorem dX12_noNumber_8 : decode cX12_noNumber 8 = .ok (.iload_n 3, 1) := by decide +kernel
theorem dX12_noNumber_9 : decode cX12_noNumber 9 = .ok (.invokestatic 167, 3) := by decide +kernel
theorem dX12_noNumber_12 : decode cX12_noNumber 12 = .ok (.ifCond .ne 7, 3) := by decide +kernel
theorem dX12_noNumber_15 : decode cX12_noNumber 15 = .ok (.iconst 1, 1) := by decide +kernel
theorem dX12_noNumber_16 : decode cX12_noNumber 16 = .ok (.goto 4, 3) := by decide +kernel
theorem dX12_noNumber_19 : decode cX12_noNumber 19 = .ok (.iconst 0, 1) := by decide +kernel
theorem dX12_noNumber_20 : decode cX12_noNumber 20 = .ok (.iconst 1, 1) := by decide +kernel
theorem dX12_noNumber_21 : decode cX12_noNumber 21 = .ok (.invokevirtual 152, 3) := by decide +kernel
theorem dX12_noNumber_24 : decode cX12_noNumber 24 = .ok (.ireturn, 1) := by decide +kernel
theorem dX12_noRealm_0 : decode cX12_noRealm 0 = .ok (.aload_n 0, 1) := by decide +kernel
theorem dX12_noRealm_1 : decode cX12_noRealm 1 = .ok (.iload_n 1, 1) := by decide +kernel
theorem dX12_noRealm_2 : decode cX12_noRealm 2 = .ok (.iconst 0, 1) := by decide +kernel
theorem dX12_noRealm_3 : decode cX12_noRealm 3 = .ok (.aload_n 0, 1) := by decide +kernel
theorem dX12_noRealm_4 : decode cX12_noRealm 4 = .ok (.getfield 7, 3) := by decide +kernel
theorem dX12_noRealm_7 : decode cX12_noRealm 7 = .ok (.iconst 3, 1) := by decide +kernel
theorem dX12_noRealm_8 : decode cX12_noRealm 8 = .ok (.iaload, 1) := by decide +kernel
theorem dX12_noRealm_9 : decode cX12_noRealm 9 = .ok (.iconst 1, 1) := by decide +kernel
theorem dX12_noRealm_10 : decode cX12_noRealm 10 = .ok (.isub, 1) := by decide +kernel
theorem dX12_noRealm_11 : decode cX12_noRealm 11 = .ok (.invokevirtual 160, 3) := by decide +kernel
theorem dX12_noRealm_14 : decode cX12_noRealm 14 = .ok (.ireturn, 1) := by decide +kernel
theorem dX12_noRealms_0 : decode cX12_noRealms 0 = .ok (.aload_n 0, 1) := by decide +kernel
theorem dX12_noRealms_1 : decode cX12_noRealms 1 = .ok (.iload_n 1, 1) := by decide +kernel
theorem dX12_noRealms_2 : decode cX12_noRealms 2 = .ok (.invokevirtual 378, 3) := by decide +kernel
theorem dX12_noRealms_5 : decode cX12_noRealms 5 = .ok (.ifCond .ne 11, 3) := by decide +kernel
theorem dX12_noRealms_8 : decode cX12_noRealms 8 = .ok (.aload_n 0, 1) := by decide +kernel
theorem dX12_noRealms_9 : decode cX12_noRealms 9 = .ok (.iload_n 2, 1) := by decide +kernel
theorem dX12_noRealms_10 : decode cX12_noRealms 10 = .ok (.invokevirtual 378, 3) := by decide +kernel
theorem dX12_noRealms_13 : decode cX12_noRealms 13 = .ok (.ifCond .eq 7, 3) := by decide +kernel
theorem dX12_noRealms_16 : decode cX12_noRealms 16 = .ok (.iconst 1, 1) := by decide +kernel
theorem dX12_noRealms_17 : decode cX12_noRealms 17 = .ok (.goto 4, 3) := by decide +kernel
theorem dX12_noRealms_20 : decode cX12_noRealms 20 = .ok (.iconst 0, 1) := by decide +kernel
theorem dX12_noRealms_21 : decode cX12_noRealms 21 = .ok (.ireturn, 1) := by decide +kernel
theorem dX12_noUser_0 : decode cX12_noUser 0 = .ok (.aload_n 0, 1) := by decide +kernel
theorem dX12_noUser_1 : decode cX12_noUser 1 = .ok (.iload_n 1, 1) := by decide +kernel
theorem dX12_noUser_2 : decode cX12_noUser 2 = .ok (.iconst 0, 1) := by decide +kernel
theorem dX12_noUser_3 : decode cX12_noUser 3 = .ok (.aload_n 0, 1) := by decide +kernel
theorem dX12_noUser_4 : decode cX12_noUser 4 = .ok (.getfield 7, 3) := by decide +kernel
theorem dX12_noUser_7 : decode cX12_noUser 7 = .ok (.iconst 4, 1) := by decide +kernel
theorem dX12_noUser_8 : decode cX12_noUser 8 = .ok (.iaload, 1) := by decide +kernel
theorem dX12_noUser_9 : decode cX12_noUser 9 = .ok (.iconst 1, 1) := by decide +kernel
theorem dX12_noUser_10 : decode cX12_noUser 10 = .ok (.isub, 1) := by decide +kernel
theorem dX12_noUser_11 : decode cX12_noUser 11 = .ok (.invokevirtual 160, 3) := by decide +kernel
theorem dX12_noUser_14 : decode cX12_noUser 14 = .ok (.ireturn, 1) := by decide +kernel
theorem dX12_noService_0 : decode cX12_noService 0 = .ok (.aload_n 0, 1) := by decide +kernel
theorem dX12_noService_1 : decode cX12_noService 1 = .ok (.iload_n 1, 1) := by decide +kernel
theorem dX12_noService_2 : decode cX12_noService 2 = .ok (.iconst 0, 1) := by decide +kernel
theorem dX12_noService_3 : decode cX12_noService 3 = .ok (.aload_n 0, 1) := by decide +kernel
theorem dX12_noService_4 : decode cX12_noService 4 = .ok (.getfield 7, 3) := by decide +kernel
theorem dX12_noService_7 : decode cX12_noService 7 = .ok (.iconst 5, 1) := by decide +kernel
theorem dX12_noService_8 : decode cX12_noService 8 = .ok (.iaload, 1) := by decide +kernel
theorem dX12_noService_9 : decode cX12_noService 9 = .ok (.iconst 1, 1) := by decide +kernel
theorem dX12_noService_10 : decode cX12_noService 10 = .ok (.isub, 1) := by decide +kernel
theorem dX12_noService_11 : decode cX12_noService 11 = .ok (.invokevirtual 160, 3) := by decide +kernel
theorem dX12_noService_14 : decode cX12_noService 14 = .ok (.ireturn, 1) := by decide +kernel
theorem dX12_noTicket_0 : decode cX12_noTicket 0 = .ok (.aload_n 0, 1) := by decide +kernel
theorem dX12_noTicket_1 : decode cX12_noTicket 1 = .ok (.iconst 0, 1) := by decide +kernel
theorem dX12_noTicket_2 : decode cX12_noTicket 2 = .ok (.putfield 72, 3) := by decide +kernel
theorem dX12_noTicket_5 : decode cX12_noTicket 5 = .ok (.aload_n 0, 1) := by decide +kernel
theorem dX12_noTicket_6 : decode cX12_noTicket 6 = .ok (.aload_n 0, 1) := by decide +kernel
theorem dX12_noTicket_7 : decode cX12_noTicket 7 = .ok (.getfield 7, 3) := by decide +kernel
theorem dX12_noTicket_10 : decode cX12_noTicket 10 = .ok (.iload_n 1, 1) := by decide +kernel
theorem dX12_noTicket_11 : decode cX12_noTicket 11 = .ok (.invokestatic 226, 3) := by decide +kernel
theorem dX12_noTicket_14 : decode cX12_noTicket 14 = .ok (.iconst (-1), 1) := by decide +kernel
theorem dX12_noTicket_15 : decode cX12_noTicket 15 = .ok (.if_icmp .ne 7, 3) := by decide +kernel
theorem dX12_noTicket_18 : decode cX12_noTicket 18 = .ok (.iconst 1, 1) := by decide +kernel
theorem dX12_noTicket_19 : decode cX12_noTicket 19 = .ok (.goto 4, 3) := by decide +kernel
theorem dX12_noTicket_22 : decode cX12_noTicket 22 = .ok (.iconst 0, 1) := by decide +kernel
theorem dX12_noTicket_23 : decode cX12_noTicket 23 = .ok (.iconst 1, 1) := by decide +kernel
theorem dX12_noTicket_24 : decode cX12_noTicket 24 = .ok (.invokevirtual 152, 3) := by decide +kernel
theorem dX12_noTicket_27 : decode cX12_noTicket 27 = .ok (.ireturn, 1) := by decide +kernel
theorem dX12_out_0 : decode cX12_out 0 = .ok (.aload_n 0, 1) := by decide +kernel
theorem dX12_out_1 : decode cX12_out 1 = .ok (.iload_n 1, 1) := by decide +kernel
theorem dX12_out_2 : decode cX12_out 2 = .ok (.iload_n 2, 1) := by decide +kernel
theorem dX12_out_3 : decode cX12_out 3 = .ok (.iload_n 3, 1) := by decide +kernel
theorem dX12_out_4 : decode cX12_out 4 = .ok (.invokestatic 167, 3) := by decide +kernel
theorem dX12_out_7 : decode cX12_out 7 = .ok (.ifCond .ne 7, 3) := by decide +kernel
theorem dX12_out_10 : decode cX12_out 10 = .ok (.iconst 1, 1) := by decide +kernel
theorem dX12_out_11 : decode cX12_out 11 = .ok (.goto 4, 3) := by decide +kernel
theorem dX12_out_14 : decode cX12_out 14 = .ok (.iconst 0, 1) := by decide +kernel
theorem dX12_out_15 : decode cX12_out 15 = .ok (.iconst 2, 1) := by decide +kernel
theorem dX12_out_16 : decode cX12_out 16 = .ok (.invokevirtual 152, 3) := by decide +kernel
theorem dX12_out_19 : decode cX12_out 19 = .ok (.ireturn, 1) := by decide +kernel
theorem dX12_time_0 : decode cX12_time 0 = .ok (.aload_n 0, 1) := by decide +kernel
theorem dX12_time_1 : decode cX12_time 1 = .ok (.iconst 0, 1) := by decide +kernel
theorem dX12_time_2 : decode cX12_time 2 = .ok (.putfield 72, 3) := by decide +kernel
theorem dX12_time_5 : decode cX12_time 5 = .ok (.aload_n 0, 1) := by decide +kernel
theorem dX12_time_6 : decode cX12_time 6 = .ok (.getfield 7, 3) := by decide +kernel
theorem dX12_time_9 : decode cX12_time 9 = .ok (.iconst 0, 1) := by decide +kernel
theorem dX12_time_10 : decode cX12_time 10 = .ok (.iaload, 1) := by decide +kernel
theorem dX12_time_11 : decode cX12_time 11 = .ok (.ireturn, 1) := by decide +kernel
theorem dX12_seed_0 : decode cX12_seed 0 = .ok (.aload_n 0, 1) := by decide +kernel
theorem dX12_seed_1 : decode cX12_seed 1 = .ok (.iconst 0, 1) := by decide +kernel
theorem dX12_seed_2 : decode cX12_seed 2 = .ok (.putfield 72, 3) := by decide +kernel
theorem dX12_seed_5 : decode cX12_seed 5 = .ok (.aload_n 0, 1) := by decide +kernel
theorem dX12_seed_6 : decode cX12_seed 6 = .ok (.getfield 7, 3) := by decide +kernel
theorem dX12_seed_9 : decode cX12_seed 9 = .ok (.iconst 2, 1) := by decide +kernel
theorem dX12_seed_10 : decode cX12_seed 10 = .ok (.iaload, 1) := by decide +kernel
theorem dX12_seed_11 : decode cX12_seed 11 = .ok (.ireturn, 1) := by decide +kernel
theorem dX12_realmCount_0 : decode cX12_realmCount 0 = .ok (.aload_n 0, 1) := by decide +kernel
theorem dX12_realmCount_1 : decode cX12_realmCount 1 = .ok (.iconst 0, 1) := by decide +kernel
theorem dX12_realmCount_2 : decode cX12_realmCount 2 = .ok (.putfield 72, 3) := by decide +kernel
theorem dX12_realmCount_5 : decode cX12_realmCount 5 = .ok (.aload_n 0, 1) := by decide +kernel
theorem dX12_realmCount_6 : decode cX12_realmCount 6 = .ok (.getfield 7, 3) := by decide +kernel
theorem dX12_realmCount_9 : decode cX12_realmCount 9 = .ok (.iconst 3, 1) := by decide +kernel
theorem dX12_realmCount_10 : decode cX12_realmCount 10 = .ok (.iaload, 1) := by decide +kernel
theorem dX12_realmCount_11 : decode cX12_realmCount 11 = .ok (.ireturn, 1) := by decide +kernel
theorem dX12_userCount_0 : decode cX12_userCount 0 = .ok (.aload_n 0, 1) := by decide +kernel
theorem dX12_userCount_1 : decode cX12_userCount 1 = .ok (.iconst 0, 1) := by decide +kernel
theorem dX12_userCount_2 : decode cX12_userCount 2 = .ok (.putfield 72, 3) := by decide +kernel
theorem dX12_userCount_5 : decode cX12_userCount 5 = .ok (.aload_n 0, 1) := by decide +kernel
theorem dX12_userCount_6 : decode cX12_userCount 6 = .ok (.getfield 7, 3) := by decide +kernel
theorem dX12_userCount_9 : decode cX12_userCount 9 = .ok (.iconst 4, 1) := by decide +kernel
theorem dX12_userCount_10 : decode cX12_userCount 10 = .ok (.iaload, 1) := by decide +kernel
theorem dX12_userCount_11 : decode cX12_userCount 11 = .ok (.ireturn, 1) := by decide +kernel
theorem dX12_serviceCount_0 : decode cX12_serviceCount 0 = .ok (.aload_n 0, 1) := by decide +kernel
theorem dX12_serviceCount_1 : decode cX12_serviceCount 1 = .ok (.iconst 0, 1) := by decide +kernel
theorem dX12_serviceCount_2 : decode cX12_serviceCount 2 = .ok (.putfield 72, 3) := by decide +kernel
theorem dX12_serviceCount_5 : decode cX12_serviceCount 5 = .ok (.aload_n 0, 1) := by decide +kernel
theorem dX12_serviceCount_6 : decode cX12_serviceCount 6 = .ok (.getfield 7, 3) := by decide +kernel
theorem dX12_serviceCount_9 : decode cX12_serviceCount 9 = .ok (.iconst 5, 1) := by decide +kernel
theorem dX12_serviceCount_10 : decode cX12_serviceCount 10 = .ok (.iaload, 1) := by decide +kernel
theorem dX12_serviceCount_11 : decode cX12_serviceCount 11 = .ok (.ireturn, 1) := by decide +kernel
theorem dX12_findName_0 : decode cX12_findName 0 = .ok (.aload_n 0, 1) := by decide +kernel
theorem dX12_findName_1 : decode cX12_findName 1 = .ok (.iconst 0, 1) := by decide +kernel
theorem dX12_findName_2 : decode cX12_findName 2 = .ok (.putfield 72, 3) := by decide +kernel
theorem dX12_findName_5 : decode cX12_findName 5 = .ok (.aload_n 0, 1) := by decide +kernel
theorem dX12_findName_6 : decode cX12_findName 6 = .ok (.iconst 0, 1) := by decide +kernel
theorem dX12_findName_7 : decode cX12_findName 7 = .ok (.aload_n 0, 1) := by decide +kernel
theorem dX12_findName_8 : decode cX12_findName 8 = .ok (.getfield 55, 3) := by decide +kernel
theorem dX12_findName_11 : decode cX12_findName 11 = .ok (.invokevirtual 214, 3) := by decide +kernel
theorem dX12_findName_14 : decode cX12_findName 14 = .ok (.istore_n 1, 1) := by decide +kernel
theorem dX12_findName_15 : decode cX12_findName 15 = .ok (.iload_n 1, 1) := by decide +kernel
theorem dX12_findName_16 : decode cX12_findName 16 = .ok (.iconst (-1), 1) := by decide +kernel
theorem dX12_findName_17 : decode cX12_findName 17 = .ok (.if_icmp .ne 7, 3) := by decide +kernel
theorem dX12_findName_20 : decode cX12_findName 20 = .ok (.iconst (-1), 1) := by decide +kernel
theorem dX12_findName_21 : decode cX12_findName 21 = .ok (.goto 11, 3) := by decide +kernel
theorem dX12_findName_24 : decode cX12_findName 24 = .ok (.aload_n 0, 1) := by decide +kernel
theorem dX12_findName_25 : decode cX12_findName 25 = .ok (.getfield 7, 3) := by decide +kernel
theorem dX12_findName_28 : decode cX12_findName 28 = .ok (.iload_n 1, 1) := by decide +kernel
theorem dX12_findName_29 : decode cX12_findName 29 = .ok (.invokestatic 217, 3) := by decide +kernel
theorem dX12_findName_32 : decode cX12_findName 32 = .ok (.ireturn, 1) := by decide +kernel
theorem dX12_lifetimeOf_0 : decode cX12_lifetimeOf 0 = .ok (.aload_n 0, 1) := by decide +kernel
theorem dX12_lifetimeOf_1 : decode cX12_lifetimeOf 1 = .ok (.iload_n 1, 1) := by decide +kernel
theorem dX12_lifetimeOf_2 : decode cX12_lifetimeOf 2 = .ok (.invokevirtual 378, 3) := by decide +kernel
theorem dX12_lifetimeOf_5 : decode cX12_lifetimeOf 5 = .ok (.ifCond .eq 5, 3) := by decide +kernel
theorem dX12_lifetimeOf_8 : decode cX12_lifetimeOf 8 = .ok (.iconst 0, 1) := by decide +kernel
theorem dX12_lifetimeOf_9 : decode cX12_lifetimeOf 9 = .ok (.ireturn, 1) := by decide +kernel
theorem dX12_lifetimeOf_10 : decode cX12_lifetimeOf 10 = .ok (.aload_n 0, 1) := by decide +kernel
theorem dX12_lifetimeOf_11 : decode cX12_lifetimeOf 11 = .ok (.getfield 7, 3) := by decide +kernel
theorem dX12_lifetimeOf_14 : decode cX12_lifetimeOf 14 = .ok (.iload_n 1, 1) := by decide +kernel
theorem dX12_lifetimeOf_15 : decode cX12_lifetimeOf 15 = .ok (.invokestatic 91, 3) := by decide +kernel
theorem dX12_lifetimeOf_18 : decode cX12_lifetimeOf 18 = .ok (.iconst 1, 1) := by decide +kernel
theorem dX12_lifetimeOf_19 : decode cX12_lifetimeOf 19 = .ok (.iadd, 1) := by decide +kernel
theorem dX12_lifetimeOf_20 : decode cX12_lifetimeOf 20 = .ok (.iaload, 1) := by decide +kernel
theorem dX12_lifetimeOf_21 : decode cX12_lifetimeOf 21 = .ok (.ireturn, 1) := by decide +kernel
theorem dX12_clockOf_0 : decode cX12_clockOf 0 = .ok (.aload_n 0, 1) := by decide +kernel
theorem dX12_clockOf_1 : decode cX12_clockOf 1 = .ok (.iload_n 1, 1) := by decide +kernel
theorem dX12_clockOf_2 : decode cX12_clockOf 2 = .ok (.invokevirtual 378, 3) := by decide +kernel
theorem dX12_clockOf_5 : decode cX12_clockOf 5 = .ok (.ifCond .eq 5, 3) := by decide +kernel
theorem dX12_clockOf_8 : decode cX12_clockOf 8 = .ok (.iconst 0, 1) := by decide +kernel
theorem dX12_clockOf_9 : decode cX12_clockOf 9 = .ok (.ireturn, 1) := by decide +kernel
theorem dX12_clockOf_10 : decode cX12_clockOf 10 = .ok (.aload_n 0, 1) := by decide +kernel
theorem dX12_clockOf_11 : decode cX12_clockOf 11 = .ok (.getfield 7, 3) := by decide +kernel
theorem dX12_clockOf_14 : decode cX12_clockOf 14 = .ok (.iconst 0, 1) := by decide +kernel
theorem dX12_clockOf_15 : decode cX12_clockOf 15 = .ok (.iaload, 1) := by decide +kernel
theorem dX12_clockOf_16 : decode cX12_clockOf 16 = .ok (.aload_n 0, 1) := by decide +kernel
theorem dX12_clockOf_17 : decode cX12_clockOf 17 = .ok (.getfield 7, 3) := by decide +kernel
theorem dX12_clockOf_20 : decode cX12_clockOf 20 = .ok (.iload_n 1, 1) := by decide +kernel
theorem dX12_clockOf_21 : decode cX12_clockOf 21 = .ok (.invokestatic 91, 3) := by decide +kernel
theorem dX12_clockOf_24 : decode cX12_clockOf 24 = .ok (.iconst 3, 1) := by decide +kernel
theorem dX12_clockOf_25 : decode cX12_clockOf 25 = .ok (.iadd, 1) := by decide +kernel
theorem dX12_clockOf_26 : decode cX12_clockOf 26 = .ok (.iaload, 1) := by decide +kernel
theorem dX12_clockOf_27 : decode cX12_clockOf 27 = .ok (.iadd, 1) := by decide +kernel
theorem dX12_clockOf_28 : decode cX12_clockOf 28 = .ok (.ireturn, 1) := by decide +kernel
theorem dX12_trusts_0 : decode cX12_trusts 0 = .ok (.aload_n 0, 1) := by decide +kernel
theorem dX12_trusts_1 : decode cX12_trusts 1 = .ok (.iload_n 1, 1) := by decide +kernel
theorem dX12_trusts_2 : decode cX12_trusts 2 = .ok (.iload_n 2, 1) := by decide +kernel
theorem dX12_trusts_3 : decode cX12_trusts 3 = .ok (.invokevirtual 381, 3) := by decide +kernel
theorem dX12_trusts_6 : decode cX12_trusts 6 = .ok (.ifCond .eq 5, 3) := by decide +kernel
theorem dX12_trusts_9 : decode cX12_trusts 9 = .ok (.iconst 0, 1) := by decide +kernel
theorem dX12_trusts_10 : decode cX12_trusts 10 = .ok (.ireturn, 1) := by decide +kernel
theorem dX12_trusts_11 : decode cX12_trusts 11 = .ok (.aload_n 0, 1) := by decide +kernel
theorem dX12_trusts_12 : decode cX12_trusts 12 = .ok (.getfield 7, 3) := by decide +kernel
theorem dX12_trusts_15 : decode cX12_trusts 15 = .ok (.iload_n 1, 1) := by decide +kernel
theorem dX12_trusts_16 : decode cX12_trusts 16 = .ok (.iload_n 2, 1) := by decide +kernel
theorem dX12_trusts_17 : decode cX12_trusts 17 = .ok (.invokestatic 75, 3) := by decide +kernel
theorem dX12_trusts_20 : decode cX12_trusts 20 = .ok (.ireturn, 1) := by decide +kernel
theorem dX12_distance_0 : decode cX12_distance 0 = .ok (.aload_n 0, 1) := by decide +kernel
theorem dX12_distance_1 : decode cX12_distance 1 = .ok (.iload_n 1, 1) := by decide +kernel
theorem dX12_distance_2 : decode cX12_distance 2 = .ok (.iload_n 2, 1) := by decide +kernel
theorem dX12_distance_3 : decode cX12_distance 3 = .ok (.invokevirtual 381, 3) := by decide +kernel
theorem dX12_distance_6 : decode cX12_distance 6 = .ok (.ifCond .eq 5, 3) := by decide +kernel
theorem dX12_distance_9 : decode cX12_distance 9 = .ok (.iconst 0, 1) := by decide +kernel
theorem dX12_distance_10 : decode cX12_distance 10 = .ok (.ireturn, 1) := by decide +kernel
theorem dX12_distance_11 : decode cX12_distance 11 = .ok (.aload_n 0, 1) := by decide +kernel
theorem dX12_distance_12 : decode cX12_distance 12 = .ok (.aload_n 0, 1) := by decide +kernel
theorem dX12_distance_13 : decode cX12_distance 13 = .ok (.getfield 7, 3) := by decide +kernel
theorem dX12_distance_16 : decode cX12_distance 16 = .ok (.iload_n 1, 1) := by decide +kernel
theorem dX12_distance_17 : decode cX12_distance 17 = .ok (.iload_n 2, 1) := by decide +kernel
theorem dX12_distance_18 : decode cX12_distance 18 = .ok (.invokevirtual 385, 3) := by decide +kernel
theorem dX12_distance_21 : decode cX12_distance 21 = .ok (.ireturn, 1) := by decide +kernel
theorem dX12_nextRealm_0 : decode cX12_nextRealm 0 = .ok (.aload_n 0, 1) := by decide +kernel
theorem dX12_nextRealm_1 : decode cX12_nextRealm 1 = .ok (.iload_n 1, 1) := by decide +kernel
theorem dX12_nextRealm_2 : decode cX12_nextRealm 2 = .ok (.iload_n 2, 1) := by decide +kernel
theorem dX12_nextRealm_3 : decode cX12_nextRealm 3 = .ok (.invokevirtual 381, 3) := by decide +kernel
theorem dX12_nextRealm_6 : decode cX12_nextRealm 6 = .ok (.ifCond .eq 5, 3) := by decide +kernel
theorem dX12_nextRealm_9 : decode cX12_nextRealm 9 = .ok (.iconst 0, 1) := by decide +kernel
theorem dX12_nextRealm_10 : decode cX12_nextRealm 10 = .ok (.ireturn, 1) := by decide +kernel
theorem dX12_nextRealm_11 : decode cX12_nextRealm 11 = .ok (.aload_n 0, 1) := by decide +kernel
theorem dX12_nextRealm_12 : decode cX12_nextRealm 12 = .ok (.aload_n 0, 1) := by decide +kernel
theorem dX12_nextRealm_13 : decode cX12_nextRealm 13 = .ok (.getfield 7, 3) := by decide +kernel
theorem dX12_nextRealm_16 : decode cX12_nextRealm 16 = .ok (.iload_n 1, 1) := by decide +kernel
theorem dX12_nextRealm_17 : decode cX12_nextRealm 17 = .ok (.iload_n 2, 1) := by decide +kernel
theorem dX12_nextRealm_18 : decode cX12_nextRealm 18 = .ok (.invokevirtual 385, 3) := by decide +kernel
theorem dX12_nextRealm_21 : decode cX12_nextRealm 21 = .ok (.istore_n 3, 1) := by decide +kernel
theorem dX12_nextRealm_22 : decode cX12_nextRealm 22 = .ok (.iconst 0, 1) := by decide +kernel
theorem dX12_nextRealm_23 : decode cX12_nextRealm 23 = .ok (.istore 4, 2) := by decide +kernel
theorem dX12_nextRealm_25 : decode cX12_nextRealm 25 = .ok (.iload 4, 2) := by decide +kernel
theorem dX12_nextRealm_27 : decode cX12_nextRealm 27 = .ok (.aload_n 0, 1) := by decide +kernel
theorem dX12_nextRealm_28 : decode cX12_nextRealm 28 = .ok (.getfield 7, 3) := by decide +kernel
theorem dX12_nextRealm_31 : decode cX12_nextRealm 31 = .ok (.iconst 3, 1) := by decide +kernel
theorem dX12_nextRealm_32 : decode cX12_nextRealm 32 = .ok (.iaload, 1) := by decide +kernel
theorem dX12_nextRealm_33 : decode cX12_nextRealm 33 = .ok (.if_icmp .ge 46, 3) := by decide +kernel
theorem dX12_nextRealm_36 : decode cX12_nextRealm 36 = .ok (.iload_n 3, 1) := by decide +kernel
theorem dX12_nextRealm_37 : decode cX12_nextRealm 37 = .ok (.ifCond .le 42, 3) := by decide +kernel
theorem dX12_nextRealm_40 : decode cX12_nextRealm 40 = .ok (.aload_n 0, 1) := by decide +kernel
theorem dX12_nextRealm_41 : decode cX12_nextRealm 41 = .ok (.getfield 7, 3) := by decide +kernel
theorem dX12_nextRealm_44 : decode cX12_nextRealm 44 = .ok (.iload_n 1, 1) := by decide +kernel
theorem dX12_nextRealm_45 : decode cX12_nextRealm 45 = .ok (.iload 4, 2) := by decide +kernel
theorem dX12_nextRealm_47 : decode cX12_nextRealm 47 = .ok (.invokestatic 75, 3) := by decide +kernel
theorem dX12_nextRealm_50 : decode cX12_nextRealm 50 = .ok (.ifCond .eq 23, 3) := by decide +kernel
theorem dX12_nextRealm_53 : decode cX12_nextRealm 53 = .ok (.aload_n 0, 1) := by decide +kernel
theorem dX12_nextRealm_54 : decode cX12_nextRealm 54 = .ok (.aload_n 0, 1) := by decide +kernel
theorem dX12_nextRealm_55 : decode cX12_nextRealm 55 = .ok (.getfield 7, 3) := by decide +kernel
theorem dX12_nextRealm_58 : decode cX12_nextRealm 58 = .ok (.iload 4, 2) := by decide +kernel
theorem dX12_nextRealm_60 : decode cX12_nextRealm 60 = .ok (.iload_n 2, 1) := by decide +kernel
theorem dX12_nextRealm_61 : decode cX12_nextRealm 61 = .ok (.invokevirtual 385, 3) := by decide +kernel
theorem dX12_nextRealm_64 : decode cX12_nextRealm 64 = .ok (.iload_n 3, 1) := by decide +kernel
theorem dX12_nextRealm_65 : decode cX12_nextRealm 65 = .ok (.iconst 1, 1) := by decide +kernel
theorem dX12_nextRealm_66 : decode cX12_nextRealm 66 = .ok (.isub, 1) := by decide +kernel
theorem dX12_nextRealm_67 : decode cX12_nextRealm 67 = .ok (.if_icmp .ne 6, 3) := by decide +kernel
theorem dX12_nextRealm_70 : decode cX12_nextRealm 70 = .ok (.iload 4, 2) := by decide +kernel
theorem dX12_nextRealm_72 : decode cX12_nextRealm 72 = .ok (.ireturn, 1) := by decide +kernel
theorem dX12_nextRealm_73 : decode cX12_nextRealm 73 = .ok (.iinc 4 1, 3) := by decide +kernel
theorem dX12_nextRealm_76 : decode cX12_nextRealm 76 = .ok (.goto (-51), 3) := by decide +kernel
theorem dX12_nextRealm_79 : decode cX12_nextRealm 79 = .ok (.iconst (-1), 1) := by decide +kernel
theorem dX12_nextRealm_80 : decode cX12_nextRealm 80 = .ok (.ireturn, 1) := by decide +kernel
theorem dX12_homeOf_0 : decode cX12_homeOf 0 = .ok (.aload_n 0, 1) := by decide +kernel
theorem dX12_homeOf_1 : decode cX12_homeOf 1 = .ok (.iload_n 1, 1) := by decide +kernel
theorem dX12_homeOf_2 : decode cX12_homeOf 2 = .ok (.invokevirtual 388, 3) := by decide +kernel
theorem dX12_homeOf_5 : decode cX12_homeOf 5 = .ok (.ifCond .eq 5, 3) := by decide +kernel
theorem dX12_homeOf_8 : decode cX12_homeOf 8 = .ok (.iconst 0, 1) := by decide +kernel
theorem dX12_homeOf_9 : decode cX12_homeOf 9 = .ok (.ireturn, 1) := by decide +kernel
theorem dX12_homeOf_10 : decode cX12_homeOf 10 = .ok (.aload_n 0, 1) := by decide +kernel
theorem dX12_homeOf_11 : decode cX12_homeOf 11 = .ok (.getfield 7, 3) := by decide +kernel
theorem dX12_homeOf_14 : decode cX12_homeOf 14 = .ok (.iload_n 1, 1) := by decide +kernel
theorem dX12_homeOf_15 : decode cX12_homeOf 15 = .ok (.invokestatic 87, 3) := by decide +kernel
theorem dX12_homeOf_18 : decode cX12_homeOf 18 = .ok (.iconst 1, 1) := by decide +kernel
theorem dX12_homeOf_19 : decode cX12_homeOf 19 = .ok (.iadd, 1) := by decide +kernel
theorem dX12_homeOf_20 : decode cX12_homeOf 20 = .ok (.iaload, 1) := by decide +kernel
theorem dX12_homeOf_21 : decode cX12_homeOf 21 = .ok (.ireturn, 1) := by decide +kernel
theorem dX12_cheesesOf_0 : decode cX12_cheesesOf 0 = .ok (.aload_n 0, 1) := by decide +kernel
theorem dX12_cheesesOf_1 : decode cX12_cheesesOf 1 = .ok (.iload_n 1, 1) := by decide +kernel
theorem dX12_cheesesOf_2 : decode cX12_cheesesOf 2 = .ok (.invokevirtual 388, 3) := by decide +kernel
theorem dX12_cheesesOf_5 : decode cX12_cheesesOf 5 = .ok (.ifCond .eq 5, 3) := by decide +kernel
theorem dX12_cheesesOf_8 : decode cX12_cheesesOf 8 = .ok (.iconst 0, 1) := by decide +kernel
theorem dX12_cheesesOf_9 : decode cX12_cheesesOf 9 = .ok (.ireturn, 1) := by decide +kernel
theorem dX12_cheesesOf_10 : decode cX12_cheesesOf 10 = .ok (.aload_n 0, 1) := by decide +kernel
theorem dX12_cheesesOf_11 : decode cX12_cheesesOf 11 = .ok (.getfield 7, 3) := by decide +kernel
theorem dX12_cheesesOf_14 : decode cX12_cheesesOf 14 = .ok (.iload_n 1, 1) := by decide +kernel
theorem dX12_cheesesOf_15 : decode cX12_cheesesOf 15 = .ok (.invokestatic 87, 3) := by decide +kernel
theorem dX12_cheesesOf_18 : decode cX12_cheesesOf 18 = .ok (.iconst 4, 1) := by decide +kernel
theorem dX12_cheesesOf_19 : decode cX12_cheesesOf 19 = .ok (.iadd, 1) := by decide +kernel
theorem dX12_cheesesOf_20 : decode cX12_cheesesOf 20 = .ok (.iaload, 1) := by decide +kernel
theorem dX12_cheesesOf_21 : decode cX12_cheesesOf 21 = .ok (.ireturn, 1) := by decide +kernel
theorem dX12_skew_0 : decode cX12_skew 0 = .ok (.aload_n 0, 1) := by decide +kernel
theorem dX12_skew_1 : decode cX12_skew 1 = .ok (.iload_n 1, 1) := by decide +kernel
theorem dX12_skew_2 : decode cX12_skew 2 = .ok (.invokevirtual 388, 3) := by decide +kernel
theorem dX12_skew_5 : decode cX12_skew 5 = .ok (.ifCond .ne 11, 3) := by decide +kernel
theorem dX12_skew_8 : decode cX12_skew 8 = .ok (.aload_n 0, 1) := by decide +kernel
theorem dX12_skew_9 : decode cX12_skew 9 = .ok (.iload_n 2, 1) := by decide +kernel
theorem dX12_skew_10 : decode cX12_skew 10 = .ok (.invokevirtual 378, 3) := by decide +kernel
theorem dX12_skew_13 : decode cX12_skew 13 = .ok (.ifCond .eq 5, 3) := by decide +kernel
theorem dX12_skew_16 : decode cX12_skew 16 = .ok (.iconst 0, 1) := by decide +kernel
theorem dX12_skew_17 : decode cX12_skew 17 = .ok (.ireturn, 1) := by decide +kernel
theorem dX12_skew_18 : decode cX12_skew 18 = .ok (.aload_n 0, 1) := by decide +kernel
theorem dX12_skew_19 : decode cX12_skew 19 = .ok (.getfield 7, 3) := by decide +kernel
theorem dX12_skew_22 : decode cX12_skew 22 = .ok (.iload_n 1, 1) := by decide +kernel
theorem dX12_skew_23 : decode cX12_skew 23 = .ok (.iload_n 2, 1) := by decide +kernel
theorem dX12_skew_24 : decode cX12_skew 24 = .ok (.invokestatic 94, 3) := by decide +kernel
theorem dX12_skew_27 : decode cX12_skew 27 = .ok (.ireturn, 1) := by decide +kernel
theorem dX12_realmOfService_0 : decode cX12_realmOfService 0 = .ok (.aload_n 0, 1) := by decide +kernel
theorem dX12_realmOfService_1 : decode cX12_realmOfService 1 = .ok (.iload_n 1, 1) := by decide +kernel
theorem dX12_realmOfService_2 : decode cX12_realmOfService 2 = .ok (.invokevirtual 391, 3) := by decide +kernel
theorem dX12_realmOfService_5 : decode cX12_realmOfService 5 = .ok (.ifCond .eq 5, 3) := by decide +kernel
theorem dX12_realmOfService_8 : decode cX12_realmOfService 8 = .ok (.iconst 0, 1) := by decide +kernel
theorem dX12_realmOfService_9 : decode cX12_realmOfService 9 = .ok (.ireturn, 1) := by decide +kernel
theorem dX12_realmOfService_10 : decode cX12_realmOfService 10 = .ok (.aload_n 0, 1) := by decide +kernel
theorem dX12_realmOfService_11 : decode cX12_realmOfService 11 = .ok (.getfield 7, 3) := by decide +kernel
theorem dX12_realmOfService_14 : decode cX12_realmOfService 14 = .ok (.iload_n 1, 1) := by decide +kernel
theorem dX12_realmOfService_15 : decode cX12_realmOfService 15 = .ok (.invokestatic 122, 3) := by decide +kernel
theorem dX12_realmOfService_18 : decode cX12_realmOfService 18 = .ok (.iconst 1, 1) := by decide +kernel
theorem dX12_realmOfService_19 : decode cX12_realmOfService 19 = .ok (.iadd, 1) := by decide +kernel
theorem dX12_realmOfService_20 : decode cX12_realmOfService 20 = .ok (.iaload, 1) := by decide +kernel
theorem dX12_realmOfService_21 : decode cX12_realmOfService 21 = .ok (.ireturn, 1) := by decide +kernel
theorem dX12_cheesesLeft_0 : decode cX12_cheesesLeft 0 = .ok (.aload_n 0, 1) := by decide +kernel
theorem dX12_cheesesLeft_1 : decode cX12_cheesesLeft 1 = .ok (.iload_n 1, 1) := by decide +kernel
theorem dX12_cheesesLeft_2 : decode cX12_cheesesLeft 2 = .ok (.invokevirtual 391, 3) := by decide +kernel
theorem dX12_cheesesLeft_5 : decode cX12_cheesesLeft 5 = .ok (.ifCond .eq 5, 3) := by decide +kernel
theorem dX12_cheesesLeft_8 : decode cX12_cheesesLeft 8 = .ok (.iconst 0, 1) := by decide +kernel
theorem dX12_cheesesLeft_9 : decode cX12_cheesesLeft 9 = .ok (.ireturn, 1) := by decide +kernel
theorem dX12_cheesesLeft_10 : decode cX12_cheesesLeft 10 = .ok (.aload_n 0, 1) := by decide +kernel
theorem dX12_cheesesLeft_11 : decode cX12_cheesesLeft 11 = .ok (.getfield 7, 3) := by decide +kernel
theorem dX12_cheesesLeft_14 : decode cX12_cheesesLeft 14 = .ok (.iload_n 1, 1) := by decide +kernel
theorem dX12_cheesesLeft_15 : decode cX12_cheesesLeft 15 = .ok (.invokestatic 122, 3) := by decide +kernel
theorem dX12_cheesesLeft_18 : decode cX12_cheesesLeft 18 = .ok (.iconst 2, 1) := by decide +kernel
theorem dX12_cheesesLeft_19 : decode cX12_cheesesLeft 19 = .ok (.iadd, 1) := by decide +kernel
theorem dX12_cheesesLeft_20 : decode cX12_cheesesLeft 20 = .ok (.iaload, 1) := by decide +kernel
theorem dX12_cheesesLeft_21 : decode cX12_cheesesLeft 21 = .ok (.ireturn, 1) := by decide +kernel
theorem dX12_ticketCount_0 : decode cX12_ticketCount 0 = .ok (.aload_n 0, 1) := by decide +kernel
theorem dX12_ticketCount_1 : decode cX12_ticketCount 1 = .ok (.iconst 0, 1) := by decide +kernel
theorem dX12_ticketCount_2 : decode cX12_ticketCount 2 = .ok (.putfield 72, 3) := by decide +kernel
theorem dX12_ticketCount_5 : decode cX12_ticketCount 5 = .ok (.aload_n 0, 1) := by decide +kernel
theorem dX12_ticketCount_6 : decode cX12_ticketCount 6 = .ok (.getfield 7, 3) := by decide +kernel
theorem dX12_ticketCount_9 : decode cX12_ticketCount 9 = .ok (.bipush 6, 2) := by decide +kernel
theorem dX12_ticketCount_11 : decode cX12_ticketCount 11 = .ok (.iaload, 1) := by decide +kernel
theorem dX12_ticketCount_12 : decode cX12_ticketCount 12 = .ok (.ireturn, 1) := by decide +kernel
theorem dX12_ticketAt_0 : decode cX12_ticketAt 0 = .ok (.aload_n 0, 1) := by decide +kernel
theorem dX12_ticketAt_1 : decode cX12_ticketAt 1 = .ok (.iload_n 1, 1) := by decide +kernel
theorem dX12_ticketAt_2 : decode cX12_ticketAt 2 = .ok (.iconst 0, 1) := by decide +kernel
theorem dX12_ticketAt_3 : decode cX12_ticketAt 3 = .ok (.aload_n 0, 1) := by decide +kernel
theorem dX12_ticketAt_4 : decode cX12_ticketAt 4 = .ok (.getfield 7, 3) := by decide +kernel
theorem dX12_ticketAt_7 : decode cX12_ticketAt 7 = .ok (.bipush 6, 2) := by decide +kernel
theorem dX12_ticketAt_9 : decode cX12_ticketAt 9 = .ok (.iaload, 1) := by decide +kernel
theorem dX12_ticketAt_10 : decode cX12_ticketAt 10 = .ok (.iconst 1, 1) := by decide +kernel
theorem dX12_ticketAt_11 : decode cX12_ticketAt 11 = .ok (.isub, 1) := by decide +kernel
theorem dX12_ticketAt_12 : decode cX12_ticketAt 12 = .ok (.invokevirtual 160, 3) := by decide +kernel
theorem dX12_ticketAt_15 : decode cX12_ticketAt 15 = .ok (.ifCond .eq 5, 3) := by decide +kernel
theorem dX12_ticketAt_18 : decode cX12_ticketAt 18 = .ok (.iconst 0, 1) := by decide +kernel
theorem dX12_ticketAt_19 : decode cX12_ticketAt 19 = .ok (.ireturn, 1) := by decide +kernel
theorem dX12_ticketAt_20 : decode cX12_ticketAt 20 = .ok (.aload_n 0, 1) := by decide +kernel
theorem dX12_ticketAt_21 : decode cX12_ticketAt 21 = .ok (.getfield 7, 3) := by decide +kernel
theorem dX12_ticketAt_24 : decode cX12_ticketAt 24 = .ok (.iload_n 1, 1) := by decide +kernel
theorem dX12_ticketAt_25 : decode cX12_ticketAt 25 = .ok (.invokestatic 98, 3) := by decide +kernel
theorem dX12_ticketAt_28 : decode cX12_ticketAt 28 = .ok (.iconst 0, 1) := by decide +kernel
theorem dX12_ticketAt_29 : decode cX12_ticketAt 29 = .ok (.iadd, 1) := by decide +kernel
theorem dX12_ticketAt_30 : decode cX12_ticketAt 30 = .ok (.iaload, 1) := by decide +kernel
theorem dX12_ticketAt_31 : decode cX12_ticketAt 31 = .ok (.ireturn, 1) := by decide +kernel
theorem dX12_ofIt_0 : decode cX12_ofIt 0 = .ok (.aload_n 0, 1) := by decide +kernel
theorem dX12_ofIt_1 : decode cX12_ofIt 1 = .ok (.iload_n 1, 1) := by decide +kernel
theorem dX12_ofIt_2 : decode cX12_ofIt 2 = .ok (.invokevirtual 394, 3) := by decide +kernel
theorem dX12_ofIt_5 : decode cX12_ofIt 5 = .ok (.ifCond .eq 5, 3) := by decide +kernel
theorem dX12_ofIt_8 : decode cX12_ofIt 8 = .ok (.iconst 0, 1) := by decide +kernel
theorem dX12_ofIt_9 : decode cX12_ofIt 9 = .ok (.ireturn, 1) := by decide +kernel
theorem dX12_ofIt_10 : decode cX12_ofIt 10 = .ok (.aload_n 0, 1) := by decide +kernel
theorem dX12_ofIt_11 : decode cX12_ofIt 11 = .ok (.getfield 7, 3) := by decide +kernel
theorem dX12_ofIt_14 : decode cX12_ofIt 14 = .ok (.aload_n 0, 1) := by decide +kernel
theorem dX12_ofIt_15 : decode cX12_ofIt 15 = .ok (.getfield 7, 3) := by decide +kernel
theorem dX12_ofIt_18 : decode cX12_ofIt 18 = .ok (.iload_n 1, 1) := by decide +kernel
theorem dX12_ofIt_19 : decode cX12_ofIt 19 = .ok (.invokestatic 226, 3) := by decide +kernel
theorem dX12_ofIt_22 : decode cX12_ofIt 22 = .ok (.invokestatic 98, 3) := by decide +kernel
theorem dX12_ofIt_25 : decode cX12_ofIt 25 = .ok (.iload_n 2, 1) := by decide +kernel
theorem dX12_ofIt_26 : decode cX12_ofIt 26 = .ok (.iadd, 1) := by decide +kernel
theorem dX12_ofIt_27 : decode cX12_ofIt 27 = .ok (.iaload, 1) := by decide +kernel
theorem dX12_ofIt_28 : decode cX12_ofIt 28 = .ok (.ireturn, 1) := by decide +kernel
theorem dX12_kindOf_0 : decode cX12_kindOf 0 = .ok (.aload_n 0, 1) := by decide +kernel
theorem dX12_kindOf_1 : decode cX12_kindOf 1 = .ok (.iload_n 1, 1) := by decide +kernel
theorem dX12_kindOf_2 : decode cX12_kindOf 2 = .ok (.iconst 1, 1) := by decide +kernel
theorem dX12_kindOf_3 : decode cX12_kindOf 3 = .ok (.invokevirtual 397, 3) := by decide +kernel
theorem dX12_kindOf_6 : decode cX12_kindOf 6 = .ok (.ireturn, 1) := by decide +kernel
theorem dX12_ownerOf_0 : decode cX12_ownerOf 0 = .ok (.aload_n 0, 1) := by decide +kernel
theorem dX12_ownerOf_1 : decode cX12_ownerOf 1 = .ok (.iload_n 1, 1) := by decide +kernel
theorem dX12_ownerOf_2 : decode cX12_ownerOf 2 = .ok (.iconst 2, 1) := by decide +kernel
theorem dX12_ownerOf_3 : decode cX12_ownerOf 3 = .ok (.invokevirtual 397, 3) := by decide +kernel
theorem dX12_ownerOf_6 : decode cX12_ownerOf 6 = .ok (.ireturn, 1) := by decide +kernel
theorem dX12_realmOf_0 : decode cX12_realmOf 0 = .ok (.aload_n 0, 1) := by decide +kernel
theorem dX12_realmOf_1 : decode cX12_realmOf 1 = .ok (.iload_n 1, 1) := by decide +kernel
theorem dX12_realmOf_2 : decode cX12_realmOf 2 = .ok (.iconst 3, 1) := by decide +kernel
theorem dX12_realmOf_3 : decode cX12_realmOf 3 = .ok (.invokevirtual 397, 3) := by decide +kernel
theorem dX12_realmOf_6 : decode cX12_realmOf 6 = .ok (.ireturn, 1) := by decide +kernel
theorem dX12_serviceOf_0 : decode cX12_serviceOf 0 = .ok (.aload_n 0, 1) := by decide +kernel
theorem dX12_serviceOf_1 : decode cX12_serviceOf 1 = .ok (.iload_n 1, 1) := by decide +kernel
theorem dX12_serviceOf_2 : decode cX12_serviceOf 2 = .ok (.iconst 4, 1) := by decide +kernel
theorem dX12_serviceOf_3 : decode cX12_serviceOf 3 = .ok (.invokevirtual 397, 3) := by decide +kernel
theorem dX12_serviceOf_6 : decode cX12_serviceOf 6 = .ok (.ireturn, 1) := by decide +kernel
theorem dX12_startOf_0 : decode cX12_startOf 0 = .ok (.aload_n 0, 1) := by decide +kernel
theorem dX12_startOf_1 : decode cX12_startOf 1 = .ok (.iload_n 1, 1) := by decide +kernel
theorem dX12_startOf_2 : decode cX12_startOf 2 = .ok (.iconst 5, 1) := by decide +kernel
theorem dX12_startOf_3 : decode cX12_startOf 3 = .ok (.invokevirtual 397, 3) := by decide +kernel
theorem dX12_startOf_6 : decode cX12_startOf 6 = .ok (.ireturn, 1) := by decide +kernel
theorem dX12_endOf_0 : decode cX12_endOf 0 = .ok (.aload_n 0, 1) := by decide +kernel
theorem dX12_endOf_1 : decode cX12_endOf 1 = .ok (.iload_n 1, 1) := by decide +kernel
theorem dX12_endOf_2 : decode cX12_endOf 2 = .ok (.bipush 6, 2) := by decide +kernel
theorem dX12_endOf_4 : decode cX12_endOf 4 = .ok (.invokevirtual 397, 3) := by decide +kernel
theorem dX12_endOf_7 : decode cX12_endOf 7 = .ok (.ireturn, 1) := by decide +kernel
theorem dX12_lastEndOf_0 : decode cX12_lastEndOf 0 = .ok (.aload_n 0, 1) := by decide +kernel
theorem dX12_lastEndOf_1 : decode cX12_lastEndOf 1 = .ok (.iload_n 1, 1) := by decide +kernel
theorem dX12_lastEndOf_2 : decode cX12_lastEndOf 2 = .ok (.bipush 7, 2) := by decide +kernel
theorem dX12_lastEndOf_4 : decode cX12_lastEndOf 4 = .ok (.invokevirtual 397, 3) := by decide +kernel
theorem dX12_lastEndOf_7 : decode cX12_lastEndOf 7 = .ok (.ireturn, 1) := by decide +kernel
theorem dX12_keyOf_0 : decode cX12_keyOf 0 = .ok (.aload_n 0, 1) := by decide +kernel
theorem dX12_keyOf_1 : decode cX12_keyOf 1 = .ok (.iload_n 1, 1) := by decide +kernel
theorem dX12_keyOf_2 : decode cX12_keyOf 2 = .ok (.bipush 8, 2) := by decide +kernel
theorem dX12_keyOf_4 : decode cX12_keyOf 4 = .ok (.invokevirtual 397, 3) := by decide +kernel
theorem dX12_keyOf_7 : decode cX12_keyOf 7 = .ok (.ireturn, 1) := by decide +kernel
theorem dX12_isRenewable_0 : decode cX12_isRenewable 0 = .ok (.aload_n 0, 1) := by decide +kernel
theorem dX12_isRenewable_1 : decode cX12_isRenewable 1 = .ok (.iload_n 1, 1) := by decide +kernel
theorem dX12_isRenewable_2 : decode cX12_isRenewable 2 = .ok (.bipush 9, 2) := by decide +kernel
theorem dX12_isRenewable_4 : decode cX12_isRenewable 4 = .ok (.invokevirtual 397, 3) := by decide +kernel
theorem dX12_isRenewable_7 : decode cX12_isRenewable 7 = .ok (.iconst 1, 1) := by decide +kernel
theorem dX12_isRenewable_8 : decode cX12_isRenewable 8 = .ok (.if_icmp .ne 7, 3) := by decide +kernel
theorem dX12_isRenewable_11 : decode cX12_isRenewable 11 = .ok (.iconst 1, 1) := by decide +kernel
theorem dX12_isRenewable_12 : decode cX12_isRenewable 12 = .ok (.goto 4, 3) := by decide +kernel
theorem dX12_isRenewable_15 : decode cX12_isRenewable 15 = .ok (.iconst 0, 1) := by decide +kernel
theorem dX12_isRenewable_16 : decode cX12_isRenewable 16 = .ok (.ireturn, 1) := by decide +kernel
theorem dX12_isValid_0 : decode cX12_isValid 0 = .ok (.aload_n 0, 1) := by decide +kernel
theorem dX12_isValid_1 : decode cX12_isValid 1 = .ok (.iload_n 1, 1) := by decide +kernel
theorem dX12_isValid_2 : decode cX12_isValid 2 = .ok (.invokevirtual 394, 3) := by decide +kernel
theorem dX12_isValid_5 : decode cX12_isValid 5 = .ok (.ifCond .eq 5, 3) := by decide +kernel
theorem dX12_isValid_8 : decode cX12_isValid 8 = .ok (.iconst 0, 1) := by decide +kernel
theorem dX12_isValid_9 : decode cX12_isValid 9 = .ok (.ireturn, 1) := by decide +kernel
theorem dX12_isValid_10 : decode cX12_isValid 10 = .ok (.aload_n 0, 1) := by decide +kernel
theorem dX12_isValid_11 : decode cX12_isValid 11 = .ok (.getfield 7, 3) := by decide +kernel
theorem dX12_isValid_14 : decode cX12_isValid 14 = .ok (.aload_n 0, 1) := by decide +kernel
theorem dX12_isValid_15 : decode cX12_isValid 15 = .ok (.getfield 7, 3) := by decide +kernel
theorem dX12_isValid_18 : decode cX12_isValid 18 = .ok (.iload_n 1, 1) := by decide +kernel
theorem dX12_isValid_19 : decode cX12_isValid 19 = .ok (.invokestatic 226, 3) := by decide +kernel
theorem dX12_isValid_22 : decode cX12_isValid 22 = .ok (.invokestatic 101, 3) := by decide +kernel
theorem dX12_isValid_25 : decode cX12_isValid 25 = .ok (.ireturn, 1) := by decide +kernel
theorem dX12_minutesLeft_0 : decode cX12_minutesLeft 0 = .ok (.aload_n 0, 1) := by decide +kernel
theorem dX12_minutesLeft_1 : decode cX12_minutesLeft 1 = .ok (.iload_n 1, 1) := by decide +kernel
theorem dX12_minutesLeft_2 : decode cX12_minutesLeft 2 = .ok (.invokevirtual 394, 3) := by decide +kernel
theorem dX12_minutesLeft_5 : decode cX12_minutesLeft 5 = .ok (.ifCond .eq 5, 3) := by decide +kernel
theorem dX12_minutesLeft_8 : decode cX12_minutesLeft 8 = .ok (.iconst 0, 1) := by decide +kernel
theorem dX12_minutesLeft_9 : decode cX12_minutesLeft 9 = .ok (.ireturn, 1) := by decide +kernel
theorem dX12_minutesLeft_10 : decode cX12_minutesLeft 10 = .ok (.iconst 0, 1) := by decide +kernel
theorem dX12_minutesLeft_11 : decode cX12_minutesLeft 11 = .ok (.aload_n 0, 1) := by decide +kernel
theorem dX12_minutesLeft_12 : decode cX12_minutesLeft 12 = .ok (.getfield 7, 3) := by decide +kernel
theorem dX12_minutesLeft_15 : decode cX12_minutesLeft 15 = .ok (.aload_n 0, 1) := by decide +kernel
theorem dX12_minutesLeft_16 : decode cX12_minutesLeft 16 = .ok (.getfield 7, 3) := by decide +kernel
theorem dX12_minutesLeft_19 : decode cX12_minutesLeft 19 = .ok (.iload_n 1, 1) := by decide +kernel
theorem dX12_minutesLeft_20 : decode cX12_minutesLeft 20 = .ok (.invokestatic 226, 3) := by decide +kernel
theorem dX12_minutesLeft_23 : decode cX12_minutesLeft 23 = .ok (.invokestatic 98, 3) := by decide +kernel
theorem dX12_minutesLeft_26 : decode cX12_minutesLeft 26 = .ok (.bipush 6, 2) := by decide +kernel
theorem dX12_minutesLeft_28 : decode cX12_minutesLeft 28 = .ok (.iadd, 1) := by decide +kernel
theorem dX12_minutesLeft_29 : decode cX12_minutesLeft 29 = .ok (.iaload, 1) := by decide +kernel
theorem dX12_minutesLeft_30 : decode cX12_minutesLeft 30 = .ok (.aload_n 0, 1) := by decide +kernel
theorem dX12_minutesLeft_31 : decode cX12_minutesLeft 31 = .ok (.getfield 7, 3) := by decide +kernel
theorem dX12_minutesLeft_34 : decode cX12_minutesLeft 34 = .ok (.iconst 0, 1) := by decide +kernel
theorem dX12_minutesLeft_35 : decode cX12_minutesLeft 35 = .ok (.iaload, 1) := by decide +kernel
theorem dX12_minutesLeft_36 : decode cX12_minutesLeft 36 = .ok (.isub, 1) := by decide +kernel
theorem dX12_minutesLeft_37 : decode cX12_minutesLeft 37 = .ok (.invokestatic 105, 3) := by decide +kernel
theorem dX12_minutesLeft_40 : decode cX12_minutesLeft 40 = .ok (.ireturn, 1) := by decide +kernel
theorem dX12_loginRefusal_0 : decode cX12_loginRefusal 0 = .ok (.aload_n 0, 1) := by decide +kernel
theorem dX12_loginRefusal_1 : decode cX12_loginRefusal 1 = .ok (.iload_n 1, 1) := by decide +kernel
theorem dX12_loginRefusal_2 : decode cX12_loginRefusal 2 = .ok (.invokevirtual 388, 3) := by decide +kernel
theorem dX12_loginRefusal_5 : decode cX12_loginRefusal 5 = .ok (.ifCond .ne 15, 3) := by decide +kernel
theorem dX12_loginRefusal_8 : decode cX12_loginRefusal 8 = .ok (.aload_n 0, 1) := by decide +kernel
theorem dX12_loginRefusal_9 : decode cX12_loginRefusal 9 = .ok (.iload_n 2, 1) := by decide +kernel
theorem dX12_loginRefusal_10 : decode cX12_loginRefusal 10 = .ok (.iconst 0, 1) := by decide +kernel
theorem dX12_loginRefusal_11 : decode cX12_loginRefusal 11 = .ok (.sipush 9999, 3) := by decide +kernel
theorem dX12_loginRefusal_14 : decode cX12_loginRefusal 14 = .ok (.invokevirtual 400, 3) := by decide +kernel
theorem dX12_loginRefusal_17 : decode cX12_loginRefusal 17 = .ok (.ifCond .eq 5, 3) := by decide +kernel
theorem dX12_loginRefusal_20 : decode cX12_loginRefusal 20 = .ok (.iconst 0, 1) := by decide +kernel
theorem dX12_loginRefusal_21 : decode cX12_loginRefusal 21 = .ok (.ireturn, 1) := by decide +kernel
theorem dX12_loginRefusal_22 : decode cX12_loginRefusal 22 = .ok (.aload_n 0, 1) := by decide +kernel
theorem dX12_loginRefusal_23 : decode cX12_loginRefusal 23 = .ok (.getfield 7, 3) := by decide +kernel
theorem dX12_loginRefusal_26 : decode cX12_loginRefusal 26 = .ok (.iload_n 1, 1) := by decide +kernel
theorem dX12_loginRefusal_27 : decode cX12_loginRefusal 27 = .ok (.iload_n 2, 1) := by decide +kernel
theorem dX12_loginRefusal_28 : decode cX12_loginRefusal 28 = .ok (.invokestatic 263, 3) := by decide +kernel
theorem dX12_loginRefusal_31 : decode cX12_loginRefusal 31 = .ok (.ireturn, 1) := by decide +kernel
theorem dX12_referRefusal_0 : decode cX12_referRefusal 0 = .ok (.aload_n 0, 1) := by decide +kernel
theorem dX12_referRefusal_1 : decode cX12_referRefusal 1 = .ok (.iload_n 1, 1) := by decide +kernel
theorem dX12_referRefusal_2 : decode cX12_referRefusal 2 = .ok (.invokevirtual 394, 3) := by decide +kernel
theorem dX12_referRefusal_5 : decode cX12_referRefusal 5 = .ok (.ifCond .ne 20, 3) := by decide +kernel
theorem dX12_referRefusal_8 : decode cX12_referRefusal 8 = .ok (.aload_n 0, 1) := by decide +kernel
theorem dX12_referRefusal_9 : decode cX12_referRefusal 9 = .ok (.iload_n 2, 1) := by decide +kernel
theorem dX12_referRefusal_10 : decode cX12_referRefusal 10 = .ok (.iconst 0, 1) := by decide +kernel
theorem dX12_referRefusal_11 : decode cX12_referRefusal 11 = .ok (.aload_n 0, 1) := by decide +kernel
theorem dX12_referRefusal_12 : decode cX12_referRefusal 12 = .ok (.getfield 7, 3) := by decide +kernel
theorem dX12_referRefusal_15 : decode cX12_referRefusal 15 = .ok (.iconst 3, 1) := by decide +kernel
theorem dX12_referRefusal_16 : decode cX12_referRefusal 16 = .ok (.iaload, 1) := by decide +kernel
theorem dX12_referRefusal_17 : decode cX12_referRefusal 17 = .ok (.iconst 1, 1) := by decide +kernel
theorem dX12_referRefusal_18 : decode cX12_referRefusal 18 = .ok (.isub, 1) := by decide +kernel
theorem dX12_referRefusal_19 : decode cX12_referRefusal 19 = .ok (.invokevirtual 400, 3) := by decide +kernel
theorem dX12_referRefusal_22 : decode cX12_referRefusal 22 = .ok (.ifCond .eq 5, 3) := by decide +kernel
theorem dX12_referRefusal_25 : decode cX12_referRefusal 25 = .ok (.iconst 0, 1) := by decide +kernel
theorem dX12_referRefusal_26 : decode cX12_referRefusal 26 = .ok (.ireturn, 1) := by decide +kernel
theorem dX12_referRefusal_27 : decode cX12_referRefusal 27 = .ok (.aload_n 0, 1) := by decide +kernel
theorem dX12_referRefusal_28 : decode cX12_referRefusal 28 = .ok (.getfield 7, 3) := by decide +kernel
theorem dX12_referRefusal_31 : decode cX12_referRefusal 31 = .ok (.aload_n 0, 1) := by decide +kernel
theorem dX12_referRefusal_32 : decode cX12_referRefusal 32 = .ok (.getfield 7, 3) := by decide +kernel
theorem dX12_referRefusal_35 : decode cX12_referRefusal 35 = .ok (.iload_n 1, 1) := by decide +kernel
theorem dX12_referRefusal_36 : decode cX12_referRefusal 36 = .ok (.invokestatic 226, 3) := by decide +kernel
theorem dX12_referRefusal_39 : decode cX12_referRefusal 39 = .ok (.iload_n 2, 1) := by decide +kernel
theorem dX12_referRefusal_40 : decode cX12_referRefusal 40 = .ok (.invokestatic 273, 3) := by decide +kernel
theorem dX12_referRefusal_43 : decode cX12_referRefusal 43 = .ok (.ireturn, 1) := by decide +kernel
theorem dX12_requestRefusal_0 : decode cX12_requestRefusal 0 = .ok (.aload_n 0, 1) := by decide +kernel
theorem dX12_requestRefusal_1 : decode cX12_requestRefusal 1 = .ok (.iload_n 1, 1) := by decide +kernel
theorem dX12_requestRefusal_2 : decode cX12_requestRefusal 2 = .ok (.invokevirtual 394, 3) := by decide +kernel
theorem dX12_requestRefusal_5 : decode cX12_requestRefusal 5 = .ok (.ifCond .ne 20, 3) := by decide +kernel
theorem dX12_requestRefusal_8 : decode cX12_requestRefusal 8 = .ok (.aload_n 0, 1) := by decide +kernel
theorem dX12_requestRefusal_9 : decode cX12_requestRefusal 9 = .ok (.iload_n 2, 1) := by decide +kernel
theorem dX12_requestRefusal_10 : decode cX12_requestRefusal 10 = .ok (.iconst 0, 1) := by decide +kernel
theorem dX12_requestRefusal_11 : decode cX12_requestRefusal 11 = .ok (.aload_n 0, 1) := by decide +kernel
theorem dX12_requestRefusal_12 : decode cX12_requestRefusal 12 = .ok (.getfield 7, 3) := by decide +kernel
theorem dX12_requestRefusal_15 : decode cX12_requestRefusal 15 = .ok (.iconst 5, 1) := by decide +kernel
theorem dX12_requestRefusal_16 : decode cX12_requestRefusal 16 = .ok (.iaload, 1) := by decide +kernel
theorem dX12_requestRefusal_17 : decode cX12_requestRefusal 17 = .ok (.iconst 1, 1) := by decide +kernel
theorem dX12_requestRefusal_18 : decode cX12_requestRefusal 18 = .ok (.isub, 1) := by decide +kernel
theorem dX12_requestRefusal_19 : decode cX12_requestRefusal 19 = .ok (.invokevirtual 400, 3) := by decide +kernel
theorem dX12_requestRefusal_22 : decode cX12_requestRefusal 22 = .ok (.ifCond .eq 5, 3) := by decide +kernel
theorem dX12_requestRefusal_25 : decode cX12_requestRefusal 25 = .ok (.iconst 0, 1) := by decide +kernel
theorem dX12_requestRefusal_26 : decode cX12_requestRefusal 26 = .ok (.ireturn, 1) := by decide +kernel
theorem dX12_requestRefusal_27 : decode cX12_requestRefusal 27 = .ok (.aload_n 0, 1) := by decide +kernel
theorem dX12_requestRefusal_28 : decode cX12_requestRefusal 28 = .ok (.getfield 7, 3) := by decide +kernel
theorem dX12_requestRefusal_31 : decode cX12_requestRefusal 31 = .ok (.aload_n 0, 1) := by decide +kernel
theorem dX12_requestRefusal_32 : decode cX12_requestRefusal 32 = .ok (.getfield 7, 3) := by decide +kernel
theorem dX12_requestRefusal_35 : decode cX12_requestRefusal 35 = .ok (.iload_n 1, 1) := by decide +kernel
theorem dX12_requestRefusal_36 : decode cX12_requestRefusal 36 = .ok (.invokestatic 226, 3) := by decide +kernel
theorem dX12_requestRefusal_39 : decode cX12_requestRefusal 39 = .ok (.iload_n 2, 1) := by decide +kernel
theorem dX12_requestRefusal_40 : decode cX12_requestRefusal 40 = .ok (.invokestatic 283, 3) := by decide +kernel
theorem dX12_requestRefusal_43 : decode cX12_requestRefusal 43 = .ok (.ireturn, 1) := by decide +kernel
theorem dX12_renewRefusal_0 : decode cX12_renewRefusal 0 = .ok (.aload_n 0, 1) := by decide +kernel
theorem dX12_renewRefusal_1 : decode cX12_renewRefusal 1 = .ok (.iload_n 1, 1) := by decide +kernel
theorem dX12_renewRefusal_2 : decode cX12_renewRefusal 2 = .ok (.invokevirtual 394, 3) := by decide +kernel
theorem dX12_renewRefusal_5 : decode cX12_renewRefusal 5 = .ok (.ifCond .eq 5, 3) := by decide +kernel
theorem dX12_renewRefusal_8 : decode cX12_renewRefusal 8 = .ok (.iconst 0, 1) := by decide +kernel
theorem dX12_renewRefusal_9 : decode cX12_renewRefusal 9 = .ok (.ireturn, 1) := by decide +kernel
theorem dX12_renewRefusal_10 : decode cX12_renewRefusal 10 = .ok (.aload_n 0, 1) := by decide +kernel
theorem dX12_renewRefusal_11 : decode cX12_renewRefusal 11 = .ok (.getfield 7, 3) := by decide +kernel
theorem dX12_renewRefusal_14 : decode cX12_renewRefusal 14 = .ok (.aload_n 0, 1) := by decide +kernel
theorem dX12_renewRefusal_15 : decode cX12_renewRefusal 15 = .ok (.getfield 7, 3) := by decide +kernel
theorem dX12_renewRefusal_18 : decode cX12_renewRefusal 18 = .ok (.iload_n 1, 1) := by decide +kernel
theorem dX12_renewRefusal_19 : decode cX12_renewRefusal 19 = .ok (.invokestatic 226, 3) := by decide +kernel
theorem dX12_renewRefusal_22 : decode cX12_renewRefusal 22 = .ok (.invokestatic 286, 3) := by decide +kernel
theorem dX12_renewRefusal_25 : decode cX12_renewRefusal 25 = .ok (.ireturn, 1) := by decide +kernel
theorem dX12_cheeseRefusal_0 : decode cX12_cheeseRefusal 0 = .ok (.aload_n 0, 1) := by decide +kernel
theorem dX12_cheeseRefusal_1 : decode cX12_cheeseRefusal 1 = .ok (.iload_n 1, 1) := by decide +kernel
theorem dX12_cheeseRefusal_2 : decode cX12_cheeseRefusal 2 = .ok (.invokevirtual 394, 3) := by decide +kernel
theorem dX12_cheeseRefusal_5 : decode cX12_cheeseRefusal 5 = .ok (.ifCond .eq 5, 3) := by decide +kernel
theorem dX12_cheeseRefusal_8 : decode cX12_cheeseRefusal 8 = .ok (.iconst 0, 1) := by decide +kernel
theorem dX12_cheeseRefusal_9 : decode cX12_cheeseRefusal 9 = .ok (.ireturn, 1) := by decide +kernel
theorem dX12_cheeseRefusal_10 : decode cX12_cheeseRefusal 10 = .ok (.aload_n 0, 1) := by decide +kernel
theorem dX12_cheeseRefusal_11 : decode cX12_cheeseRefusal 11 = .ok (.getfield 7, 3) := by decide +kernel
theorem dX12_cheeseRefusal_14 : decode cX12_cheeseRefusal 14 = .ok (.aload_n 0, 1) := by decide +kernel
theorem dX12_cheeseRefusal_15 : decode cX12_cheeseRefusal 15 = .ok (.getfield 7, 3) := by decide +kernel
theorem dX12_cheeseRefusal_18 : decode cX12_cheeseRefusal 18 = .ok (.iload_n 1, 1) := by decide +kernel
theorem dX12_cheeseRefusal_19 : decode cX12_cheeseRefusal 19 = .ok (.invokestatic 226, 3) := by decide +kernel
theorem dX12_cheeseRefusal_22 : decode cX12_cheeseRefusal 22 = .ok (.invokestatic 292, 3) := by decide +kernel
theorem dX12_cheeseRefusal_25 : decode cX12_cheeseRefusal 25 = .ok (.ireturn, 1) := by decide +kernel
theorem dX12_validTickets_0 : decode cX12_validTickets 0 = .ok (.aload_n 0, 1) := by decide +kernel
theorem dX12_validTickets_1 : decode cX12_validTickets 1 = .ok (.iconst 0, 1) := by decide +kernel
theorem dX12_validTickets_2 : decode cX12_validTickets 2 = .ok (.putfield 72, 3) := by decide +kernel
theorem dX12_validTickets_5 : decode cX12_validTickets 5 = .ok (.aload_n 0, 1) := by decide +kernel
theorem dX12_validTickets_6 : decode cX12_validTickets 6 = .ok (.getfield 7, 3) := by decide +kernel
theorem dX12_validTickets_9 : decode cX12_validTickets 9 = .ok (.invokestatic 145, 3) := by decide +kernel
theorem dX12_validTickets_12 : decode cX12_validTickets 12 = .ok (.ireturn, 1) := by decide +kernel
theorem dX12_validAfter_0 : decode cX12_validAfter 0 = .ok (.aload_n 0, 1) := by decide +kernel
theorem dX12_validAfter_1 : decode cX12_validAfter 1 = .ok (.iload_n 1, 1) := by decide +kernel
theorem dX12_validAfter_2 : decode cX12_validAfter 2 = .ok (.iconst 0, 1) := by decide +kernel
theorem dX12_validAfter_3 : decode cX12_validAfter 3 = .ok (.sipush 999, 3) := by decide +kernel
theorem dX12_validAfter_6 : decode cX12_validAfter 6 = .ok (.invokevirtual 160, 3) := by decide +kernel
theorem dX12_validAfter_9 : decode cX12_validAfter 9 = .ok (.ifCond .eq 5, 3) := by decide +kernel
theorem dX12_validAfter_12 : decode cX12_validAfter 12 = .ok (.iconst 0, 1) := by decide +kernel
theorem dX12_validAfter_13 : decode cX12_validAfter 13 = .ok (.ireturn, 1) := by decide +kernel
theorem dX12_validAfter_14 : decode cX12_validAfter 14 = .ok (.aload_n 0, 1) := by decide +kernel
theorem dX12_validAfter_15 : decode cX12_validAfter 15 = .ok (.getfield 7, 3) := by decide +kernel
theorem dX12_validAfter_18 : decode cX12_validAfter 18 = .ok (.iconst 0, 1) := by decide +kernel
theorem dX12_validAfter_19 : decode cX12_validAfter 19 = .ok (.aload_n 0, 1) := by decide +kernel
theorem dX12_validAfter_20 : decode cX12_validAfter 20 = .ok (.getfield 16, 3) := by decide +kernel
theorem dX12_validAfter_23 : decode cX12_validAfter 23 = .ok (.iconst 0, 1) := by decide +kernel
theorem dX12_validAfter_24 : decode cX12_validAfter 24 = .ok (.invokestatic 58, 3) := by decide +kernel
theorem dX12_validAfter_27 : decode cX12_validAfter 27 = .ok (.aload_n 0, 1) := by decide +kernel
theorem dX12_validAfter_28 : decode cX12_validAfter 28 = .ok (.getfield 16, 3) := by decide +kernel
theorem dX12_validAfter_31 : decode cX12_validAfter 31 = .ok (.iconst 0, 1) := by decide +kernel
theorem dX12_validAfter_32 : decode cX12_validAfter 32 = .ok (.dup2, 1) := by decide +kernel
theorem dX12_validAfter_33 : decode cX12_validAfter 33 = .ok (.iaload, 1) := by decide +kernel
theorem dX12_validAfter_34 : decode cX12_validAfter 34 = .ok (.iload_n 1, 1) := by decide +kernel
theorem dX12_validAfter_35 : decode cX12_validAfter 35 = .ok (.iadd, 1) := by decide +kernel
theorem dX12_validAfter_36 : decode cX12_validAfter 36 = .ok (.iastore, 1) := by decide +kernel
theorem dX12_validAfter_37 : decode cX12_validAfter 37 = .ok (.aload_n 0, 1) := by decide +kernel
theorem dX12_validAfter_38 : decode cX12_validAfter 38 = .ok (.getfield 16, 3) := by decide +kernel
theorem dX12_validAfter_41 : decode cX12_validAfter 41 = .ok (.invokestatic 145, 3) := by decide +kernel
theorem dX12_validAfter_44 : decode cX12_validAfter 44 = .ok (.ireturn, 1) := by decide +kernel
theorem dX12_minutesUntilCheese_0 : decode cX12_minutesUntilCheese 0 = .ok (.aload_n 0, 1) := by decide +kernel
theorem dX12_minutesUntilCheese_1 : decode cX12_minutesUntilCheese 1 = .ok (.iload_n 1, 1) := by decide +kernel
theorem dX12_minutesUntilCheese_2 : decode cX12_minutesUntilCheese 2 = .ok (.invokevirtual 394, 3) := by decide +kernel
theorem dX12_minutesUntilCheese_5 : decode cX12_minutesUntilCheese 5 = .ok (.ifCond .eq 5, 3) := by decide +kernel
theorem dX12_minutesUntilCheese_8 : decode cX12_minutesUntilCheese 8 = .ok (.iconst 0, 1) := by decide +kernel
theorem dX12_minutesUntilCheese_9 : decode cX12_minutesUntilCheese 9 = .ok (.ireturn, 1) := by decide +kernel
theorem dX12_minutesUntilCheese_10 : decode cX12_minutesUntilCheese 10 = .ok (.aload_n 0, 1) := by decide +kernel
theorem dX12_minutesUntilCheese_11 : decode cX12_minutesUntilCheese 11 = .ok (.getfield 7, 3) := by decide +kernel
theorem dX12_minutesUntilCheese_14 : decode cX12_minutesUntilCheese 14 = .ok (.iconst 0, 1) := by decide +kernel
theorem dX12_minutesUntilCheese_15 : decode cX12_minutesUntilCheese 15 = .ok (.aload_n 0, 1) := by decide +kernel
theorem dX12_minutesUntilCheese_16 : decode cX12_minutesUntilCheese 16 = .ok (.getfield 16, 3) := by decide +kernel
theorem dX12_minutesUntilCheese_19 : decode cX12_minutesUntilCheese 19 = .ok (.iconst 0, 1) := by decide +kernel
theorem dX12_minutesUntilCheese_20 : decode cX12_minutesUntilCheese 20 = .ok (.invokestatic 58, 3) := by decide +kernel
theorem dX12_minutesUntilCheese_23 : decode cX12_minutesUntilCheese 23 = .ok (.iconst 0, 1) := by decide +kernel
theorem dX12_minutesUntilCheese_24 : decode cX12_minutesUntilCheese 24 = .ok (.istore_n 2, 1) := by decide +kernel
theorem dX12_minutesUntilCheese_25 : decode cX12_minutesUntilCheese 25 = .ok (.iload_n 2, 1) := by decide +kernel
theorem dX12_minutesUntilCheese_26 : decode cX12_minutesUntilCheese 26 = .ok (.bipush 20, 2) := by decide +kernel
theorem dX12_minutesUntilCheese_28 : decode cX12_minutesUntilCheese 28 = .ok (.if_icmp .gt 46, 3) := by decide +kernel
theorem dX12_minutesUntilCheese_31 : decode cX12_minutesUntilCheese 31 = .ok (.aload_n 0, 1) := by decide +kernel
theorem dX12_minutesUntilCheese_32 : decode cX12_minutesUntilCheese 32 = .ok (.getfield 16, 3) := by decide +kernel
theorem dX12_minutesUntilCheese_35 : decode cX12_minutesUntilCheese 35 = .ok (.aload_n 0, 1) := by decide +kernel
theorem dX12_minutesUntilCheese_36 : decode cX12_minutesUntilCheese 36 = .ok (.getfield 16, 3) := by decide +kernel
theorem dX12_minutesUntilCheese_39 : decode cX12_minutesUntilCheese 39 = .ok (.iload_n 1, 1) := by decide +kernel
theorem dX12_minutesUntilCheese_40 : decode cX12_minutesUntilCheese 40 = .ok (.invokestatic 226, 3) := by decide +kernel
theorem dX12_minutesUntilCheese_43 : decode cX12_minutesUntilCheese 43 = .ok (.invokestatic 292, 3) := by decide +kernel
theorem dX12_minutesUntilCheese_46 : decode cX12_minutesUntilCheese 46 = .ok (.ifCond .ne 5, 3) := by decide +kernel
theorem dX12_minutesUntilCheese_49 : decode cX12_minutesUntilCheese 49 = .ok (.iload_n 2, 1) := by decide +kernel
theorem dX12_minutesUntilCheese_50 : decode cX12_minutesUntilCheese 50 = .ok (.ireturn, 1) := by decide +kernel
theorem dX12_minutesUntilCheese_51 : decode cX12_minutesUntilCheese 51 = .ok (.aload_n 0, 1) := by decide +kernel
theorem dX12_minutesUntilCheese_52 : decode cX12_minutesUntilCheese 52 = .ok (.getfield 16, 3) := by decide +kernel
theorem dX12_minutesUntilCheese_55 : decode cX12_minutesUntilCheese 55 = .ok (.iconst 0, 1) := by decide +kernel
theorem dX12_minutesUntilCheese_56 : decode cX12_minutesUntilCheese 56 = .ok (.dup2, 1) := by decide +kernel
theorem dX12_minutesUntilCheese_57 : decode cX12_minutesUntilCheese 57 = .ok (.iaload, 1) := by decide +kernel
theorem dX12_minutesUntilCheese_58 : decode cX12_minutesUntilCheese 58 = .ok (.iconst 1, 1) := by decide +kernel
theorem dX12_minutesUntilCheese_59 : decode cX12_minutesUntilCheese 59 = .ok (.iadd, 1) := by decide +kernel
theorem dX12_minutesUntilCheese_60 : decode cX12_minutesUntilCheese 60 = .ok (.iastore, 1) := by decide +kernel
theorem dX12_minutesUntilCheese_61 : decode cX12_minutesUntilCheese 61 = .ok (.aload_n 0, 1) := by decide +kernel
theorem dX12_minutesUntilCheese_62 : decode cX12_minutesUntilCheese 62 = .ok (.getfield 16, 3) := by decide +kernel
theorem dX12_minutesUntilCheese_65 : decode cX12_minutesUntilCheese 65 = .ok (.invokestatic 148, 3) := by decide +kernel
theorem dX12_minutesUntilCheese_68 : decode cX12_minutesUntilCheese 68 = .ok (.iinc 2 1, 3) := by decide +kernel
theorem dX12_minutesUntilCheese_71 : decode cX12_minutesUntilCheese 71 = .ok (.goto (-46), 3) := by decide +kernel
theorem dX12_minutesUntilCheese_74 : decode cX12_minutesUntilCheese 74 = .ok (.iconst (-1), 1) := by decide +kernel
theorem dX12_minutesUntilCheese_75 : decode cX12_minutesUntilCheese 75 = .ok (.ireturn, 1) := by decide +kernel
theorem dX12_bestTicket_0 : decode cX12_bestTicket 0 = .ok (.aload_n 0, 1) := by decide +kernel
theorem dX12_bestTicket_1 : decode cX12_bestTicket 1 = .ok (.iload_n 1, 1) := by decide +kernel
theorem dX12_bestTicket_2 : decode cX12_bestTicket 2 = .ok (.invokevirtual 388, 3) := by decide +kernel
theorem dX12_bestTicket_5 : decode cX12_bestTicket 5 = .ok (.ifCond .ne 11, 3) := by decide +kernel
theorem dX12_bestTicket_8 : decode cX12_bestTicket 8 = .ok (.aload_n 0, 1) := by decide +kernel
theorem dX12_bestTicket_9 : decode cX12_bestTicket 9 = .ok (.iload_n 2, 1) := by decide +kernel
theorem dX12_bestTicket_10 : decode cX12_bestTicket 10 = .ok (.invokevirtual 391, 3) := by decide +kernel
theorem dX12_bestTicket_13 : decode cX12_bestTicket 13 = .ok (.ifCond .eq 5, 3) := by decide +kernel
theorem dX12_bestTicket_16 : decode cX12_bestTicket 16 = .ok (.iconst 0, 1) := by decide +kernel
theorem dX12_bestTicket_17 : decode cX12_bestTicket 17 = .ok (.ireturn, 1) := by decide +kernel
theorem dX12_bestTicket_18 : decode cX12_bestTicket 18 = .ok (.iconst (-1), 1) := by decide +kernel
theorem dX12_bestTicket_19 : decode cX12_bestTicket 19 = .ok (.istore_n 3, 1) := by decide +kernel
theorem dX12_bestTicket_20 : decode cX12_bestTicket 20 = .ok (.iconst 0, 1) := by decide +kernel
theorem dX12_bestTicket_21 : decode cX12_bestTicket 21 = .ok (.istore 4, 2) := by decide +kernel
theorem dX12_bestTicket_23 : decode cX12_bestTicket 23 = .ok (.iload 4, 2) := by decide +kernel
theorem dX12_bestTicket_25 : decode cX12_bestTicket 25 = .ok (.aload_n 0, 1) := by decide +kernel
theorem dX12_bestTicket_26 : decode cX12_bestTicket 26 = .ok (.getfield 7, 3) := by decide +kernel
theorem dX12_bestTicket_29 : decode cX12_bestTicket 29 = .ok (.bipush 6, 2) := by decide +kernel
theorem dX12_bestTicket_31 : decode cX12_bestTicket 31 = .ok (.iaload, 1) := by decide +kernel
theorem dX12_bestTicket_32 : decode cX12_bestTicket 32 = .ok (.if_icmp .ge 116, 3) := by decide +kernel
theorem dX12_bestTicket_35 : decode cX12_bestTicket 35 = .ok (.iload 4, 2) := by decide +kernel
theorem dX12_bestTicket_37 : decode cX12_bestTicket 37 = .ok (.invokestatic 98, 3) := by decide +kernel
theorem dX12_bestTicket_40 : decode cX12_bestTicket 40 = .ok (.istore 5, 2) := by decide +kernel
theorem dX12_bestTicket_42 : decode cX12_bestTicket 42 = .ok (.aload_n 0, 1) := by decide +kernel
theorem dX12_bestTicket_43 : decode cX12_bestTicket 43 = .ok (.getfield 7, 3) := by decide +kernel
theorem dX12_bestTicket_46 : decode cX12_bestTicket 46 = .ok (.iload 5, 2) := by decide +kernel
theorem dX12_bestTicket_48 : decode cX12_bestTicket 48 = .ok (.iconst 1, 1) := by decide +kernel
theorem dX12_bestTicket_49 : decode cX12_bestTicket 49 = .ok (.iadd, 1) := by decide +kernel
theorem dX12_bestTicket_50 : decode cX12_bestTicket 50 = .ok (.iaload, 1) := by decide +kernel
theorem dX12_bestTicket_51 : decode cX12_bestTicket 51 = .ok (.iconst 1, 1) := by decide +kernel
theorem dX12_bestTicket_52 : decode cX12_bestTicket 52 = .ok (.if_icmp .ne 45, 3) := by decide +kernel
theorem dX12_bestTicket_55 : decode cX12_bestTicket 55 = .ok (.aload_n 0, 1) := by decide +kernel
theorem dX12_bestTicket_56 : decode cX12_bestTicket 56 = .ok (.getfield 7, 3) := by decide +kernel
theorem dX12_bestTicket_59 : decode cX12_bestTicket 59 = .ok (.iload 5, 2) := by decide +kernel
theorem dX12_bestTicket_61 : decode cX12_bestTicket 61 = .ok (.iconst 2, 1) := by decide +kernel
theorem dX12_bestTicket_62 : decode cX12_bestTicket 62 = .ok (.iadd, 1) := by decide +kernel
theorem dX12_bestTicket_63 : decode cX12_bestTicket 63 = .ok (.iaload, 1) := by decide +kernel
theorem dX12_bestTicket_64 : decode cX12_bestTicket 64 = .ok (.iload_n 1, 1) := by decide +kernel
theorem dX12_bestTicket_65 : decode cX12_bestTicket 65 = .ok (.if_icmp .ne 32, 3) := by decide +kernel
theorem dX12_bestTicket_68 : decode cX12_bestTicket 68 = .ok (.aload_n 0, 1) := by decide +kernel
theorem dX12_bestTicket_69 : decode cX12_bestTicket 69 = .ok (.getfield 7, 3) := by decide +kernel
theorem dX12_bestTicket_72 : decode cX12_bestTicket 72 = .ok (.iload 5, 2) := by decide +kernel
theorem dX12_bestTicket_74 : decode cX12_bestTicket 74 = .ok (.iconst 4, 1) := by decide +kernel
theorem dX12_bestTicket_75 : decode cX12_bestTicket 75 = .ok (.iadd, 1) := by decide +kernel
theorem dX12_bestTicket_76 : decode cX12_bestTicket 76 = .ok (.iaload, 1) := by decide +kernel
theorem dX12_bestTicket_77 : decode cX12_bestTicket 77 = .ok (.iload_n 2, 1) := by decide +kernel
theorem dX12_bestTicket_78 : decode cX12_bestTicket 78 = .ok (.if_icmp .ne 19, 3) := by decide +kernel
theorem dX12_bestTicket_81 : decode cX12_bestTicket 81 = .ok (.aload_n 0, 1) := by decide +kernel
theorem dX12_bestTicket_82 : decode cX12_bestTicket 82 = .ok (.getfield 7, 3) := by decide +kernel
theorem dX12_bestTicket_85 : decode cX12_bestTicket 85 = .ok (.iload 4, 2) := by decide +kernel
theorem dX12_bestTicket_87 : decode cX12_bestTicket 87 = .ok (.invokestatic 101, 3) := by decide +kernel
theorem dX12_bestTicket_90 : decode cX12_bestTicket 90 = .ok (.ifCond .eq 7, 3) := by decide +kernel
theorem dX12_bestTicket_93 : decode cX12_bestTicket 93 = .ok (.iconst 1, 1) := by decide +kernel
theorem dX12_bestTicket_94 : decode cX12_bestTicket 94 = .ok (.goto 4, 3) := by decide +kernel
theorem dX12_bestTicket_97 : decode cX12_bestTicket 97 = .ok (.iconst 0, 1) := by decide +kernel
theorem dX12_bestTicket_98 : decode cX12_bestTicket 98 = .ok (.istore 6, 2) := by decide +kernel
theorem dX12_bestTicket_100 : decode cX12_bestTicket 100 = .ok (.iload 6, 2) := by decide +kernel
theorem dX12_bestTicket_102 : decode cX12_bestTicket 102 = .ok (.ifCond .eq 38, 3) := by decide +kernel
theorem dX12_bestTicket_105 : decode cX12_bestTicket 105 = .ok (.iload_n 3, 1) := by decide +kernel
theorem dX12_bestTicket_106 : decode cX12_bestTicket 106 = .ok (.iconst (-1), 1) := by decide +kernel
theorem dX12_bestTicket_107 : decode cX12_bestTicket 107 = .ok (.if_icmp .eq 28, 3) := by decide +kernel
theorem dX12_bestTicket_110 : decode cX12_bestTicket 110 = .ok (.aload_n 0, 1) := by decide +kernel
theorem dX12_bestTicket_111 : decode cX12_bestTicket 111 = .ok (.getfield 7, 3) := by decide +kernel
theorem dX12_bestTicket_114 : decode cX12_bestTicket 114 = .ok (.iload 5, 2) := by decide +kernel
theorem dX12_bestTicket_116 : decode cX12_bestTicket 116 = .ok (.bipush 6, 2) := by decide +kernel
theorem dX12_bestTicket_118 : decode cX12_bestTicket 118 = .ok (.iadd, 1) := by decide +kernel
theorem dX12_bestTicket_119 : decode cX12_bestTicket 119 = .ok (.iaload, 1) := by decide +kernel
theorem dX12_bestTicket_120 : decode cX12_bestTicket 120 = .ok (.aload_n 0, 1) := by decide +kernel
theorem dX12_bestTicket_121 : decode cX12_bestTicket 121 = .ok (.getfield 7, 3) := by decide +kernel
theorem dX12_bestTicket_124 : decode cX12_bestTicket 124 = .ok (.iload_n 3, 1) := by decide +kernel
theorem dX12_bestTicket_125 : decode cX12_bestTicket 125 = .ok (.invokestatic 98, 3) := by decide +kernel
theorem dX12_bestTicket_128 : decode cX12_bestTicket 128 = .ok (.bipush 6, 2) := by decide +kernel
theorem dX12_bestTicket_130 : decode cX12_bestTicket 130 = .ok (.iadd, 1) := by decide +kernel
theorem dX12_bestTicket_131 : decode cX12_bestTicket 131 = .ok (.iaload, 1) := by decide +kernel
theorem dX12_bestTicket_132 : decode cX12_bestTicket 132 = .ok (.if_icmp .le 8, 3) := by decide +kernel
theorem dX12_bestTicket_135 : decode cX12_bestTicket 135 = .ok (.iload 4, 2) := by decide +kernel
theorem dX12_bestTicket_137 : decode cX12_bestTicket 137 = .ok (.goto 4, 3) := by decide +kernel
theorem dX12_bestTicket_140 : decode cX12_bestTicket 140 = .ok (.iload_n 3, 1) := by decide +kernel
theorem dX12_bestTicket_141 : decode cX12_bestTicket 141 = .ok (.istore_n 3, 1) := by decide +kernel
theorem dX12_bestTicket_142 : decode cX12_bestTicket 142 = .ok (.iinc 4 1, 3) := by decide +kernel
theorem dX12_bestTicket_145 : decode cX12_bestTicket 145 = .ok (.goto (-122), 3) := by decide +kernel
theorem dX12_bestTicket_148 : decode cX12_bestTicket 148 = .ok (.iload_n 3, 1) := by decide +kernel
theorem dX12_bestTicket_149 : decode cX12_bestTicket 149 = .ok (.iconst (-1), 1) := by decide +kernel
theorem dX12_bestTicket_150 : decode cX12_bestTicket 150 = .ok (.if_icmp .ne 7, 3) := by decide +kernel
theorem dX12_bestTicket_153 : decode cX12_bestTicket 153 = .ok (.iconst (-1), 1) := by decide +kernel
theorem dX12_bestTicket_154 : decode cX12_bestTicket 154 = .ok (.goto 14, 3) := by decide +kernel
theorem dX12_bestTicket_157 : decode cX12_bestTicket 157 = .ok (.aload_n 0, 1) := by decide +kernel
theorem dX12_bestTicket_158 : decode cX12_bestTicket 158 = .ok (.getfield 7, 3) := by decide +kernel
theorem dX12_bestTicket_161 : decode cX12_bestTicket 161 = .ok (.iload_n 3, 1) := by decide +kernel
theorem dX12_bestTicket_162 : decode cX12_bestTicket 162 = .ok (.invokestatic 98, 3) := by decide +kernel
theorem dX12_bestTicket_165 : decode cX12_bestTicket 165 = .ok (.iconst 0, 1) := by decide +kernel
theorem dX12_bestTicket_166 : decode cX12_bestTicket 166 = .ok (.iadd, 1) := by decide +kernel
theorem dX12_bestTicket_167 : decode cX12_bestTicket 167 = .ok (.iaload, 1) := by decide +kernel
theorem dX12_bestTicket_168 : decode cX12_bestTicket 168 = .ok (.ireturn, 1) := by decide +kernel
theorem dX12_useCount_0 : decode cX12_useCount 0 = .ok (.aload_n 0, 1) := by decide +kernel
theorem dX12_useCount_1 : decode cX12_useCount 1 = .ok (.iconst 0, 1) := by decide +kernel
theorem dX12_useCount_2 : decode cX12_useCount 2 = .ok (.putfield 72, 3) := by decide +kernel
theorem dX12_useCount_5 : decode cX12_useCount 5 = .ok (.aload_n 0, 1) := by decide +kernel
theorem dX12_useCount_6 : decode cX12_useCount 6 = .ok (.getfield 7, 3) := by decide +kernel
theorem dX12_useCount_9 : decode cX12_useCount 9 = .ok (.bipush 8, 2) := by decide +kernel
theorem dX12_useCount_11 : decode cX12_useCount 11 = .ok (.iaload, 1) := by decide +kernel
theorem dX12_useCount_12 : decode cX12_useCount 12 = .ok (.ireturn, 1) := by decide +kernel
theorem dX12_cheeseDifference_0 : decode cX12_cheeseDifference 0 = .ok (.aload_n 0, 1) := by decide +kernel
theorem dX12_cheeseDifference_1 : decode cX12_cheeseDifference 1 = .ok (.iconst 0, 1) := by decide +kernel
theorem dX12_cheeseDifference_2 : decode cX12_cheeseDifference 2 = .ok (.putfield 72, 3) := by decide +kernel
theorem dX12_cheeseDifference_5 : decode cX12_cheeseDifference 5 = .ok (.aload_n 0, 1) := by decide +kernel
theorem dX12_cheeseDifference_6 : decode cX12_cheeseDifference 6 = .ok (.getfield 7, 3) := by decide +kernel
theorem dX12_cheeseDifference_9 : decode cX12_cheeseDifference 9 = .ok (.bipush 9, 2) := by decide +kernel
theorem dX12_cheeseDifference_11 : decode cX12_cheeseDifference 11 = .ok (.iaload, 1) := by decide +kernel
theorem dX12_cheeseDifference_12 : decode cX12_cheeseDifference 12 = .ok (.istore_n 1, 1) := by decide +kernel
theorem dX12_cheeseDifference_13 : decode cX12_cheeseDifference 13 = .ok (.iconst 0, 1) := by decide +kernel
theorem dX12_cheeseDifference_14 : decode cX12_cheeseDifference 14 = .ok (.istore_n 2, 1) := by decide +kernel
theorem dX12_cheeseDifference_15 : decode cX12_cheeseDifference 15 = .ok (.iload_n 2, 1) := by decide +kernel
theorem dX12_cheeseDifference_16 : decode cX12_cheeseDifference 16 = .ok (.aload_n 0, 1) := by decide +kernel
theorem dX12_cheeseDifference_17 : decode cX12_cheeseDifference 17 = .ok (.getfield 7, 3) := by decide +kernel
theorem dX12_cheeseDifference_20 : decode cX12_cheeseDifference 20 = .ok (.iconst 5, 1) := by decide +kernel
theorem dX12_cheeseDifference_21 : decode cX12_cheeseDifference 21 = .ok (.iaload, 1) := by decide +kernel
theorem dX12_cheeseDifference_22 : decode cX12_cheeseDifference 22 = .ok (.if_icmp .ge 23, 3) := by decide +kernel
theorem dX12_cheeseDifference_25 : decode cX12_cheeseDifference 25 = .ok (.iload_n 1, 1) := by decide +kernel
theorem dX12_cheeseDifference_26 : decode cX12_cheeseDifference 26 = .ok (.aload_n 0, 1) := by decide +kernel
theorem dX12_cheeseDifference_27 : decode cX12_cheeseDifference 27 = .ok (.getfield 7, 3) := by decide +kernel
theorem dX12_cheeseDifference_30 : decode cX12_cheeseDifference 30 = .ok (.iload_n 2, 1) := by decide +kernel
theorem dX12_cheeseDifference_31 : decode cX12_cheeseDifference 31 = .ok (.invokestatic 122, 3) := by decide +kernel
theorem dX12_cheeseDifference_34 : decode cX12_cheeseDifference 34 = .ok (.iconst 2, 1) := by decide +kernel
theorem dX12_cheeseDifference_35 : decode cX12_cheeseDifference 35 = .ok (.iadd, 1) := by decide +kernel
theorem dX12_cheeseDifference_36 : decode cX12_cheeseDifference 36 = .ok (.iaload, 1) := by decide +kernel
theorem dX12_cheeseDifference_37 : decode cX12_cheeseDifference 37 = .ok (.isub, 1) := by decide +kernel
theorem dX12_cheeseDifference_38 : decode cX12_cheeseDifference 38 = .ok (.istore_n 1, 1) := by decide +kernel
theorem dX12_cheeseDifference_39 : decode cX12_cheeseDifference 39 = .ok (.iinc 2 1, 3) := by decide +kernel
theorem dX12_cheeseDifference_42 : decode cX12_cheeseDifference 42 = .ok (.goto (-27), 3) := by decide +kernel
theorem dX12_cheeseDifference_45 : decode cX12_cheeseDifference 45 = .ok (.iconst 0, 1) := by decide +kernel
theorem dX12_cheeseDifference_46 : decode cX12_cheeseDifference 46 = .ok (.istore_n 2, 1) := by decide +kernel
theorem dX12_cheeseDifference_47 : decode cX12_cheeseDifference 47 = .ok (.iload_n 2, 1) := by decide +kernel
theorem dX12_cheeseDifference_48 : decode cX12_cheeseDifference 48 = .ok (.aload_n 0, 1) := by decide +kernel
theorem dX12_cheeseDifference_49 : decode cX12_cheeseDifference 49 = .ok (.getfield 7, 3) := by decide +kernel
theorem dX12_cheeseDifference_52 : decode cX12_cheeseDifference 52 = .ok (.iconst 4, 1) := by decide +kernel
theorem dX12_cheeseDifference_53 : decode cX12_cheeseDifference 53 = .ok (.iaload, 1) := by decide +kernel
theorem dX12_cheeseDifference_54 : decode cX12_cheeseDifference 54 = .ok (.if_icmp .ge 23, 3) := by decide +kernel
theorem dX12_cheeseDifference_57 : decode cX12_cheeseDifference 57 = .ok (.iload_n 1, 1) := by decide +kernel
theorem dX12_cheeseDifference_58 : decode cX12_cheeseDifference 58 = .ok (.aload_n 0, 1) := by decide +kernel
theorem dX12_cheeseDifference_59 : decode cX12_cheeseDifference 59 = .ok (.getfield 7, 3) := by decide +kernel
theorem dX12_cheeseDifference_62 : decode cX12_cheeseDifference 62 = .ok (.iload_n 2, 1) := by decide +kernel
theorem dX12_cheeseDifference_63 : decode cX12_cheeseDifference 63 = .ok (.invokestatic 87, 3) := by decide +kernel
theorem dX12_cheeseDifference_66 : decode cX12_cheeseDifference 66 = .ok (.iconst 4, 1) := by decide +kernel
theorem dX12_cheeseDifference_67 : decode cX12_cheeseDifference 67 = .ok (.iadd, 1) := by decide +kernel
theorem dX12_cheeseDifference_68 : decode cX12_cheeseDifference 68 = .ok (.iaload, 1) := by decide +kernel
theorem dX12_cheeseDifference_69 : decode cX12_cheeseDifference 69 = .ok (.isub, 1) := by decide +kernel
theorem dX12_cheeseDifference_70 : decode cX12_cheeseDifference 70 = .ok (.istore_n 1, 1) := by decide +kernel
theorem dX12_cheeseDifference_71 : decode cX12_cheeseDifference 71 = .ok (.iinc 2 1, 3) := by decide +kernel
theorem dX12_cheeseDifference_74 : decode cX12_cheeseDifference 74 = .ok (.goto (-27), 3) := by decide +kernel
theorem dX12_cheeseDifference_77 : decode cX12_cheeseDifference 77 = .ok (.iload_n 1, 1) := by decide +kernel
theorem dX12_cheeseDifference_78 : decode cX12_cheeseDifference 78 = .ok (.ireturn, 1) := by decide +kernel
theorem dX12_lifeErrors_0 : decode cX12_lifeErrors 0 = .ok (.aload_n 0, 1) := by decide +kernel
theorem dX12_lifeErrors_1 : decode cX12_lifeErrors 1 = .ok (.iconst 0, 1) := by decide +kernel
theorem dX12_lifeErrors_2 : decode cX12_lifeErrors 2 = .ok (.putfield 72, 3) := by decide +kernel
theorem dX12_lifeErrors_5 : decode cX12_lifeErrors 5 = .ok (.iconst 0, 1) := by decide +kernel
theorem dX12_lifeErrors_6 : decode cX12_lifeErrors 6 = .ok (.istore_n 1, 1) := by decide +kernel
theorem dX12_lifeErrors_7 : decode cX12_lifeErrors 7 = .ok (.iconst 0, 1) := by decide +kernel
theorem dX12_lifeErrors_8 : decode cX12_lifeErrors 8 = .ok (.istore_n 2, 1) := by decide +kernel
theorem dX12_lifeErrors_9 : decode cX12_lifeErrors 9 = .ok (.iload_n 2, 1) := by decide +kernel
theorem dX12_lifeErrors_10 : decode cX12_lifeErrors 10 = .ok (.aload_n 0, 1) := by decide +kernel
theorem dX12_lifeErrors_11 : decode cX12_lifeErrors 11 = .ok (.getfield 7, 3) := by decide +kernel
theorem dX12_lifeErrors_14 : decode cX12_lifeErrors 14 = .ok (.bipush 6, 2) := by decide +kernel
theorem dX12_lifeErrors_16 : decode cX12_lifeErrors 16 = .ok (.iaload, 1) := by decide +kernel
theorem dX12_lifeErrors_17 : decode cX12_lifeErrors 17 = .ok (.if_icmp .ge 63, 3) := by decide +kernel
theorem dX12_lifeErrors_20 : decode cX12_lifeErrors 20 = .ok (.iload_n 2, 1) := by decide +kernel
theorem dX12_lifeErrors_21 : decode cX12_lifeErrors 21 = .ok (.invokestatic 98, 3) := by decide +kernel
theorem dX12_lifeErrors_24 : decode cX12_lifeErrors 24 = .ok (.istore_n 3, 1) := by decide +kernel
theorem dX12_lifeErrors_25 : decode cX12_lifeErrors 25 = .ok (.iload_n 1, 1) := by decide +kernel
theorem dX12_lifeErrors_26 : decode cX12_lifeErrors 26 = .ok (.aload_n 0, 1) := by decide +kernel
theorem dX12_lifeErrors_27 : decode cX12_lifeErrors 27 = .ok (.getfield 7, 3) := by decide +kernel
theorem dX12_lifeErrors_30 : decode cX12_lifeErrors 30 = .ok (.iload_n 3, 1) := by decide +kernel
theorem dX12_lifeErrors_31 : decode cX12_lifeErrors 31 = .ok (.iconst 5, 1) := by decide +kernel
theorem dX12_lifeErrors_32 : decode cX12_lifeErrors 32 = .ok (.iadd, 1) := by decide +kernel
theorem dX12_lifeErrors_33 : decode cX12_lifeErrors 33 = .ok (.iaload, 1) := by decide +kernel
theorem dX12_lifeErrors_34 : decode cX12_lifeErrors 34 = .ok (.aload_n 0, 1) := by decide +kernel
theorem dX12_lifeErrors_35 : decode cX12_lifeErrors 35 = .ok (.getfield 7, 3) := by decide +kernel
theorem dX12_lifeErrors_38 : decode cX12_lifeErrors 38 = .ok (.iload_n 3, 1) := by decide +kernel
theorem dX12_lifeErrors_39 : decode cX12_lifeErrors 39 = .ok (.bipush 6, 2) := by decide +kernel
theorem dX12_lifeErrors_41 : decode cX12_lifeErrors 41 = .ok (.iadd, 1) := by decide +kernel
theorem dX12_lifeErrors_42 : decode cX12_lifeErrors 42 = .ok (.iaload, 1) := by decide +kernel
theorem dX12_lifeErrors_43 : decode cX12_lifeErrors 43 = .ok (.if_icmp .ge 24, 3) := by decide +kernel
theorem dX12_lifeErrors_46 : decode cX12_lifeErrors 46 = .ok (.aload_n 0, 1) := by decide +kernel
theorem dX12_lifeErrors_47 : decode cX12_lifeErrors 47 = .ok (.getfield 7, 3) := by decide +kernel
theorem dX12_lifeErrors_50 : decode cX12_lifeErrors 50 = .ok (.iload_n 3, 1) := by decide +kernel
theorem dX12_lifeErrors_51 : decode cX12_lifeErrors 51 = .ok (.bipush 6, 2) := by decide +kernel
theorem dX12_lifeErrors_53 : decode cX12_lifeErrors 53 = .ok (.iadd, 1) := by decide +kernel
theorem dX12_lifeErrors_54 : decode cX12_lifeErrors 54 = .ok (.iaload, 1) := by decide +kernel
theorem dX12_lifeErrors_55 : decode cX12_lifeErrors 55 = .ok (.aload_n 0, 1) := by decide +kernel
theorem dX12_lifeErrors_56 : decode cX12_lifeErrors 56 = .ok (.getfield 7, 3) := by decide +kernel
theorem dX12_lifeErrors_59 : decode cX12_lifeErrors 59 = .ok (.iload_n 3, 1) := by decide +kernel
theorem dX12_lifeErrors_60 : decode cX12_lifeErrors 60 = .ok (.bipush 7, 2) := by decide +kernel
theorem dX12_lifeErrors_62 : decode cX12_lifeErrors 62 = .ok (.iadd, 1) := by decide +kernel
theorem dX12_lifeErrors_63 : decode cX12_lifeErrors 63 = .ok (.iaload, 1) := by decide +kernel
theorem dX12_lifeErrors_64 : decode cX12_lifeErrors 64 = .ok (.if_icmp .le 7, 3) := by decide +kernel
theorem dX12_lifeErrors_67 : decode cX12_lifeErrors 67 = .ok (.iconst 1, 1) := by decide +kernel
theorem dX12_lifeErrors_68 : decode cX12_lifeErrors 68 = .ok (.goto 4, 3) := by decide +kernel
theorem dX12_lifeErrors_71 : decode cX12_lifeErrors 71 = .ok (.iconst 0, 1) := by decide +kernel
theorem dX12_lifeErrors_72 : decode cX12_lifeErrors 72 = .ok (.iadd, 1) := by decide +kernel
theorem dX12_lifeErrors_73 : decode cX12_lifeErrors 73 = .ok (.istore_n 1, 1) := by decide +kernel
theorem dX12_lifeErrors_74 : decode cX12_lifeErrors 74 = .ok (.iinc 2 1, 3) := by decide +kernel
theorem dX12_lifeErrors_77 : decode cX12_lifeErrors 77 = .ok (.goto (-68), 3) := by decide +kernel
theorem dX12_lifeErrors_80 : decode cX12_lifeErrors 80 = .ok (.iload_n 1, 1) := by decide +kernel
theorem dX12_lifeErrors_81 : decode cX12_lifeErrors 81 = .ok (.ireturn, 1) := by decide +kernel
theorem dX12_goHalfway_0 : decode cX12_goHalfway 0 = .ok (.iconst 0, 1) := by decide +kernel
theorem dX12_goHalfway_1 : decode cX12_goHalfway 1 = .ok (.istore_n 1, 1) := by decide +kernel
theorem dX12_goHalfway_2 : decode cX12_goHalfway 2 = .ok (.iload_n 1, 1) := by decide +kernel
theorem dX12_goHalfway_3 : decode cX12_goHalfway 3 = .ok (.aload_n 0, 1) := by decide +kernel
theorem dX12_goHalfway_4 : decode cX12_goHalfway 4 = .ok (.getfield 7, 3) := by decide +kernel
theorem dX12_goHalfway_7 : decode cX12_goHalfway 7 = .ok (.iconst 3, 1) := by decide +kernel
theorem dX12_goHalfway_8 : decode cX12_goHalfway 8 = .ok (.iaload, 1) := by decide +kernel
theorem dX12_goHalfway_9 : decode cX12_goHalfway 9 = .ok (.if_icmp .ge 64, 3) := by decide +kernel
theorem dX12_goHalfway_12 : decode cX12_goHalfway 12 = .ok (.iconst 0, 1) := by decide +kernel
theorem dX12_goHalfway_13 : decode cX12_goHalfway 13 = .ok (.istore_n 2, 1) := by decide +kernel
theorem dX12_goHalfway_14 : decode cX12_goHalfway 14 = .ok (.iload_n 2, 1) := by decide +kernel
theorem dX12_goHalfway_15 : decode cX12_goHalfway 15 = .ok (.aload_n 0, 1) := by decide +kernel
theorem dX12_goHalfway_16 : decode cX12_goHalfway 16 = .ok (.getfield 7, 3) := by decide +kernel
theorem dX12_goHalfway_19 : decode cX12_goHalfway 19 = .ok (.iconst 3, 1) := by decide +kernel
theorem dX12_goHalfway_20 : decode cX12_goHalfway 20 = .ok (.iaload, 1) := by decide +kernel
theorem dX12_goHalfway_21 : decode cX12_goHalfway 21 = .ok (.if_icmp .ge 46, 3) := by decide +kernel
theorem dX12_goHalfway_24 : decode cX12_goHalfway 24 = .ok (.aload_n 0, 1) := by decide +kernel
theorem dX12_goHalfway_25 : decode cX12_goHalfway 25 = .ok (.getfield 39, 3) := by decide +kernel
theorem dX12_goHalfway_28 : decode cX12_goHalfway 28 = .ok (.iconst 5, 1) := by decide +kernel
theorem dX12_goHalfway_29 : decode cX12_goHalfway 29 = .ok (.iload_n 1, 1) := by decide +kernel
theorem dX12_goHalfway_30 : decode cX12_goHalfway 30 = .ok (.imul, 1) := by decide +kernel
theorem dX12_goHalfway_31 : decode cX12_goHalfway 31 = .ok (.iload_n 2, 1) := by decide +kernel
theorem dX12_goHalfway_32 : decode cX12_goHalfway 32 = .ok (.iadd, 1) := by decide +kernel
theorem dX12_goHalfway_33 : decode cX12_goHalfway 33 = .ok (.iload_n 1, 1) := by decide +kernel
theorem dX12_goHalfway_34 : decode cX12_goHalfway 34 = .ok (.iload_n 2, 1) := by decide +kernel
theorem dX12_goHalfway_35 : decode cX12_goHalfway 35 = .ok (.if_icmp .ne 7, 3) := by decide +kernel
theorem dX12_goHalfway_38 : decode cX12_goHalfway 38 = .ok (.iconst 0, 1) := by decide +kernel
theorem dX12_goHalfway_39 : decode cX12_goHalfway 39 = .ok (.goto 21, 3) := by decide +kernel
theorem dX12_goHalfway_42 : decode cX12_goHalfway 42 = .ok (.aload_n 0, 1) := by decide +kernel
theorem dX12_goHalfway_43 : decode cX12_goHalfway 43 = .ok (.getfield 7, 3) := by decide +kernel
theorem dX12_goHalfway_46 : decode cX12_goHalfway 46 = .ok (.iload_n 1, 1) := by decide +kernel
theorem dX12_goHalfway_47 : decode cX12_goHalfway 47 = .ok (.iload_n 2, 1) := by decide +kernel
theorem dX12_goHalfway_48 : decode cX12_goHalfway 48 = .ok (.invokestatic 75, 3) := by decide +kernel
theorem dX12_goHalfway_51 : decode cX12_goHalfway 51 = .ok (.ifCond .eq 7, 3) := by decide +kernel
theorem dX12_goHalfway_54 : decode cX12_goHalfway 54 = .ok (.iconst 1, 1) := by decide +kernel
theorem dX12_goHalfway_55 : decode cX12_goHalfway 55 = .ok (.goto 5, 3) := by decide +kernel
theorem dX12_goHalfway_58 : decode cX12_goHalfway 58 = .ok (.bipush 99, 2) := by decide +kernel
theorem dX12_goHalfway_60 : decode cX12_goHalfway 60 = .ok (.iastore, 1) := by decide +kernel
theorem dX12_goHalfway_61 : decode cX12_goHalfway 61 = .ok (.iinc 2 1, 3) := by decide +kernel
theorem dX12_goHalfway_64 : decode cX12_goHalfway 64 = .ok (.goto (-50), 3) := by decide +kernel
theorem dX12_goHalfway_67 : decode cX12_goHalfway 67 = .ok (.iinc 1 1, 3) := by decide +kernel
theorem dX12_goHalfway_70 : decode cX12_goHalfway 70 = .ok (.goto (-68), 3) := by decide +kernel
theorem dX12_goHalfway_73 : decode cX12_goHalfway 73 = .ok (.iconst 0, 1) := by decide +kernel
theorem dX12_goHalfway_74 : decode cX12_goHalfway 74 = .ok (.istore_n 1, 1) := by decide +kernel
theorem dX12_goHalfway_75 : decode cX12_goHalfway 75 = .ok (.iload_n 1, 1) := by decide +kernel
theorem dX12_goHalfway_76 : decode cX12_goHalfway 76 = .ok (.aload_n 0, 1) := by decide +kernel
theorem dX12_goHalfway_77 : decode cX12_goHalfway 77 = .ok (.getfield 7, 3) := by decide +kernel
theorem dX12_goHalfway_80 : decode cX12_goHalfway 80 = .ok (.iconst 3, 1) := by decide +kernel
theorem dX12_goHalfway_81 : decode cX12_goHalfway 81 = .ok (.iaload, 1) := by decide +kernel
theorem dX12_goHalfway_82 : decode cX12_goHalfway 82 = .ok (.if_icmp .ge 89, 3) := by decide +kernel
theorem dX12_goHalfway_85 : decode cX12_goHalfway 85 = .ok (.iconst 0, 1) := by decide +kernel
theorem dX12_goHalfway_86 : decode cX12_goHalfway 86 = .ok (.istore_n 2, 1) := by decide +kernel
theorem dX12_goHalfway_87 : decode cX12_goHalfway 87 = .ok (.iload_n 2, 1) := by decide +kernel
theorem dX12_goHalfway_88 : decode cX12_goHalfway 88 = .ok (.aload_n 0, 1) := by decide +kernel
theorem dX12_goHalfway_89 : decode cX12_goHalfway 89 = .ok (.getfield 7, 3) := by decide +kernel
theorem dX12_goHalfway_92 : decode cX12_goHalfway 92 = .ok (.iconst 3, 1) := by decide +kernel
theorem dX12_goHalfway_93 : decode cX12_goHalfway 93 = .ok (.iaload, 1) := by decide +kernel
theorem dX12_goHalfway_94 : decode cX12_goHalfway 94 = .ok (.if_icmp .ge 71, 3) := by decide +kernel
theorem dX12_goHalfway_97 : decode cX12_goHalfway 97 = .ok (.iconst 0, 1) := by decide +kernel
theorem dX12_goHalfway_98 : decode cX12_goHalfway 98 = .ok (.istore_n 3, 1) := by decide +kernel
theorem dX12_goHalfway_99 : decode cX12_goHalfway 99 = .ok (.iload_n 3, 1) := by decide +kernel
theorem dX12_goHalfway_100 : decode cX12_goHalfway 100 = .ok (.aload_n 0, 1) := by decide +kernel
theorem dX12_goHalfway_101 : decode cX12_goHalfway 101 = .ok (.getfield 7, 3) := by decide +kernel
theorem dX12_goHalfway_104 : decode cX12_goHalfway 104 = .ok (.iconst 3, 1) := by decide +kernel
theorem dX12_goHalfway_105 : decode cX12_goHalfway 105 = .ok (.iaload, 1) := by decide +kernel
theorem dX12_goHalfway_106 : decode cX12_goHalfway 106 = .ok (.if_icmp .ge 53, 3) := by decide +kernel
theorem dX12_goHalfway_109 : decode cX12_goHalfway 109 = .ok (.aload_n 0, 1) := by decide +kernel
theorem dX12_goHalfway_110 : decode cX12_goHalfway 110 = .ok (.getfield 39, 3) := by decide +kernel
theorem dX12_goHalfway_113 : decode cX12_goHalfway 113 = .ok (.iconst 5, 1) := by decide +kernel
theorem dX12_goHalfway_114 : decode cX12_goHalfway 114 = .ok (.iload_n 2, 1) := by decide +kernel
theorem dX12_goHalfway_115 : decode cX12_goHalfway 115 = .ok (.imul, 1) := by decide +kernel
theorem dX12_goHalfway_116 : decode cX12_goHalfway 116 = .ok (.iload_n 3, 1) := by decide +kernel
theorem dX12_goHalfway_117 : decode cX12_goHalfway 117 = .ok (.iadd, 1) := by decide +kernel
theorem dX12_goHalfway_118 : decode cX12_goHalfway 118 = .ok (.aload_n 0, 1) := by decide +kernel
theorem dX12_goHalfway_119 : decode cX12_goHalfway 119 = .ok (.getfield 39, 3) := by decide +kernel
theorem dX12_goHalfway_122 : decode cX12_goHalfway 122 = .ok (.iconst 5, 1) := by decide +kernel
theorem dX12_goHalfway_123 : decode cX12_goHalfway 123 = .ok (.iload_n 2, 1) := by decide +kernel
theorem dX12_goHalfway_124 : decode cX12_goHalfway 124 = .ok (.imul, 1) := by decide +kernel
theorem dX12_goHalfway_125 : decode cX12_goHalfway 125 = .ok (.iload_n 3, 1) := by decide +kernel
theorem dX12_goHalfway_126 : decode cX12_goHalfway 126 = .ok (.iadd, 1) := by decide +kernel
theorem dX12_goHalfway_127 : decode cX12_goHalfway 127 = .ok (.iaload, 1) := by decide +kernel
theorem dX12_goHalfway_128 : decode cX12_goHalfway 128 = .ok (.aload_n 0, 1) := by decide +kernel
theorem dX12_goHalfway_129 : decode cX12_goHalfway 129 = .ok (.getfield 39, 3) := by decide +kernel
theorem dX12_goHalfway_132 : decode cX12_goHalfway 132 = .ok (.iconst 5, 1) := by decide +kernel
theorem dX12_goHalfway_133 : decode cX12_goHalfway 133 = .ok (.iload_n 2, 1) := by decide +kernel
theorem dX12_goHalfway_134 : decode cX12_goHalfway 134 = .ok (.imul, 1) := by decide +kernel
theorem dX12_goHalfway_135 : decode cX12_goHalfway 135 = .ok (.iload_n 1, 1) := by decide +kernel
theorem dX12_goHalfway_136 : decode cX12_goHalfway 136 = .ok (.iadd, 1) := by decide +kernel
theorem dX12_goHalfway_137 : decode cX12_goHalfway 137 = .ok (.iaload, 1) := by decide +kernel
theorem dX12_goHalfway_138 : decode cX12_goHalfway 138 = .ok (.aload_n 0, 1) := by decide +kernel
theorem dX12_goHalfway_139 : decode cX12_goHalfway 139 = .ok (.getfield 39, 3) := by decide +kernel
theorem dX12_goHalfway_142 : decode cX12_goHalfway 142 = .ok (.iconst 5, 1) := by decide +kernel
theorem dX12_goHalfway_143 : decode cX12_goHalfway 143 = .ok (.iload_n 1, 1) := by decide +kernel
theorem dX12_goHalfway_144 : decode cX12_goHalfway 144 = .ok (.imul, 1) := by decide +kernel
theorem dX12_goHalfway_145 : decode cX12_goHalfway 145 = .ok (.iload_n 3, 1) := by decide +kernel
theorem dX12_goHalfway_146 : decode cX12_goHalfway 146 = .ok (.iadd, 1) := by decide +kernel
theorem dX12_goHalfway_147 : decode cX12_goHalfway 147 = .ok (.iaload, 1) := by decide +kernel
theorem dX12_goHalfway_148 : decode cX12_goHalfway 148 = .ok (.iadd, 1) := by decide +kernel
theorem dX12_goHalfway_149 : decode cX12_goHalfway 149 = .ok (.invokestatic 79, 3) := by decide +kernel
theorem dX12_goHalfway_152 : decode cX12_goHalfway 152 = .ok (.iastore, 1) := by decide +kernel
theorem dX12_goHalfway_153 : decode cX12_goHalfway 153 = .ok (.iinc 3 1, 3) := by decide +kernel
theorem dX12_goHalfway_156 : decode cX12_goHalfway 156 = .ok (.goto (-57), 3) := by decide +kernel
theorem dX12_goHalfway_159 : decode cX12_goHalfway 159 = .ok (.iinc 2 1, 3) := by decide +kernel
theorem dX12_goHalfway_162 : decode cX12_goHalfway 162 = .ok (.goto (-75), 3) := by decide +kernel
theorem dX12_goHalfway_165 : decode cX12_goHalfway 165 = .ok (.iinc 1 1, 3) := by decide +kernel
theorem dX12_goHalfway_168 : decode cX12_goHalfway 168 = .ok (.goto (-93), 3) := by decide +kernel
theorem dX12_goHalfway_171 : decode cX12_goHalfway 171 = .ok (.return_, 1) := by decide +kernel
theorem dX12_distanceErrors_0 : decode cX12_distanceErrors 0 = .ok (.aload_n 0, 1) := by decide +kernel
theorem dX12_distanceErrors_1 : decode cX12_distanceErrors 1 = .ok (.iconst 0, 1) := by decide +kernel
theorem dX12_distanceErrors_2 : decode cX12_distanceErrors 2 = .ok (.putfield 72, 3) := by decide +kernel
theorem dX12_distanceErrors_5 : decode cX12_distanceErrors 5 = .ok (.aload_n 0, 1) := by decide +kernel
theorem dX12_distanceErrors_6 : decode cX12_distanceErrors 6 = .ok (.invokevirtual 403, 3) := by decide +kernel
theorem dX12_distanceErrors_9 : decode cX12_distanceErrors 9 = .ok (.iconst 0, 1) := by decide +kernel
theorem dX12_distanceErrors_10 : decode cX12_distanceErrors 10 = .ok (.istore_n 1, 1) := by decide +kernel
theorem dX12_distanceErrors_11 : decode cX12_distanceErrors 11 = .ok (.iconst 0, 1) := by decide +kernel
theorem dX12_distanceErrors_12 : decode cX12_distanceErrors 12 = .ok (.istore_n 2, 1) := by decide +kernel
theorem dX12_distanceErrors_13 : decode cX12_distanceErrors 13 = .ok (.iload_n 2, 1) := by decide +kernel
theorem dX12_distanceErrors_14 : decode cX12_distanceErrors 14 = .ok (.aload_n 0, 1) := by decide +kernel
theorem dX12_distanceErrors_15 : decode cX12_distanceErrors 15 = .ok (.getfield 7, 3) := by decide +kernel
theorem dX12_distanceErrors_18 : decode cX12_distanceErrors 18 = .ok (.iconst 3, 1) := by decide +kernel
theorem dX12_distanceErrors_19 : decode cX12_distanceErrors 19 = .ok (.iaload, 1) := by decide +kernel
theorem dX12_distanceErrors_20 : decode cX12_distanceErrors 20 = .ok (.if_icmp .ge 73, 3) := by decide +kernel
theorem dX12_distanceErrors_23 : decode cX12_distanceErrors 23 = .ok (.iconst 0, 1) := by decide +kernel
theorem dX12_distanceErrors_24 : decode cX12_distanceErrors 24 = .ok (.istore_n 3, 1) := by decide +kernel
theorem dX12_distanceErrors_25 : decode cX12_distanceErrors 25 = .ok (.iload_n 3, 1) := by decide +kernel
theorem dX12_distanceErrors_26 : decode cX12_distanceErrors 26 = .ok (.aload_n 0, 1) := by decide +kernel
theorem dX12_distanceErrors_27 : decode cX12_distanceErrors 27 = .ok (.getfield 7, 3) := by decide +kernel
theorem dX12_distanceErrors_30 : decode cX12_distanceErrors 30 = .ok (.iconst 3, 1) := by decide +kernel
theorem dX12_distanceErrors_31 : decode cX12_distanceErrors 31 = .ok (.iaload, 1) := by decide +kernel
theorem dX12_distanceErrors_32 : decode cX12_distanceErrors 32 = .ok (.if_icmp .ge 55, 3) := by decide +kernel
theorem dX12_distanceErrors_35 : decode cX12_distanceErrors 35 = .ok (.aload_n 0, 1) := by decide +kernel
theorem dX12_distanceErrors_36 : decode cX12_distanceErrors 36 = .ok (.getfield 39, 3) := by decide +kernel
theorem dX12_distanceErrors_39 : decode cX12_distanceErrors 39 = .ok (.iconst 5, 1) := by decide +kernel
theorem dX12_distanceErrors_40 : decode cX12_distanceErrors 40 = .ok (.iload_n 2, 1) := by decide +kernel
theorem dX12_distanceErrors_41 : decode cX12_distanceErrors 41 = .ok (.imul, 1) := by decide +kernel
theorem dX12_distanceErrors_42 : decode cX12_distanceErrors 42 = .ok (.iload_n 3, 1) := by decide +kernel
theorem dX12_distanceErrors_43 : decode cX12_distanceErrors 43 = .ok (.iadd, 1) := by decide +kernel
theorem dX12_distanceErrors_44 : decode cX12_distanceErrors 44 = .ok (.iaload, 1) := by decide +kernel
theorem dX12_distanceErrors_45 : decode cX12_distanceErrors 45 = .ok (.istore 4, 2) := by decide +kernel
theorem dX12_distanceErrors_47 : decode cX12_distanceErrors 47 = .ok (.iload_n 1, 1) := by decide +kernel
theorem dX12_distanceErrors_48 : decode cX12_distanceErrors 48 = .ok (.aload_n 0, 1) := by decide +kernel
theorem dX12_distanceErrors_49 : decode cX12_distanceErrors 49 = .ok (.aload_n 0, 1) := by decide +kernel
theorem dX12_distanceErrors_50 : decode cX12_distanceErrors 50 = .ok (.getfield 7, 3) := by decide +kernel
theorem dX12_distanceErrors_53 : decode cX12_distanceErrors 53 = .ok (.iload_n 2, 1) := by decide +kernel
theorem dX12_distanceErrors_54 : decode cX12_distanceErrors 54 = .ok (.iload_n 3, 1) := by decide +kernel
theorem dX12_distanceErrors_55 : decode cX12_distanceErrors 55 = .ok (.invokevirtual 385, 3) := by decide +kernel
theorem dX12_distanceErrors_58 : decode cX12_distanceErrors 58 = .ok (.iload 4, 2) := by decide +kernel
theorem dX12_distanceErrors_60 : decode cX12_distanceErrors 60 = .ok (.bipush 99, 2) := by decide +kernel
theorem dX12_distanceErrors_62 : decode cX12_distanceErrors 62 = .ok (.if_icmp .lt 7, 3) := by decide +kernel
theorem dX12_distanceErrors_65 : decode cX12_distanceErrors 65 = .ok (.iconst (-1), 1) := by decide +kernel
theorem dX12_distanceErrors_66 : decode cX12_distanceErrors 66 = .ok (.goto 5, 3) := by decide +kernel
theorem dX12_distanceErrors_69 : decode cX12_distanceErrors 69 = .ok (.iload 4, 2) := by decide +kernel
theorem dX12_distanceErrors_71 : decode cX12_distanceErrors 71 = .ok (.if_icmp .ne 7, 3) := by decide +kernel
theorem dX12_distanceErrors_74 : decode cX12_distanceErrors 74 = .ok (.iconst 0, 1) := by decide +kernel
theorem dX12_distanceErrors_75 : decode cX12_distanceErrors 75 = .ok (.goto 4, 3) := by decide +kernel
theorem dX12_distanceErrors_78 : decode cX12_distanceErrors 78 = .ok (.iconst 1, 1) := by decide +kernel
theorem dX12_distanceErrors_79 : decode cX12_distanceErrors 79 = .ok (.iadd, 1) := by decide +kernel
theorem dX12_distanceErrors_80 : decode cX12_distanceErrors 80 = .ok (.istore_n 1, 1) := by decide +kernel
theorem dX12_distanceErrors_81 : decode cX12_distanceErrors 81 = .ok (.iinc 3 1, 3) := by decide +kernel
theorem dX12_distanceErrors_84 : decode cX12_distanceErrors 84 = .ok (.goto (-59), 3) := by decide +kernel
theorem dX12_distanceErrors_87 : decode cX12_distanceErrors 87 = .ok (.iinc 2 1, 3) := by decide +kernel
theorem dX12_distanceErrors_90 : decode cX12_distanceErrors 90 = .ok (.goto (-77), 3) := by decide +kernel
theorem dX12_distanceErrors_93 : decode cX12_distanceErrors 93 = .ok (.iload_n 1, 1) := by decide +kernel
theorem dX12_distanceErrors_94 : decode cX12_distanceErrors 94 = .ok (.ireturn, 1) := by decide +kernel
theorem dX12_validShare_0 : decode cX12_validShare 0 = .ok (.aload_n 0, 1) := by decide +kernel
theorem dX12_validShare_1 : decode cX12_validShare 1 = .ok (.iconst 0, 1) := by decide +kernel
theorem dX12_validShare_2 : decode cX12_validShare 2 = .ok (.putfield 72, 3) := by decide +kernel
theorem dX12_validShare_5 : decode cX12_validShare 5 = .ok (.aload_n 0, 1) := by decide +kernel
theorem dX12_validShare_6 : decode cX12_validShare 6 = .ok (.getfield 7, 3) := by decide +kernel
theorem dX12_validShare_9 : decode cX12_validShare 9 = .ok (.bipush 6, 2) := by decide +kernel
theorem dX12_validShare_11 : decode cX12_validShare 11 = .ok (.iaload, 1) := by decide +kernel
theorem dX12_validShare_12 : decode cX12_validShare 12 = .ok (.ifCond .ne 7, 3) := by decide +kernel
theorem dX12_validShare_15 : decode cX12_validShare 15 = .ok (.fconst 0, 1) := by decide +kernel
theorem dX12_validShare_16 : decode cX12_validShare 16 = .ok (.goto 20, 3) := by decide +kernel
theorem dX12_validShare_19 : decode cX12_validShare 19 = .ok (.aload_n 0, 1) := by decide +kernel
theorem dX12_validShare_20 : decode cX12_validShare 20 = .ok (.getfield 7, 3) := by decide +kernel
theorem dX12_validShare_23 : decode cX12_validShare 23 = .ok (.invokestatic 145, 3) := by decide +kernel
theorem dX12_validShare_26 : decode cX12_validShare 26 = .ok (.i2f, 1) := by decide +kernel
theorem dX12_validShare_27 : decode cX12_validShare 27 = .ok (.aload_n 0, 1) := by decide +kernel
theorem dX12_validShare_28 : decode cX12_validShare 28 = .ok (.getfield 7, 3) := by decide +kernel
theorem dX12_validShare_31 : decode cX12_validShare 31 = .ok (.bipush 6, 2) := by decide +kernel
theorem dX12_validShare_33 : decode cX12_validShare 33 = .ok (.iaload, 1) := by decide +kernel
theorem dX12_validShare_34 : decode cX12_validShare 34 = .ok (.i2f, 1) := by decide +kernel
theorem dX12_validShare_35 : decode cX12_validShare 35 = .ok (.fdiv, 1) := by decide +kernel
theorem dX12_validShare_36 : decode cX12_validShare 36 = .ok (.freturn, 1) := by decide +kernel
theorem dX12_averageLife_0 : decode cX12_averageLife 0 = .ok (.aload_n 0, 1) := by decide +kernel
theorem dX12_averageLife_1 : decode cX12_averageLife 1 = .ok (.iconst 0, 1) := by decide +kernel
theorem dX12_averageLife_2 : decode cX12_averageLife 2 = .ok (.putfield 72, 3) := by decide +kernel
theorem dX12_averageLife_5 : decode cX12_averageLife 5 = .ok (.iconst 0, 1) := by decide +kernel
theorem dX12_averageLife_6 : decode cX12_averageLife 6 = .ok (.istore_n 1, 1) := by decide +kernel
theorem dX12_averageLife_7 : decode cX12_averageLife 7 = .ok (.iconst 0, 1) := by decide +kernel
theorem dX12_averageLife_8 : decode cX12_averageLife 8 = .ok (.istore_n 2, 1) := by decide +kernel
theorem dX12_averageLife_9 : decode cX12_averageLife 9 = .ok (.iload_n 2, 1) := by decide +kernel
theorem dX12_averageLife_10 : decode cX12_averageLife 10 = .ok (.aload_n 0, 1) := by decide +kernel
theorem dX12_averageLife_11 : decode cX12_averageLife 11 = .ok (.getfield 7, 3) := by decide +kernel
theorem dX12_averageLife_14 : decode cX12_averageLife 14 = .ok (.bipush 6, 2) := by decide +kernel
theorem dX12_averageLife_16 : decode cX12_averageLife 16 = .ok (.iaload, 1) := by decide +kernel
theorem dX12_averageLife_17 : decode cX12_averageLife 17 = .ok (.if_icmp .ge 36, 3) := by decide +kernel
theorem dX12_averageLife_20 : decode cX12_averageLife 20 = .ok (.iload_n 1, 1) := by decide +kernel
theorem dX12_averageLife_21 : decode cX12_averageLife 21 = .ok (.aload_n 0, 1) := by decide +kernel
theorem dX12_averageLife_22 : decode cX12_averageLife 22 = .ok (.getfield 7, 3) := by decide +kernel
theorem dX12_averageLife_25 : decode cX12_averageLife 25 = .ok (.iload_n 2, 1) := by decide +kernel
theorem dX12_averageLife_26 : decode cX12_averageLife 26 = .ok (.invokestatic 98, 3) := by decide +kernel
theorem dX12_averageLife_29 : decode cX12_averageLife 29 = .ok (.bipush 6, 2) := by decide +kernel
theorem dX12_averageLife_31 : decode cX12_averageLife 31 = .ok (.iadd, 1) := by decide +kernel
theorem dX12_averageLife_32 : decode cX12_averageLife 32 = .ok (.iaload, 1) := by decide +kernel
theorem dX12_averageLife_33 : decode cX12_averageLife 33 = .ok (.aload_n 0, 1) := by decide +kernel
theorem dX12_averageLife_34 : decode cX12_averageLife 34 = .ok (.getfield 7, 3) := by decide +kernel
theorem dX12_averageLife_37 : decode cX12_averageLife 37 = .ok (.iload_n 2, 1) := by decide +kernel
theorem dX12_averageLife_38 : decode cX12_averageLife 38 = .ok (.invokestatic 98, 3) := by decide +kernel
theorem dX12_averageLife_41 : decode cX12_averageLife 41 = .ok (.iconst 5, 1) := by decide +kernel
theorem dX12_averageLife_42 : decode cX12_averageLife 42 = .ok (.iadd, 1) := by decide +kernel
theorem dX12_averageLife_43 : decode cX12_averageLife 43 = .ok (.iaload, 1) := by decide +kernel
theorem dX12_averageLife_44 : decode cX12_averageLife 44 = .ok (.isub, 1) := by decide +kernel
theorem dX12_averageLife_45 : decode cX12_averageLife 45 = .ok (.iadd, 1) := by decide +kernel
theorem dX12_averageLife_46 : decode cX12_averageLife 46 = .ok (.istore_n 1, 1) := by decide +kernel
theorem dX12_averageLife_47 : decode cX12_averageLife 47 = .ok (.iinc 2 1, 3) := by decide +kernel
theorem dX12_averageLife_50 : decode cX12_averageLife 50 = .ok (.goto (-41), 3) := by decide +kernel
theorem dX12_averageLife_53 : decode cX12_averageLife 53 = .ok (.aload_n 0, 1) := by decide +kernel
theorem dX12_averageLife_54 : decode cX12_averageLife 54 = .ok (.getfield 7, 3) := by decide +kernel
theorem dX12_averageLife_57 : decode cX12_averageLife 57 = .ok (.bipush 6, 2) := by decide +kernel
theorem dX12_averageLife_59 : decode cX12_averageLife 59 = .ok (.iaload, 1) := by decide +kernel
theorem dX12_averageLife_60 : decode cX12_averageLife 60 = .ok (.ifCond .ne 7, 3) := by decide +kernel
theorem dX12_averageLife_63 : decode cX12_averageLife 63 = .ok (.dconst 0, 1) := by decide +kernel
theorem dX12_averageLife_64 : decode cX12_averageLife 64 = .ok (.goto 14, 3) := by decide +kernel
theorem dX12_averageLife_67 : decode cX12_averageLife 67 = .ok (.iload_n 1, 1) := by decide +kernel
theorem dX12_averageLife_68 : decode cX12_averageLife 68 = .ok (.i2d, 1) := by decide +kernel
theorem dX12_averageLife_69 : decode cX12_averageLife 69 = .ok (.aload_n 0, 1) := by decide +kernel
theorem dX12_averageLife_70 : decode cX12_averageLife 70 = .ok (.getfield 7, 3) := by decide +kernel
theorem dX12_averageLife_73 : decode cX12_averageLife 73 = .ok (.bipush 6, 2) := by decide +kernel
theorem dX12_averageLife_75 : decode cX12_averageLife 75 = .ok (.iaload, 1) := by decide +kernel
theorem dX12_averageLife_76 : decode cX12_averageLife 76 = .ok (.i2d, 1) := by decide +kernel
theorem dX12_averageLife_77 : decode cX12_averageLife 77 = .ok (.ddiv, 1) := by decide +kernel
theorem dX12_averageLife_78 : decode cX12_averageLife 78 = .ok (.dreturn, 1) := by decide +kernel
theorem dX12_login_0 : decode cX12_login 0 = .ok (.aload_n 0, 1) := by decide +kernel
theorem dX12_login_1 : decode cX12_login 1 = .ok (.iload_n 1, 1) := by decide +kernel
theorem dX12_login_2 : decode cX12_login 2 = .ok (.invokevirtual 388, 3) := by decide +kernel
theorem dX12_login_5 : decode cX12_login 5 = .ok (.ifCond .ne 40, 3) := by decide +kernel
theorem dX12_login_8 : decode cX12_login 8 = .ok (.aload_n 0, 1) := by decide +kernel
theorem dX12_login_9 : decode cX12_login 9 = .ok (.iload_n 2, 1) := by decide +kernel
theorem dX12_login_10 : decode cX12_login 10 = .ok (.iconst 0, 1) := by decide +kernel
theorem dX12_login_11 : decode cX12_login 11 = .ok (.sipush 9999, 3) := by decide +kernel
theorem dX12_login_14 : decode cX12_login 14 = .ok (.invokevirtual 400, 3) := by decide +kernel
theorem dX12_login_17 : decode cX12_login 17 = .ok (.ifCond .ne 28, 3) := by decide +kernel
theorem dX12_login_20 : decode cX12_login 20 = .ok (.aload_n 0, 1) := by decide +kernel
theorem dX12_login_21 : decode cX12_login 21 = .ok (.aload_n 0, 1) := by decide +kernel
theorem dX12_login_22 : decode cX12_login 22 = .ok (.getfield 7, 3) := by decide +kernel
theorem dX12_login_25 : decode cX12_login 25 = .ok (.iload_n 1, 1) := by decide +kernel
theorem dX12_login_26 : decode cX12_login 26 = .ok (.iload_n 2, 1) := by decide +kernel
theorem dX12_login_27 : decode cX12_login 27 = .ok (.invokestatic 263, 3) := by decide +kernel
theorem dX12_login_30 : decode cX12_login 30 = .ok (.ifCond .eq 7, 3) := by decide +kernel
theorem dX12_login_33 : decode cX12_login 33 = .ok (.iconst 1, 1) := by decide +kernel
theorem dX12_login_34 : decode cX12_login 34 = .ok (.goto 4, 3) := by decide +kernel
theorem dX12_login_37 : decode cX12_login 37 = .ok (.iconst 0, 1) := by decide +kernel
theorem dX12_login_38 : decode cX12_login 38 = .ok (.iconst 3, 1) := by decide +kernel
theorem dX12_login_39 : decode cX12_login 39 = .ok (.invokevirtual 152, 3) := by decide +kernel
theorem dX12_login_42 : decode cX12_login 42 = .ok (.ifCond .eq 5, 3) := by decide +kernel
theorem dX12_login_45 : decode cX12_login 45 = .ok (.iconst 0, 1) := by decide +kernel
theorem dX12_login_46 : decode cX12_login 46 = .ok (.ireturn, 1) := by decide +kernel
theorem dX12_login_47 : decode cX12_login 47 = .ok (.aload_n 0, 1) := by decide +kernel
theorem dX12_login_48 : decode cX12_login 48 = .ok (.invokevirtual 369, 3) := by decide +kernel
theorem dX12_login_51 : decode cX12_login 51 = .ok (.aload_n 0, 1) := by decide +kernel
theorem dX12_login_52 : decode cX12_login 52 = .ok (.getfield 7, 3) := by decide +kernel
theorem dX12_login_55 : decode cX12_login 55 = .ok (.iload_n 1, 1) := by decide +kernel
theorem dX12_login_56 : decode cX12_login 56 = .ok (.iload_n 3, 1) := by decide +kernel
theorem dX12_login_57 : decode cX12_login 57 = .ok (.invokestatic 266, 3) := by decide +kernel
theorem dX12_login_60 : decode cX12_login 60 = .ok (.ireturn, 1) := by decide +kernel
theorem dX12_refer_0 : decode cX12_refer 0 = .ok (.aload_n 0, 1) := by decide +kernel
theorem dX12_refer_1 : decode cX12_refer 1 = .ok (.iload_n 1, 1) := by decide +kernel
theorem dX12_refer_2 : decode cX12_refer 2 = .ok (.invokevirtual 394, 3) := by decide +kernel
theorem dX12_refer_5 : decode cX12_refer 5 = .ok (.ifCond .ne 52, 3) := by decide +kernel
theorem dX12_refer_8 : decode cX12_refer 8 = .ok (.aload_n 0, 1) := by decide +kernel
theorem dX12_refer_9 : decode cX12_refer 9 = .ok (.iload_n 2, 1) := by decide +kernel
theorem dX12_refer_10 : decode cX12_refer 10 = .ok (.iconst 0, 1) := by decide +kernel
theorem dX12_refer_11 : decode cX12_refer 11 = .ok (.aload_n 0, 1) := by decide +kernel
theorem dX12_refer_12 : decode cX12_refer 12 = .ok (.getfield 7, 3) := by decide +kernel
theorem dX12_refer_15 : decode cX12_refer 15 = .ok (.iconst 3, 1) := by decide +kernel
theorem dX12_refer_16 : decode cX12_refer 16 = .ok (.iaload, 1) := by decide +kernel
theorem dX12_refer_17 : decode cX12_refer 17 = .ok (.iconst 1, 1) := by decide +kernel
theorem dX12_refer_18 : decode cX12_refer 18 = .ok (.isub, 1) := by decide +kernel
theorem dX12_refer_19 : decode cX12_refer 19 = .ok (.invokevirtual 400, 3) := by decide +kernel
theorem dX12_refer_22 : decode cX12_refer 22 = .ok (.ifCond .ne 35, 3) := by decide +kernel
theorem dX12_refer_25 : decode cX12_refer 25 = .ok (.aload_n 0, 1) := by decide +kernel
theorem dX12_refer_26 : decode cX12_refer 26 = .ok (.aload_n 0, 1) := by decide +kernel
theorem dX12_refer_27 : decode cX12_refer 27 = .ok (.getfield 7, 3) := by decide +kernel
theorem dX12_refer_30 : decode cX12_refer 30 = .ok (.aload_n 0, 1) := by decide +kernel
theorem dX12_refer_31 : decode cX12_refer 31 = .ok (.getfield 7, 3) := by decide +kernel
theorem dX12_refer_34 : decode cX12_refer 34 = .ok (.iload_n 1, 1) := by decide +kernel
theorem dX12_refer_35 : decode cX12_refer 35 = .ok (.invokestatic 226, 3) := by decide +kernel
theorem dX12_refer_38 : decode cX12_refer 38 = .ok (.iload_n 2, 1) := by decide +kernel
theorem dX12_refer_39 : decode cX12_refer 39 = .ok (.invokestatic 273, 3) := by decide +kernel
theorem dX12_refer_42 : decode cX12_refer 42 = .ok (.ifCond .eq 7, 3) := by decide +kernel
theorem dX12_refer_45 : decode cX12_refer 45 = .ok (.iconst 1, 1) := by decide +kernel
theorem dX12_refer_46 : decode cX12_refer 46 = .ok (.goto 4, 3) := by decide +kernel
theorem dX12_refer_49 : decode cX12_refer 49 = .ok (.iconst 0, 1) := by decide +kernel
theorem dX12_refer_50 : decode cX12_refer 50 = .ok (.iconst 3, 1) := by decide +kernel
theorem dX12_refer_51 : decode cX12_refer 51 = .ok (.invokevirtual 152, 3) := by decide +kernel
theorem dX12_refer_54 : decode cX12_refer 54 = .ok (.ifCond .eq 5, 3) := by decide +kernel
theorem dX12_refer_57 : decode cX12_refer 57 = .ok (.iconst 0, 1) := by decide +kernel
theorem dX12_refer_58 : decode cX12_refer 58 = .ok (.ireturn, 1) := by decide +kernel
theorem dX12_refer_59 : decode cX12_refer 59 = .ok (.aload_n 0, 1) := by decide +kernel
theorem dX12_refer_60 : decode cX12_refer 60 = .ok (.invokevirtual 369, 3) := by decide +kernel
theorem dX12_refer_63 : decode cX12_refer 63 = .ok (.aload_n 0, 1) := by decide +kernel
theorem dX12_refer_64 : decode cX12_refer 64 = .ok (.getfield 7, 3) := by decide +kernel
theorem dX12_refer_67 : decode cX12_refer 67 = .ok (.aload_n 0, 1) := by decide +kernel
theorem dX12_refer_68 : decode cX12_refer 68 = .ok (.getfield 7, 3) := by decide +kernel
theorem dX12_refer_71 : decode cX12_refer 71 = .ok (.iload_n 1, 1) := by decide +kernel
theorem dX12_refer_72 : decode cX12_refer 72 = .ok (.invokestatic 226, 3) := by decide +kernel
theorem dX12_refer_75 : decode cX12_refer 75 = .ok (.iload_n 2, 1) := by decide +kernel
theorem dX12_refer_76 : decode cX12_refer 76 = .ok (.iconst (-1), 1) := by decide +kernel
theorem dX12_refer_77 : decode cX12_refer 77 = .ok (.invokestatic 276, 3) := by decide +kernel
theorem dX12_refer_80 : decode cX12_refer 80 = .ok (.ireturn, 1) := by decide +kernel
theorem dX12_request_0 : decode cX12_request 0 = .ok (.aload_n 0, 1) := by decide +kernel
theorem dX12_request_1 : decode cX12_request 1 = .ok (.iload_n 1, 1) := by decide +kernel
theorem dX12_request_2 : decode cX12_request 2 = .ok (.invokevirtual 394, 3) := by decide +kernel
theorem dX12_request_5 : decode cX12_request 5 = .ok (.ifCond .ne 52, 3) := by decide +kernel
theorem dX12_request_8 : decode cX12_request 8 = .ok (.aload_n 0, 1) := by decide +kernel
theorem dX12_request_9 : decode cX12_request 9 = .ok (.iload_n 2, 1) := by decide +kernel
theorem dX12_request_10 : decode cX12_request 10 = .ok (.iconst 0, 1) := by decide +kernel
theorem dX12_request_11 : decode cX12_request 11 = .ok (.aload_n 0, 1) := by decide +kernel
theorem dX12_request_12 : decode cX12_request 12 = .ok (.getfield 7, 3) := by decide +kernel
theorem dX12_request_15 : decode cX12_request 15 = .ok (.iconst 5, 1) := by decide +kernel
theorem dX12_request_16 : decode cX12_request 16 = .ok (.iaload, 1) := by decide +kernel
theorem dX12_request_17 : decode cX12_request 17 = .ok (.iconst 1, 1) := by decide +kernel
theorem dX12_request_18 : decode cX12_request 18 = .ok (.isub, 1) := by decide +kernel
theorem dX12_request_19 : decode cX12_request 19 = .ok (.invokevirtual 400, 3) := by decide +kernel
theorem dX12_request_22 : decode cX12_request 22 = .ok (.ifCond .ne 35, 3) := by decide +kernel
theorem dX12_request_25 : decode cX12_request 25 = .ok (.aload_n 0, 1) := by decide +kernel
theorem dX12_request_26 : decode cX12_request 26 = .ok (.aload_n 0, 1) := by decide +kernel
theorem dX12_request_27 : decode cX12_request 27 = .ok (.getfield 7, 3) := by decide +kernel
theorem dX12_request_30 : decode cX12_request 30 = .ok (.aload_n 0, 1) := by decide +kernel
theorem dX12_request_31 : decode cX12_request 31 = .ok (.getfield 7, 3) := by decide +kernel
theorem dX12_request_34 : decode cX12_request 34 = .ok (.iload_n 1, 1) := by decide +kernel
theorem dX12_request_35 : decode cX12_request 35 = .ok (.invokestatic 226, 3) := by decide +kernel
theorem dX12_request_38 : decode cX12_request 38 = .ok (.iload_n 2, 1) := by decide +kernel
theorem dX12_request_39 : decode cX12_request 39 = .ok (.invokestatic 283, 3) := by decide +kernel
theorem dX12_request_42 : decode cX12_request 42 = .ok (.ifCond .eq 7, 3) := by decide +kernel
theorem dX12_request_45 : decode cX12_request 45 = .ok (.iconst 1, 1) := by decide +kernel
theorem dX12_request_46 : decode cX12_request 46 = .ok (.goto 4, 3) := by decide +kernel
theorem dX12_request_49 : decode cX12_request 49 = .ok (.iconst 0, 1) := by decide +kernel
theorem dX12_request_50 : decode cX12_request 50 = .ok (.iconst 3, 1) := by decide +kernel
theorem dX12_request_51 : decode cX12_request 51 = .ok (.invokevirtual 152, 3) := by decide +kernel
theorem dX12_request_54 : decode cX12_request 54 = .ok (.ifCond .eq 5, 3) := by decide +kernel
theorem dX12_request_57 : decode cX12_request 57 = .ok (.iconst 0, 1) := by decide +kernel
theorem dX12_request_58 : decode cX12_request 58 = .ok (.ireturn, 1) := by decide +kernel
theorem dX12_request_59 : decode cX12_request 59 = .ok (.aload_n 0, 1) := by decide +kernel
theorem dX12_request_60 : decode cX12_request 60 = .ok (.invokevirtual 369, 3) := by decide +kernel
theorem dX12_request_63 : decode cX12_request 63 = .ok (.aload_n 0, 1) := by decide +kernel
theorem dX12_request_64 : decode cX12_request 64 = .ok (.getfield 7, 3) := by decide +kernel
theorem dX12_request_67 : decode cX12_request 67 = .ok (.aload_n 0, 1) := by decide +kernel
theorem dX12_request_68 : decode cX12_request 68 = .ok (.getfield 7, 3) := by decide +kernel
theorem dX12_request_71 : decode cX12_request 71 = .ok (.iload_n 1, 1) := by decide +kernel
theorem dX12_request_72 : decode cX12_request 72 = .ok (.invokestatic 226, 3) := by decide +kernel
theorem dX12_request_75 : decode cX12_request 75 = .ok (.aload_n 0, 1) := by decide +kernel
theorem dX12_request_76 : decode cX12_request 76 = .ok (.getfield 7, 3) := by decide +kernel
theorem dX12_request_79 : decode cX12_request 79 = .ok (.iload_n 2, 1) := by decide +kernel
theorem dX12_request_80 : decode cX12_request 80 = .ok (.invokestatic 122, 3) := by decide +kernel
theorem dX12_request_83 : decode cX12_request 83 = .ok (.iconst 1, 1) := by decide +kernel
theorem dX12_request_84 : decode cX12_request 84 = .ok (.iadd, 1) := by decide +kernel
theorem dX12_request_85 : decode cX12_request 85 = .ok (.iaload, 1) := by decide +kernel
theorem dX12_request_86 : decode cX12_request 86 = .ok (.iload_n 2, 1) := by decide +kernel
theorem dX12_request_87 : decode cX12_request 87 = .ok (.invokestatic 276, 3) := by decide +kernel
theorem dX12_request_90 : decode cX12_request 90 = .ok (.ireturn, 1) := by decide +kernel
theorem dX12_renew_0 : decode cX12_renew 0 = .ok (.aload_n 0, 1) := by decide +kernel
theorem dX12_renew_1 : decode cX12_renew 1 = .ok (.iload_n 1, 1) := by decide +kernel
theorem dX12_renew_2 : decode cX12_renew 2 = .ok (.invokevirtual 394, 3) := by decide +kernel
theorem dX12_renew_5 : decode cX12_renew 5 = .ok (.ifCond .ne 34, 3) := by decide +kernel
theorem dX12_renew_8 : decode cX12_renew 8 = .ok (.aload_n 0, 1) := by decide +kernel
theorem dX12_renew_9 : decode cX12_renew 9 = .ok (.aload_n 0, 1) := by decide +kernel
theorem dX12_renew_10 : decode cX12_renew 10 = .ok (.getfield 7, 3) := by decide +kernel
theorem dX12_renew_13 : decode cX12_renew 13 = .ok (.aload_n 0, 1) := by decide +kernel
theorem dX12_renew_14 : decode cX12_renew 14 = .ok (.getfield 7, 3) := by decide +kernel
theorem dX12_renew_17 : decode cX12_renew 17 = .ok (.iload_n 1, 1) := by decide +kernel
theorem dX12_renew_18 : decode cX12_renew 18 = .ok (.invokestatic 226, 3) := by decide +kernel
theorem dX12_renew_21 : decode cX12_renew 21 = .ok (.invokestatic 286, 3) := by decide +kernel
theorem dX12_renew_24 : decode cX12_renew 24 = .ok (.ifCond .eq 7, 3) := by decide +kernel
theorem dX12_renew_27 : decode cX12_renew 27 = .ok (.iconst 1, 1) := by decide +kernel
theorem dX12_renew_28 : decode cX12_renew 28 = .ok (.goto 4, 3) := by decide +kernel
theorem dX12_renew_31 : decode cX12_renew 31 = .ok (.iconst 0, 1) := by decide +kernel
theorem dX12_renew_32 : decode cX12_renew 32 = .ok (.iconst 2, 1) := by decide +kernel
theorem dX12_renew_33 : decode cX12_renew 33 = .ok (.invokevirtual 152, 3) := by decide +kernel
theorem dX12_renew_36 : decode cX12_renew 36 = .ok (.ifCond .eq 5, 3) := by decide +kernel
theorem dX12_renew_39 : decode cX12_renew 39 = .ok (.iconst 0, 1) := by decide +kernel
theorem dX12_renew_40 : decode cX12_renew 40 = .ok (.ireturn, 1) := by decide +kernel
theorem dX12_renew_41 : decode cX12_renew 41 = .ok (.aload_n 0, 1) := by decide +kernel
theorem dX12_renew_42 : decode cX12_renew 42 = .ok (.invokevirtual 369, 3) := by decide +kernel
theorem dX12_renew_45 : decode cX12_renew 45 = .ok (.aload_n 0, 1) := by decide +kernel
theorem dX12_renew_46 : decode cX12_renew 46 = .ok (.getfield 7, 3) := by decide +kernel
theorem dX12_renew_49 : decode cX12_renew 49 = .ok (.aload_n 0, 1) := by decide +kernel
theorem dX12_renew_50 : decode cX12_renew 50 = .ok (.getfield 7, 3) := by decide +kernel
theorem dX12_renew_53 : decode cX12_renew 53 = .ok (.iload_n 1, 1) := by decide +kernel
theorem dX12_renew_54 : decode cX12_renew 54 = .ok (.invokestatic 226, 3) := by decide +kernel
theorem dX12_renew_57 : decode cX12_renew 57 = .ok (.invokestatic 289, 3) := by decide +kernel
theorem dX12_renew_60 : decode cX12_renew 60 = .ok (.ireturn, 1) := by decide +kernel
theorem dX12_cheese_0 : decode cX12_cheese 0 = .ok (.aload_n 0, 1) := by decide +kernel
theorem dX12_cheese_1 : decode cX12_cheese 1 = .ok (.iload_n 1, 1) := by decide +kernel
theorem dX12_cheese_2 : decode cX12_cheese 2 = .ok (.invokevirtual 394, 3) := by decide +kernel
theorem dX12_cheese_5 : decode cX12_cheese 5 = .ok (.ifCond .ne 34, 3) := by decide +kernel
theorem dX12_cheese_8 : decode cX12_cheese 8 = .ok (.aload_n 0, 1) := by decide +kernel
theorem dX12_cheese_9 : decode cX12_cheese 9 = .ok (.aload_n 0, 1) := by decide +kernel
theorem dX12_cheese_10 : decode cX12_cheese 10 = .ok (.getfield 7, 3) := by decide +kernel
theorem dX12_cheese_13 : decode cX12_cheese 13 = .ok (.aload_n 0, 1) := by decide +kernel
theorem dX12_cheese_14 : decode cX12_cheese 14 = .ok (.getfield 7, 3) := by decide +kernel
theorem dX12_cheese_17 : decode cX12_cheese 17 = .ok (.iload_n 1, 1) := by decide +kernel
theorem dX12_cheese_18 : decode cX12_cheese 18 = .ok (.invokestatic 226, 3) := by decide +kernel
theorem dX12_cheese_21 : decode cX12_cheese 21 = .ok (.invokestatic 292, 3) := by decide +kernel
theorem dX12_cheese_24 : decode cX12_cheese 24 = .ok (.ifCond .eq 7, 3) := by decide +kernel
theorem dX12_cheese_27 : decode cX12_cheese 27 = .ok (.iconst 1, 1) := by decide +kernel
theorem dX12_cheese_28 : decode cX12_cheese 28 = .ok (.goto 4, 3) := by decide +kernel
theorem dX12_cheese_31 : decode cX12_cheese 31 = .ok (.iconst 0, 1) := by decide +kernel
theorem dX12_cheese_32 : decode cX12_cheese 32 = .ok (.iconst 2, 1) := by decide +kernel
theorem dX12_cheese_33 : decode cX12_cheese 33 = .ok (.invokevirtual 152, 3) := by decide +kernel
theorem dX12_cheese_36 : decode cX12_cheese 36 = .ok (.ifCond .eq 5, 3) := by decide +kernel
theorem dX12_cheese_39 : decode cX12_cheese 39 = .ok (.iconst 0, 1) := by decide +kernel
theorem dX12_cheese_40 : decode cX12_cheese 40 = .ok (.ireturn, 1) := by decide +kernel
theorem dX12_cheese_41 : decode cX12_cheese 41 = .ok (.aload_n 0, 1) := by decide +kernel
theorem dX12_cheese_42 : decode cX12_cheese 42 = .ok (.invokevirtual 369, 3) := by decide +kernel
theorem dX12_cheese_45 : decode cX12_cheese 45 = .ok (.aload_n 0, 1) := by decide +kernel
theorem dX12_cheese_46 : decode cX12_cheese 46 = .ok (.getfield 7, 3) := by decide +kernel
theorem dX12_cheese_49 : decode cX12_cheese 49 = .ok (.aload_n 0, 1) := by decide +kernel
theorem dX12_cheese_50 : decode cX12_cheese 50 = .ok (.getfield 7, 3) := by decide +kernel
theorem dX12_cheese_53 : decode cX12_cheese 53 = .ok (.iload_n 1, 1) := by decide +kernel
theorem dX12_cheese_54 : decode cX12_cheese 54 = .ok (.invokestatic 226, 3) := by decide +kernel
theorem dX12_cheese_57 : decode cX12_cheese 57 = .ok (.invokestatic 295, 3) := by decide +kernel
theorem dX12_cheese_60 : decode cX12_cheese 60 = .ok (.ireturn, 1) := by decide +kernel
theorem dX12_drop_0 : decode cX12_drop 0 = .ok (.aload_n 0, 1) := by decide +kernel
theorem dX12_drop_1 : decode cX12_drop 1 = .ok (.iload_n 1, 1) := by decide +kernel
theorem dX12_drop_2 : decode cX12_drop 2 = .ok (.invokevirtual 394, 3) := by decide +kernel
theorem dX12_drop_5 : decode cX12_drop 5 = .ok (.ifCond .eq 5, 3) := by decide +kernel
theorem dX12_drop_8 : decode cX12_drop 8 = .ok (.iconst 0, 1) := by decide +kernel
theorem dX12_drop_9 : decode cX12_drop 9 = .ok (.ireturn, 1) := by decide +kernel
theorem dX12_drop_10 : decode cX12_drop 10 = .ok (.aload_n 0, 1) := by decide +kernel
theorem dX12_drop_11 : decode cX12_drop 11 = .ok (.invokevirtual 369, 3) := by decide +kernel
theorem dX12_drop_14 : decode cX12_drop 14 = .ok (.aload_n 0, 1) := by decide +kernel
theorem dX12_drop_15 : decode cX12_drop 15 = .ok (.getfield 7, 3) := by decide +kernel
theorem dX12_drop_18 : decode cX12_drop 18 = .ok (.aload_n 0, 1) := by decide +kernel
theorem dX12_drop_19 : decode cX12_drop 19 = .ok (.getfield 7, 3) := by decide +kernel
theorem dX12_drop_22 : decode cX12_drop 22 = .ok (.iload_n 1, 1) := by decide +kernel
theorem dX12_drop_23 : decode cX12_drop 23 = .ok (.invokestatic 226, 3) := by decide +kernel
theorem dX12_drop_26 : decode cX12_drop 26 = .ok (.invokestatic 142, 3) := by decide +kernel
theorem dX12_drop_29 : decode cX12_drop 29 = .ok (.ireturn, 1) := by decide +kernel
theorem dX12_sweep_0 : decode cX12_sweep 0 = .ok (.aload_n 0, 1) := by decide +kernel
theorem dX12_sweep_1 : decode cX12_sweep 1 = .ok (.iconst 0, 1) := by decide +kernel
theorem dX12_sweep_2 : decode cX12_sweep 2 = .ok (.putfield 72, 3) := by decide +kernel
theorem dX12_sweep_5 : decode cX12_sweep 5 = .ok (.aload_n 0, 1) := by decide +kernel
theorem dX12_sweep_6 : decode cX12_sweep 6 = .ok (.invokevirtual 369, 3) := by decide +kernel
theorem dX12_sweep_9 : decode cX12_sweep 9 = .ok (.aload_n 0, 1) := by decide +kernel
theorem dX12_sweep_10 : decode cX12_sweep 10 = .ok (.getfield 7, 3) := by decide +kernel
theorem dX12_sweep_13 : decode cX12_sweep 13 = .ok (.invokestatic 298, 3) := by decide +kernel
theorem dX12_sweep_16 : decode cX12_sweep 16 = .ok (.ireturn, 1) := by decide +kernel
theorem dX12_setOf_0 : decode cX12_setOf 0 = .ok (.aload_n 0, 1) := by decide +kernel
theorem dX12_setOf_1 : decode cX12_setOf 1 = .ok (.invokevirtual 369, 3) := by decide +kernel
theorem dX12_setOf_4 : decode cX12_setOf 4 = .ok (.aload_n 0, 1) := by decide +kernel
theorem dX12_setOf_5 : decode cX12_setOf 5 = .ok (.getfield 7, 3) := by decide +kernel
theorem dX12_setOf_8 : decode cX12_setOf 8 = .ok (.iload_n 1, 1) := by decide +kernel
theorem dX12_setOf_9 : decode cX12_setOf 9 = .ok (.invokestatic 87, 3) := by decide +kernel
theorem dX12_setOf_12 : decode cX12_setOf 12 = .ok (.iload_n 2, 1) := by decide +kernel
theorem dX12_setOf_13 : decode cX12_setOf 13 = .ok (.iadd, 1) := by decide +kernel
theorem dX12_setOf_14 : decode cX12_setOf 14 = .ok (.iaload, 1) := by decide +kernel
theorem dX12_setOf_15 : decode cX12_setOf 15 = .ok (.istore 4, 2) := by decide +kernel
theorem dX12_setOf_17 : decode cX12_setOf 17 = .ok (.aload_n 0, 1) := by decide +kernel
theorem dX12_setOf_18 : decode cX12_setOf 18 = .ok (.getfield 7, 3) := by decide +kernel
theorem dX12_setOf_21 : decode cX12_setOf 21 = .ok (.iload_n 1, 1) := by decide +kernel
theorem dX12_setOf_22 : decode cX12_setOf 22 = .ok (.invokestatic 87, 3) := by decide +kernel
theorem dX12_setOf_25 : decode cX12_setOf 25 = .ok (.iload_n 2, 1) := by decide +kernel
theorem dX12_setOf_26 : decode cX12_setOf 26 = .ok (.iadd, 1) := by decide +kernel
theorem dX12_setOf_27 : decode cX12_setOf 27 = .ok (.iload_n 3, 1) := by decide +kernel
theorem dX12_setOf_28 : decode cX12_setOf 28 = .ok (.iastore, 1) := by decide +kernel
theorem dX12_setOf_29 : decode cX12_setOf 29 = .ok (.iload 4, 2) := by decide +kernel
theorem dX12_setOf_31 : decode cX12_setOf 31 = .ok (.ireturn, 1) := by decide +kernel
theorem dX12_setPassword_0 : decode cX12_setPassword 0 = .ok (.aload_n 0, 1) := by decide +kernel
theorem dX12_setPassword_1 : decode cX12_setPassword 1 = .ok (.iload_n 1, 1) := by decide +kernel
theorem dX12_setPassword_2 : decode cX12_setPassword 2 = .ok (.invokevirtual 388, 3) := by decide +kernel
theorem dX12_setPassword_5 : decode cX12_setPassword 5 = .ok (.ifCond .ne 15, 3) := by decide +kernel
theorem dX12_setPassword_8 : decode cX12_setPassword 8 = .ok (.aload_n 0, 1) := by decide +kernel
theorem dX12_setPassword_9 : decode cX12_setPassword 9 = .ok (.iload_n 2, 1) := by decide +kernel
theorem dX12_setPassword_10 : decode cX12_setPassword 10 = .ok (.iconst 0, 1) := by decide +kernel
theorem dX12_setPassword_11 : decode cX12_setPassword 11 = .ok (.sipush 9999, 3) := by decide +kernel
theorem dX12_setPassword_14 : decode cX12_setPassword 14 = .ok (.invokevirtual 400, 3) := by decide +kernel
theorem dX12_setPassword_17 : decode cX12_setPassword 17 = .ok (.ifCond .eq 5, 3) := by decide +kernel
theorem dX12_setPassword_20 : decode cX12_setPassword 20 = .ok (.iconst 0, 1) := by decide +kernel
theorem dX12_setPassword_21 : decode cX12_setPassword 21 = .ok (.ireturn, 1) := by decide +kernel
theorem dX12_setPassword_22 : decode cX12_setPassword 22 = .ok (.aload_n 0, 1) := by decide +kernel
theorem dX12_setPassword_23 : decode cX12_setPassword 23 = .ok (.iload_n 1, 1) := by decide +kernel
theorem dX12_setPassword_24 : decode cX12_setPassword 24 = .ok (.iconst 2, 1) := by decide +kernel
theorem dX12_setPassword_25 : decode cX12_setPassword 25 = .ok (.iload_n 2, 1) := by decide +kernel
theorem dX12_setPassword_26 : decode cX12_setPassword 26 = .ok (.invokevirtual 406, 3) := by decide +kernel
theorem dX12_setPassword_29 : decode cX12_setPassword 29 = .ok (.ireturn, 1) := by decide +kernel
theorem dX12_setClock_0 : decode cX12_setClock 0 = .ok (.aload_n 0, 1) := by decide +kernel
theorem dX12_setClock_1 : decode cX12_setClock 1 = .ok (.iload_n 1, 1) := by decide +kernel
theorem dX12_setClock_2 : decode cX12_setClock 2 = .ok (.invokevirtual 388, 3) := by decide +kernel
theorem dX12_setClock_5 : decode cX12_setClock 5 = .ok (.ifCond .ne 15, 3) := by decide +kernel
theorem dX12_setClock_8 : decode cX12_setClock 8 = .ok (.aload_n 0, 1) := by decide +kernel
theorem dX12_setClock_9 : decode cX12_setClock 9 = .ok (.iload_n 2, 1) := by decide +kernel
theorem dX12_setClock_10 : decode cX12_setClock 10 = .ok (.bipush (-9), 2) := by decide +kernel
theorem dX12_setClock_12 : decode cX12_setClock 12 = .ok (.bipush 9, 2) := by decide +kernel
theorem dX12_setClock_14 : decode cX12_setClock 14 = .ok (.invokevirtual 400, 3) := by decide +kernel
theorem dX12_setClock_17 : decode cX12_setClock 17 = .ok (.ifCond .eq 5, 3) := by decide +kernel
theorem dX12_setClock_20 : decode cX12_setClock 20 = .ok (.iconst 0, 1) := by decide +kernel
theorem dX12_setClock_21 : decode cX12_setClock 21 = .ok (.ireturn, 1) := by decide +kernel
theorem dX12_setClock_22 : decode cX12_setClock 22 = .ok (.aload_n 0, 1) := by decide +kernel
theorem dX12_setClock_23 : decode cX12_setClock 23 = .ok (.iload_n 1, 1) := by decide +kernel
theorem dX12_setClock_24 : decode cX12_setClock 24 = .ok (.iconst 3, 1) := by decide +kernel
theorem dX12_setClock_25 : decode cX12_setClock 25 = .ok (.iload_n 2, 1) := by decide +kernel
theorem dX12_setClock_26 : decode cX12_setClock 26 = .ok (.invokevirtual 406, 3) := by decide +kernel
theorem dX12_setClock_29 : decode cX12_setClock 29 = .ok (.ireturn, 1) := by decide +kernel
theorem dX12_pass_0 : decode cX12_pass 0 = .ok (.aload_n 0, 1) := by decide +kernel
theorem dX12_pass_1 : decode cX12_pass 1 = .ok (.iload_n 1, 1) := by decide +kernel
theorem dX12_pass_2 : decode cX12_pass 2 = .ok (.iconst 1, 1) := by decide +kernel
theorem dX12_pass_3 : decode cX12_pass 3 = .ok (.sipush 999, 3) := by decide +kernel
theorem dX12_pass_6 : decode cX12_pass 6 = .ok (.invokevirtual 160, 3) := by decide +kernel
theorem dX12_pass_9 : decode cX12_pass 9 = .ok (.ifCond .eq 5, 3) := by decide +kernel
theorem dX12_pass_12 : decode cX12_pass 12 = .ok (.iconst 0, 1) := by decide +kernel
theorem dX12_pass_13 : decode cX12_pass 13 = .ok (.ireturn, 1) := by decide +kernel
theorem dX12_pass_14 : decode cX12_pass 14 = .ok (.aload_n 0, 1) := by decide +kernel
theorem dX12_pass_15 : decode cX12_pass 15 = .ok (.invokevirtual 369, 3) := by decide +kernel
theorem dX12_pass_18 : decode cX12_pass 18 = .ok (.aload_n 0, 1) := by decide +kernel
theorem dX12_pass_19 : decode cX12_pass 19 = .ok (.getfield 7, 3) := by decide +kernel
theorem dX12_pass_22 : decode cX12_pass 22 = .ok (.iload_n 1, 1) := by decide +kernel
theorem dX12_pass_23 : decode cX12_pass 23 = .ok (.invokestatic 301, 3) := by decide +kernel
theorem dX12_pass_26 : decode cX12_pass 26 = .ok (.ireturn, 1) := by decide +kernel
theorem dX12_print_0 : decode cX12_print 0 = .ok (.aload_n 0, 1) := by decide +kernel
theorem dX12_print_1 : decode cX12_print 1 = .ok (.getfield 42, 3) := by decide +kernel
theorem dX12_print_4 : decode cX12_print 4 = .ok (.aload_n 0, 1) := by decide +kernel
theorem dX12_print_5 : decode cX12_print 5 = .ok (.getfield 410, 3) := by decide +kernel
theorem dX12_print_8 : decode cX12_print 8 = .ok (.iload_n 1, 1) := by decide +kernel
theorem dX12_print_9 : decode cX12_print 9 = .ok (.i2b, 1) := by decide +kernel
theorem dX12_print_10 : decode cX12_print 10 = .ok (.bastore, 1) := by decide +kernel
theorem dX12_print_11 : decode cX12_print 11 = .ok (.aload_n 0, 1) := by decide +kernel
theorem dX12_print_12 : decode cX12_print 12 = .ok (.dup, 1) := by decide +kernel
theorem dX12_print_13 : decode cX12_print 13 = .ok (.getfield 410, 3) := by decide +kernel
theorem dX12_print_16 : decode cX12_print 16 = .ok (.iconst 1, 1) := by decide +kernel
theorem dX12_print_17 : decode cX12_print 17 = .ok (.iadd, 1) := by decide +kernel
theorem dX12_print_18 : decode cX12_print 18 = .ok (.putfield 410, 3) := by decide +kernel
theorem dX12_print_21 : decode cX12_print 21 = .ok (.return_, 1) := by decide +kernel
theorem dX12_printNumber_0 : decode cX12_printNumber 0 = .ok (.iconst 1, 1) := by decide +kernel
theorem dX12_printNumber_1 : decode cX12_printNumber 1 = .ok (.istore_n 2, 1) := by decide +kernel
theorem dX12_printNumber_2 : decode cX12_printNumber 2 = .ok (.iload_n 1, 1) := by decide +kernel
theorem dX12_printNumber_3 : decode cX12_printNumber 3 = .ok (.iload_n 2, 1) := by decide +kernel
theorem dX12_printNumber_4 : decode cX12_printNumber 4 = .ok (.idiv, 1) := by decide +kernel
theorem dX12_printNumber_5 : decode cX12_printNumber 5 = .ok (.bipush 9, 2) := by decide +kernel
theorem dX12_printNumber_7 : decode cX12_printNumber 7 = .ok (.if_icmp .le 11, 3) := by decide +kernel
theorem dX12_printNumber_10 : decode cX12_printNumber 10 = .ok (.iload_n 2, 1) := by decide +kernel
theorem dX12_printNumber_11 : decode cX12_printNumber 11 = .ok (.bipush 10, 2) := by decide +kernel
theorem dX12_printNumber_13 : decode cX12_printNumber 13 = .ok (.imul, 1) := by decide +kernel
theorem dX12_printNumber_14 : decode cX12_printNumber 14 = .ok (.istore_n 2, 1) := by decide +kernel
theorem dX12_printNumber_15 : decode cX12_printNumber 15 = .ok (.goto (-13), 3) := by decide +kernel
theorem dX12_printNumber_18 : decode cX12_printNumber 18 = .ok (.iload_n 2, 1) := by decide +kernel
theorem dX12_printNumber_19 : decode cX12_printNumber 19 = .ok (.istore_n 3, 1) := by decide +kernel
theorem dX12_printNumber_20 : decode cX12_printNumber 20 = .ok (.iload_n 3, 1) := by decide +kernel
theorem dX12_printNumber_21 : decode cX12_printNumber 21 = .ok (.ifCond .le 24, 3) := by decide +kernel
theorem dX12_printNumber_24 : decode cX12_printNumber 24 = .ok (.aload_n 0, 1) := by decide +kernel
theorem dX12_printNumber_25 : decode cX12_printNumber 25 = .ok (.bipush 48, 2) := by decide +kernel
theorem dX12_printNumber_27 : decode cX12_printNumber 27 = .ok (.iload_n 1, 1) := by decide +kernel
theorem dX12_printNumber_28 : decode cX12_printNumber 28 = .ok (.iload_n 3, 1) := by decide +kernel
theorem dX12_printNumber_29 : decode cX12_printNumber 29 = .ok (.idiv, 1) := by decide +kernel
theorem dX12_printNumber_30 : decode cX12_printNumber 30 = .ok (.bipush 10, 2) := by decide +kernel
theorem dX12_printNumber_32 : decode cX12_printNumber 32 = .ok (.irem, 1) := by decide +kernel
theorem dX12_printNumber_33 : decode cX12_printNumber 33 = .ok (.iadd, 1) := by decide +kernel
theorem dX12_printNumber_34 : decode cX12_printNumber 34 = .ok (.invokevirtual 413, 3) := by decide +kernel
theorem dX12_printNumber_37 : decode cX12_printNumber 37 = .ok (.iload_n 3, 1) := by decide +kernel
theorem dX12_printNumber_38 : decode cX12_printNumber 38 = .ok (.bipush 10, 2) := by decide +kernel
theorem dX12_printNumber_40 : decode cX12_printNumber 40 = .ok (.idiv, 1) := by decide +kernel
theorem dX12_printNumber_41 : decode cX12_printNumber 41 = .ok (.istore_n 3, 1) := by decide +kernel
theorem dX12_printNumber_42 : decode cX12_printNumber 42 = .ok (.goto (-22), 3) := by decide +kernel
theorem dX12_printNumber_45 : decode cX12_printNumber 45 = .ok (.return_, 1) := by decide +kernel
theorem dX12_printName_0 : decode cX12_printName 0 = .ok (.sipush 19683, 3) := by decide +kernel
theorem dX12_printName_3 : decode cX12_printName 3 = .ok (.istore_n 2, 1) := by decide +kernel
theorem dX12_printName_4 : decode cX12_printName 4 = .ok (.iload_n 2, 1) := by decide +kernel
theorem dX12_printName_5 : decode cX12_printName 5 = .ok (.ifCond .le 30, 3) := by decide +kernel
theorem dX12_printName_8 : decode cX12_printName 8 = .ok (.iload_n 1, 1) := by decide +kernel
theorem dX12_printName_9 : decode cX12_printName 9 = .ok (.iload_n 2, 1) := by decide +kernel
theorem dX12_printName_10 : decode cX12_printName 10 = .ok (.idiv, 1) := by decide +kernel
theorem dX12_printName_11 : decode cX12_printName 11 = .ok (.bipush 27, 2) := by decide +kernel
theorem dX12_printName_13 : decode cX12_printName 13 = .ok (.irem, 1) := by decide +kernel
theorem dX12_printName_14 : decode cX12_printName 14 = .ok (.istore_n 3, 1) := by decide +kernel
theorem dX12_printName_15 : decode cX12_printName 15 = .ok (.iload_n 3, 1) := by decide +kernel
theorem dX12_printName_16 : decode cX12_printName 16 = .ok (.ifCond .le 11, 3) := by decide +kernel
theorem dX12_printName_19 : decode cX12_printName 19 = .ok (.aload_n 0, 1) := by decide +kernel
theorem dX12_printName_20 : decode cX12_printName 20 = .ok (.bipush 96, 2) := by decide +kernel
theorem dX12_printName_22 : decode cX12_printName 22 = .ok (.iload_n 3, 1) := by decide +kernel
theorem dX12_printName_23 : decode cX12_printName 23 = .ok (.iadd, 1) := by decide +kernel
theorem dX12_printName_24 : decode cX12_printName 24 = .ok (.invokevirtual 413, 3) := by decide +kernel
theorem dX12_printName_27 : decode cX12_printName 27 = .ok (.iload_n 2, 1) := by decide +kernel
theorem dX12_printName_28 : decode cX12_printName 28 = .ok (.bipush 27, 2) := by decide +kernel
theorem dX12_printName_30 : decode cX12_printName 30 = .ok (.idiv, 1) := by decide +kernel
theorem dX12_printName_31 : decode cX12_printName 31 = .ok (.istore_n 2, 1) := by decide +kernel
theorem dX12_printName_32 : decode cX12_printName 32 = .ok (.goto (-28), 3) := by decide +kernel
theorem dX12_printName_35 : decode cX12_printName 35 = .ok (.return_, 1) := by decide +kernel
theorem dX12_writeTicket_0 : decode cX12_writeTicket 0 = .ok (.aload_n 0, 1) := by decide +kernel
theorem dX12_writeTicket_1 : decode cX12_writeTicket 1 = .ok (.iload_n 1, 1) := by decide +kernel
theorem dX12_writeTicket_2 : decode cX12_writeTicket 2 = .ok (.invokevirtual 394, 3) := by decide +kernel
theorem dX12_writeTicket_5 : decode cX12_writeTicket 5 = .ok (.ifCond .eq 5, 3) := by decide +kernel
theorem dX12_writeTicket_8 : decode cX12_writeTicket 8 = .ok (.iconst 0, 1) := by decide +kernel
theorem dX12_writeTicket_9 : decode cX12_writeTicket 9 = .ok (.ireturn, 1) := by decide +kernel
theorem dX12_writeTicket_10 : decode cX12_writeTicket 10 = .ok (.aload_n 0, 1) := by decide +kernel
theorem dX12_writeTicket_11 : decode cX12_writeTicket 11 = .ok (.getfield 7, 3) := by decide +kernel
theorem dX12_writeTicket_14 : decode cX12_writeTicket 14 = .ok (.iload_n 1, 1) := by decide +kernel
theorem dX12_writeTicket_15 : decode cX12_writeTicket 15 = .ok (.invokestatic 226, 3) := by decide +kernel
theorem dX12_writeTicket_18 : decode cX12_writeTicket 18 = .ok (.invokestatic 98, 3) := by decide +kernel
theorem dX12_writeTicket_21 : decode cX12_writeTicket 21 = .ok (.istore_n 2, 1) := by decide +kernel
theorem dX12_writeTicket_22 : decode cX12_writeTicket 22 = .ok (.aload_n 0, 1) := by decide +kernel
theorem dX12_writeTicket_23 : decode cX12_writeTicket 23 = .ok (.iconst 0, 1) := by decide +kernel
theorem dX12_writeTicket_24 : decode cX12_writeTicket 24 = .ok (.putfield 410, 3) := by decide +kernel
theorem dX12_writeTicket_27 : decode cX12_writeTicket 27 = .ok (.aload_n 0, 1) := by decide +kernel
theorem dX12_writeTicket_28 : decode cX12_writeTicket 28 = .ok (.iload_n 1, 1) := by decide +kernel
theorem dX12_writeTicket_29 : decode cX12_writeTicket 29 = .ok (.invokevirtual 416, 3) := by decide +kernel
theorem dX12_writeTicket_32 : decode cX12_writeTicket 32 = .ok (.aload_n 0, 1) := by decide +kernel
theorem dX12_writeTicket_33 : decode cX12_writeTicket 33 = .ok (.bipush 58, 2) := by decide +kernel
theorem dX12_writeTicket_35 : decode cX12_writeTicket 35 = .ok (.invokevirtual 413, 3) := by decide +kernel
theorem dX12_writeTicket_38 : decode cX12_writeTicket 38 = .ok (.aload_n 0, 1) := by decide +kernel
theorem dX12_writeTicket_39 : decode cX12_writeTicket 39 = .ok (.aload_n 0, 1) := by decide +kernel
theorem dX12_writeTicket_40 : decode cX12_writeTicket 40 = .ok (.getfield 7, 3) := by decide +kernel
theorem dX12_writeTicket_43 : decode cX12_writeTicket 43 = .ok (.aload_n 0, 1) := by decide +kernel
theorem dX12_writeTicket_44 : decode cX12_writeTicket 44 = .ok (.getfield 7, 3) := by decide +kernel
theorem dX12_writeTicket_47 : decode cX12_writeTicket 47 = .ok (.iload_n 2, 1) := by decide +kernel
theorem dX12_writeTicket_48 : decode cX12_writeTicket 48 = .ok (.iconst 2, 1) := by decide +kernel
theorem dX12_writeTicket_49 : decode cX12_writeTicket 49 = .ok (.iadd, 1) := by decide +kernel
theorem dX12_writeTicket_50 : decode cX12_writeTicket 50 = .ok (.iaload, 1) := by decide +kernel
theorem dX12_writeTicket_51 : decode cX12_writeTicket 51 = .ok (.invokestatic 87, 3) := by decide +kernel
theorem dX12_writeTicket_54 : decode cX12_writeTicket 54 = .ok (.iconst 0, 1) := by decide +kernel
theorem dX12_writeTicket_55 : decode cX12_writeTicket 55 = .ok (.iadd, 1) := by decide +kernel
theorem dX12_writeTicket_56 : decode cX12_writeTicket 56 = .ok (.iaload, 1) := by decide +kernel
theorem dX12_writeTicket_57 : decode cX12_writeTicket 57 = .ok (.invokevirtual 419, 3) := by decide +kernel
theorem dX12_writeTicket_60 : decode cX12_writeTicket 60 = .ok (.aload_n 0, 1) := by decide +kernel
theorem dX12_writeTicket_61 : decode cX12_writeTicket 61 = .ok (.bipush 64, 2) := by decide +kernel
theorem dX12_writeTicket_63 : decode cX12_writeTicket 63 = .ok (.invokevirtual 413, 3) := by decide +kernel
theorem dX12_writeTicket_66 : decode cX12_writeTicket 66 = .ok (.aload_n 0, 1) := by decide +kernel
theorem dX12_writeTicket_67 : decode cX12_writeTicket 67 = .ok (.aload_n 0, 1) := by decide +kernel
theorem dX12_writeTicket_68 : decode cX12_writeTicket 68 = .ok (.getfield 7, 3) := by decide +kernel
theorem dX12_writeTicket_71 : decode cX12_writeTicket 71 = .ok (.aload_n 0, 1) := by decide +kernel
theorem dX12_writeTicket_72 : decode cX12_writeTicket 72 = .ok (.getfield 7, 3) := by decide +kernel
theorem dX12_writeTicket_75 : decode cX12_writeTicket 75 = .ok (.iload_n 2, 1) := by decide +kernel
theorem dX12_writeTicket_76 : decode cX12_writeTicket 76 = .ok (.iconst 3, 1) := by decide +kernel
theorem dX12_writeTicket_77 : decode cX12_writeTicket 77 = .ok (.iadd, 1) := by decide +kernel
theorem dX12_writeTicket_78 : decode cX12_writeTicket 78 = .ok (.iaload, 1) := by decide +kernel
theorem dX12_writeTicket_79 : decode cX12_writeTicket 79 = .ok (.invokestatic 91, 3) := by decide +kernel
theorem dX12_writeTicket_82 : decode cX12_writeTicket 82 = .ok (.iconst 0, 1) := by decide +kernel
theorem dX12_writeTicket_83 : decode cX12_writeTicket 83 = .ok (.iadd, 1) := by decide +kernel
theorem dX12_writeTicket_84 : decode cX12_writeTicket 84 = .ok (.iaload, 1) := by decide +kernel
theorem dX12_writeTicket_85 : decode cX12_writeTicket 85 = .ok (.invokevirtual 419, 3) := by decide +kernel
theorem dX12_writeTicket_88 : decode cX12_writeTicket 88 = .ok (.aload_n 0, 1) := by decide +kernel
theorem dX12_writeTicket_89 : decode cX12_writeTicket 89 = .ok (.getfield 7, 3) := by decide +kernel
theorem dX12_writeTicket_92 : decode cX12_writeTicket 92 = .ok (.iload_n 2, 1) := by decide +kernel
theorem dX12_writeTicket_93 : decode cX12_writeTicket 93 = .ok (.iconst 1, 1) := by decide +kernel
theorem dX12_writeTicket_94 : decode cX12_writeTicket 94 = .ok (.iadd, 1) := by decide +kernel
theorem dX12_writeTicket_95 : decode cX12_writeTicket 95 = .ok (.iaload, 1) := by decide +kernel
theorem dX12_writeTicket_96 : decode cX12_writeTicket 96 = .ok (.iconst 1, 1) := by decide +kernel
theorem dX12_writeTicket_97 : decode cX12_writeTicket 97 = .ok (.if_icmp .ne 31, 3) := by decide +kernel
theorem dX12_writeTicket_100 : decode cX12_writeTicket 100 = .ok (.aload_n 0, 1) := by decide +kernel
theorem dX12_writeTicket_101 : decode cX12_writeTicket 101 = .ok (.bipush 47, 2) := by decide +kernel
theorem dX12_writeTicket_103 : decode cX12_writeTicket 103 = .ok (.invokevirtual 413, 3) := by decide +kernel
theorem dX12_writeTicket_106 : decode cX12_writeTicket 106 = .ok (.aload_n 0, 1) := by decide +kernel
theorem dX12_writeTicket_107 : decode cX12_writeTicket 107 = .ok (.aload_n 0, 1) := by decide +kernel
theorem dX12_writeTicket_108 : decode cX12_writeTicket 108 = .ok (.getfield 7, 3) := by decide +kernel
theorem dX12_writeTicket_111 : decode cX12_writeTicket 111 = .ok (.aload_n 0, 1) := by decide +kernel
theorem dX12_writeTicket_112 : decode cX12_writeTicket 112 = .ok (.getfield 7, 3) := by decide +kernel
theorem dX12_writeTicket_115 : decode cX12_writeTicket 115 = .ok (.iload_n 2, 1) := by decide +kernel
theorem dX12_writeTicket_116 : decode cX12_writeTicket 116 = .ok (.iconst 4, 1) := by decide +kernel
theorem dX12_writeTicket_117 : decode cX12_writeTicket 117 = .ok (.iadd, 1) := by decide +kernel
theorem dX12_writeTicket_118 : decode cX12_writeTicket 118 = .ok (.iaload, 1) := by decide +kernel
theorem dX12_writeTicket_119 : decode cX12_writeTicket 119 = .ok (.invokestatic 122, 3) := by decide +kernel
theorem dX12_writeTicket_122 : decode cX12_writeTicket 122 = .ok (.iconst 0, 1) := by decide +kernel
theorem dX12_writeTicket_123 : decode cX12_writeTicket 123 = .ok (.iadd, 1) := by decide +kernel
theorem dX12_writeTicket_124 : decode cX12_writeTicket 124 = .ok (.iaload, 1) := by decide +kernel
theorem dX12_writeTicket_125 : decode cX12_writeTicket 125 = .ok (.invokevirtual 419, 3) := by decide +kernel
theorem dX12_writeTicket_128 : decode cX12_writeTicket 128 = .ok (.aload_n 0, 1) := by decide +kernel
theorem dX12_writeTicket_129 : decode cX12_writeTicket 129 = .ok (.bipush 32, 2) := by decide +kernel
theorem dX12_writeTicket_131 : decode cX12_writeTicket 131 = .ok (.invokevirtual 413, 3) := by decide +kernel
theorem dX12_writeTicket_134 : decode cX12_writeTicket 134 = .ok (.aload_n 0, 1) := by decide +kernel
theorem dX12_writeTicket_135 : decode cX12_writeTicket 135 = .ok (.aload_n 0, 1) := by decide +kernel
theorem dX12_writeTicket_136 : decode cX12_writeTicket 136 = .ok (.getfield 7, 3) := by decide +kernel
theorem dX12_writeTicket_139 : decode cX12_writeTicket 139 = .ok (.iload_n 2, 1) := by decide +kernel
theorem dX12_writeTicket_140 : decode cX12_writeTicket 140 = .ok (.bipush 6, 2) := by decide +kernel
theorem dX12_writeTicket_142 : decode cX12_writeTicket 142 = .ok (.iadd, 1) := by decide +kernel
theorem dX12_writeTicket_143 : decode cX12_writeTicket 143 = .ok (.iaload, 1) := by decide +kernel
theorem dX12_writeTicket_144 : decode cX12_writeTicket 144 = .ok (.invokevirtual 416, 3) := by decide +kernel
theorem dX12_writeTicket_147 : decode cX12_writeTicket 147 = .ok (.aload_n 0, 1) := by decide +kernel
theorem dX12_writeTicket_148 : decode cX12_writeTicket 148 = .ok (.getfield 7, 3) := by decide +kernel
theorem dX12_writeTicket_151 : decode cX12_writeTicket 151 = .ok (.iload_n 2, 1) := by decide +kernel
theorem dX12_writeTicket_152 : decode cX12_writeTicket 152 = .ok (.bipush 9, 2) := by decide +kernel
theorem dX12_writeTicket_154 : decode cX12_writeTicket 154 = .ok (.iadd, 1) := by decide +kernel
theorem dX12_writeTicket_155 : decode cX12_writeTicket 155 = .ok (.iaload, 1) := by decide +kernel
theorem dX12_writeTicket_156 : decode cX12_writeTicket 156 = .ok (.iconst 1, 1) := by decide +kernel
theorem dX12_writeTicket_157 : decode cX12_writeTicket 157 = .ok (.if_icmp .ne 9, 3) := by decide +kernel
theorem dX12_writeTicket_160 : decode cX12_writeTicket 160 = .ok (.aload_n 0, 1) := by decide +kernel
theorem dX12_writeTicket_161 : decode cX12_writeTicket 161 = .ok (.bipush 43, 2) := by decide +kernel
theorem dX12_writeTicket_163 : decode cX12_writeTicket 163 = .ok (.invokevirtual 413, 3) := by decide +kernel
theorem dX12_writeTicket_166 : decode cX12_writeTicket 166 = .ok (.aload_n 0, 1) := by decide +kernel
theorem dX12_writeTicket_167 : decode cX12_writeTicket 167 = .ok (.getfield 410, 3) := by decide +kernel
theorem dX12_writeTicket_170 : decode cX12_writeTicket 170 = .ok (.ireturn, 1) := by decide +kernel
theorem dX12_outputByte_0 : decode cX12_outputByte 0 = .ok (.aload_n 0, 1) := by decide +kernel
theorem dX12_outputByte_1 : decode cX12_outputByte 1 = .ok (.iload_n 1, 1) := by decide +kernel
theorem dX12_outputByte_2 : decode cX12_outputByte 2 = .ok (.iconst 0, 1) := by decide +kernel
theorem dX12_outputByte_3 : decode cX12_outputByte 3 = .ok (.aload_n 0, 1) := by decide +kernel
theorem dX12_outputByte_4 : decode cX12_outputByte 4 = .ok (.getfield 410, 3) := by decide +kernel
theorem dX12_outputByte_7 : decode cX12_outputByte 7 = .ok (.iconst 1, 1) := by decide +kernel
theorem dX12_outputByte_8 : decode cX12_outputByte 8 = .ok (.isub, 1) := by decide +kernel
theorem dX12_outputByte_9 : decode cX12_outputByte 9 = .ok (.invokevirtual 160, 3) := by decide +kernel
theorem dX12_outputByte_12 : decode cX12_outputByte 12 = .ok (.ifCond .eq 5, 3) := by decide +kernel
theorem dX12_outputByte_15 : decode cX12_outputByte 15 = .ok (.iconst 0, 1) := by decide +kernel
theorem dX12_outputByte_16 : decode cX12_outputByte 16 = .ok (.ireturn, 1) := by decide +kernel
theorem dX12_outputByte_17 : decode cX12_outputByte 17 = .ok (.aload_n 0, 1) := by decide +kernel
theorem dX12_outputByte_18 : decode cX12_outputByte 18 = .ok (.getfield 42, 3) := by decide +kernel
theorem dX12_outputByte_21 : decode cX12_outputByte 21 = .ok (.iload_n 1, 1) := by decide +kernel
theorem dX12_outputByte_22 : decode cX12_outputByte 22 = .ok (.baload, 1) := by decide +kernel
theorem dX12_outputByte_23 : decode cX12_outputByte 23 = .ok (.ireturn, 1) := by decide +kernel
theorem dX12_save_0 : decode cX12_save 0 = .ok (.aload_n 0, 1) := by decide +kernel
theorem dX12_save_1 : decode cX12_save 1 = .ok (.iload_n 1, 1) := by decide +kernel
theorem dX12_save_2 : decode cX12_save 2 = .ok (.iconst 0, 1) := by decide +kernel
theorem dX12_save_3 : decode cX12_save 3 = .ok (.iconst 1, 1) := by decide +kernel
theorem dX12_save_4 : decode cX12_save 4 = .ok (.invokevirtual 160, 3) := by decide +kernel
theorem dX12_save_7 : decode cX12_save 7 = .ok (.ifCond .eq 5, 3) := by decide +kernel
theorem dX12_save_10 : decode cX12_save 10 = .ok (.iconst 0, 1) := by decide +kernel
theorem dX12_save_11 : decode cX12_save 11 = .ok (.ireturn, 1) := by decide +kernel
theorem dX12_save_12 : decode cX12_save 12 = .ok (.aload_n 0, 1) := by decide +kernel
theorem dX12_save_13 : decode cX12_save 13 = .ok (.getfield 7, 3) := by decide +kernel
theorem dX12_save_16 : decode cX12_save 16 = .ok (.iconst 0, 1) := by decide +kernel
theorem dX12_save_17 : decode cX12_save 17 = .ok (.aload_n 0, 1) := by decide +kernel
theorem dX12_save_18 : decode cX12_save 18 = .ok (.getfield 22, 3) := by decide +kernel
theorem dX12_save_21 : decode cX12_save 21 = .ok (.sipush 463, 3) := by decide +kernel
theorem dX12_save_24 : decode cX12_save 24 = .ok (.iload_n 1, 1) := by decide +kernel
theorem dX12_save_25 : decode cX12_save 25 = .ok (.imul, 1) := by decide +kernel
theorem dX12_save_26 : decode cX12_save 26 = .ok (.invokestatic 58, 3) := by decide +kernel
theorem dX12_save_29 : decode cX12_save 29 = .ok (.aload_n 0, 1) := by decide +kernel
theorem dX12_save_30 : decode cX12_save 30 = .ok (.getfield 25, 3) := by decide +kernel
theorem dX12_save_33 : decode cX12_save 33 = .ok (.iload_n 1, 1) := by decide +kernel
theorem dX12_save_34 : decode cX12_save 34 = .ok (.iconst 1, 1) := by decide +kernel
theorem dX12_save_35 : decode cX12_save 35 = .ok (.bastore, 1) := by decide +kernel
theorem dX12_save_36 : decode cX12_save 36 = .ok (.aload_n 0, 1) := by decide +kernel
theorem dX12_save_37 : decode cX12_save 37 = .ok (.getfield 7, 3) := by decide +kernel
theorem dX12_save_40 : decode cX12_save 40 = .ok (.iconst 0, 1) := by decide +kernel
theorem dX12_save_41 : decode cX12_save 41 = .ok (.iaload, 1) := by decide +kernel
theorem dX12_save_42 : decode cX12_save 42 = .ok (.ireturn, 1) := by decide +kernel
theorem dX12_restore_0 : decode cX12_restore 0 = .ok (.aload_n 0, 1) := by decide +kernel
theorem dX12_restore_1 : decode cX12_restore 1 = .ok (.iload_n 1, 1) := by decide +kernel
theorem dX12_restore_2 : decode cX12_restore 2 = .ok (.iconst 0, 1) := by decide +kernel
theorem dX12_restore_3 : decode cX12_restore 3 = .ok (.iconst 1, 1) := by decide +kernel
theorem dX12_restore_4 : decode cX12_restore 4 = .ok (.invokevirtual 160, 3) := by decide +kernel
theorem dX12_restore_7 : decode cX12_restore 7 = .ok (.ifCond .ne 25, 3) := by decide +kernel
theorem dX12_restore_10 : decode cX12_restore 10 = .ok (.aload_n 0, 1) := by decide +kernel
theorem dX12_restore_11 : decode cX12_restore 11 = .ok (.aload_n 0, 1) := by decide +kernel
theorem dX12_restore_12 : decode cX12_restore 12 = .ok (.getfield 25, 3) := by decide +kernel
theorem dX12_restore_15 : decode cX12_restore 15 = .ok (.iload_n 1, 1) := by decide +kernel
theorem dX12_restore_16 : decode cX12_restore 16 = .ok (.baload, 1) := by decide +kernel
theorem dX12_restore_17 : decode cX12_restore 17 = .ok (.ifCond .ne 7, 3) := by decide +kernel
theorem dX12_restore_20 : decode cX12_restore 20 = .ok (.iconst 1, 1) := by decide +kernel
theorem dX12_restore_21 : decode cX12_restore 21 = .ok (.goto 4, 3) := by decide +kernel
theorem dX12_restore_24 : decode cX12_restore 24 = .ok (.iconst 0, 1) := by decide +kernel
theorem dX12_restore_25 : decode cX12_restore 25 = .ok (.iconst 2, 1) := by decide +kernel
theorem dX12_restore_26 : decode cX12_restore 26 = .ok (.invokevirtual 152, 3) := by decide +kernel
theorem dX12_restore_29 : decode cX12_restore 29 = .ok (.ifCond .eq 5, 3) := by decide +kernel
theorem dX12_restore_32 : decode cX12_restore 32 = .ok (.iconst 0, 1) := by decide +kernel
theorem dX12_restore_33 : decode cX12_restore 33 = .ok (.ireturn, 1) := by decide +kernel
theorem dX12_restore_34 : decode cX12_restore 34 = .ok (.aload_n 0, 1) := by decide +kernel
theorem dX12_restore_35 : decode cX12_restore 35 = .ok (.invokevirtual 369, 3) := by decide +kernel
theorem dX12_restore_38 : decode cX12_restore 38 = .ok (.aload_n 0, 1) := by decide +kernel
theorem dX12_restore_39 : decode cX12_restore 39 = .ok (.getfield 22, 3) := by decide +kernel
theorem dX12_restore_42 : decode cX12_restore 42 = .ok (.sipush 463, 3) := by decide +kernel
theorem dX12_restore_45 : decode cX12_restore 45 = .ok (.iload_n 1, 1) := by decide +kernel
theorem dX12_restore_46 : decode cX12_restore 46 = .ok (.imul, 1) := by decide +kernel
theorem dX12_restore_47 : decode cX12_restore 47 = .ok (.aload_n 0, 1) := by decide +kernel
theorem dX12_restore_48 : decode cX12_restore 48 = .ok (.getfield 7, 3) := by decide +kernel
theorem dX12_restore_51 : decode cX12_restore 51 = .ok (.iconst 0, 1) := by decide +kernel
theorem dX12_restore_52 : decode cX12_restore 52 = .ok (.invokestatic 58, 3) := by decide +kernel
theorem dX12_restore_55 : decode cX12_restore 55 = .ok (.aload_n 0, 1) := by decide +kernel
theorem dX12_restore_56 : decode cX12_restore 56 = .ok (.getfield 7, 3) := by decide +kernel
theorem dX12_restore_59 : decode cX12_restore 59 = .ok (.iconst 0, 1) := by decide +kernel
theorem dX12_restore_60 : decode cX12_restore 60 = .ok (.iaload, 1) := by decide +kernel
theorem dX12_restore_61 : decode cX12_restore 61 = .ok (.ireturn, 1) := by decide +kernel
