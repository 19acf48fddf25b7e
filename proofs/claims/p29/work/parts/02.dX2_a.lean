theorem dX2_init_0 : decode cX2_init 0 = .ok (.aload_n 0, 1) := by decide +kernel
theorem dX2_init_1 : decode cX2_init 1 = .ok (.invokespecial 3, 3) := by decide +kernel
theorem dX2_init_4 : decode cX2_init 4 = .ok (.aload_n 0, 1) := by decide +kernel
theorem dX2_init_5 : decode cX2_init 5 = .ok (.new 9, 3) := by decide +kernel
theorem dX2_init_8 : decode cX2_init 8 = .ok (.dup, 1) := by decide +kernel
theorem dX2_init_9 : decode cX2_init 9 = .ok (.invokespecial 11, 3) := by decide +kernel
theorem dX2_init_12 : decode cX2_init 12 = .ok (.putfield 12, 3) := by decide +kernel
theorem dX2_init_15 : decode cX2_init 15 = .ok (.aload_n 0, 1) := by decide +kernel
theorem dX2_init_16 : decode cX2_init 16 = .ok (.iconst 4, 1) := by decide +kernel
theorem dX2_init_17 : decode cX2_init 17 = .ok (.newarray .int, 2) := by decide +kernel
theorem dX2_init_19 : decode cX2_init 19 = .ok (.putfield 18, 3) := by decide +kernel
theorem dX2_init_22 : decode cX2_init 22 = .ok (.aload_n 0, 1) := by decide +kernel
theorem dX2_init_23 : decode cX2_init 23 = .ok (.iconst 3, 1) := by decide +kernel
theorem dX2_init_24 : decode cX2_init 24 = .ok (.newarray .int, 2) := by decide +kernel
theorem dX2_init_26 : decode cX2_init 26 = .ok (.putfield 22, 3) := by decide +kernel
theorem dX2_init_29 : decode cX2_init 29 = .ok (.return_, 1) := by decide +kernel
theorem dX2_isSpan_0 : decode cX2_isSpan 0 = .ok (.iload_n 0, 1) := by decide +kernel
theorem dX2_isSpan_1 : decode cX2_isSpan 1 = .ok (.iconst 1, 1) := by decide +kernel
theorem dX2_isSpan_2 : decode cX2_isSpan 2 = .ok (.bipush 24, 2) := by decide +kernel
theorem dX2_isSpan_4 : decode cX2_isSpan 4 = .ok (.invokestatic 25, 3) := by decide +kernel
theorem dX2_isSpan_7 : decode cX2_isSpan 7 = .ok (.ireturn, 1) := by decide +kernel
theorem dX2_forget_0 : decode cX2_forget 0 = .ok (.aload_n 0, 1) := by decide +kernel
theorem dX2_forget_1 : decode cX2_forget 1 = .ok (.iconst 0, 1) := by decide +kernel
theorem dX2_forget_2 : decode cX2_forget 2 = .ok (.putfield 29, 3) := by decide +kernel
theorem dX2_forget_5 : decode cX2_forget 5 = .ok (.return_, 1) := by decide +kernel
theorem dX2_knows_0 : decode cX2_knows 0 = .ok (.aload_n 0, 1) := by decide +kernel
theorem dX2_knows_1 : decode cX2_knows 1 = .ok (.getfield 29, 3) := by decide +kernel
theorem dX2_knows_4 : decode cX2_knows 4 = .ok (.iload_n 1, 1) := by decide +kernel
theorem dX2_knows_5 : decode cX2_knows 5 = .ok (.if_icmp .ne 23, 3) := by decide +kernel
theorem dX2_knows_8 : decode cX2_knows 8 = .ok (.aload_n 0, 1) := by decide +kernel
theorem dX2_knows_9 : decode cX2_knows 9 = .ok (.getfield 33, 3) := by decide +kernel
theorem dX2_knows_12 : decode cX2_knows 12 = .ok (.iload_n 2, 1) := by decide +kernel
theorem dX2_knows_13 : decode cX2_knows 13 = .ok (.if_icmp .ne 15, 3) := by decide +kernel
theorem dX2_knows_16 : decode cX2_knows 16 = .ok (.aload_n 0, 1) := by decide +kernel
theorem dX2_knows_17 : decode cX2_knows 17 = .ok (.getfield 36, 3) := by decide +kernel
theorem dX2_knows_20 : decode cX2_knows 20 = .ok (.iload_n 3, 1) := by decide +kernel
theorem dX2_knows_21 : decode cX2_knows 21 = .ok (.if_icmp .ne 7, 3) := by decide +kernel
theorem dX2_knows_24 : decode cX2_knows 24 = .ok (.iconst 1, 1) := by decide +kernel
theorem dX2_knows_25 : decode cX2_knows 25 = .ok (.goto 4, 3) := by decide +kernel
theorem dX2_knows_28 : decode cX2_knows 28 = .ok (.iconst 0, 1) := by decide +kernel
theorem dX2_knows_29 : decode cX2_knows 29 = .ok (.istore 4, 2) := by decide +kernel
theorem dX2_knows_31 : decode cX2_knows 31 = .ok (.aload_n 0, 1) := by decide +kernel
theorem dX2_knows_32 : decode cX2_knows 32 = .ok (.iload_n 1, 1) := by decide +kernel
theorem dX2_knows_33 : decode cX2_knows 33 = .ok (.putfield 29, 3) := by decide +kernel
theorem dX2_knows_36 : decode cX2_knows 36 = .ok (.aload_n 0, 1) := by decide +kernel
theorem dX2_knows_37 : decode cX2_knows 37 = .ok (.iload_n 2, 1) := by decide +kernel
theorem dX2_knows_38 : decode cX2_knows 38 = .ok (.putfield 33, 3) := by decide +kernel
theorem dX2_knows_41 : decode cX2_knows 41 = .ok (.aload_n 0, 1) := by decide +kernel
theorem dX2_knows_42 : decode cX2_knows 42 = .ok (.iload_n 3, 1) := by decide +kernel
theorem dX2_knows_43 : decode cX2_knows 43 = .ok (.putfield 36, 3) := by decide +kernel
theorem dX2_knows_46 : decode cX2_knows 46 = .ok (.iload 4, 2) := by decide +kernel
theorem dX2_knows_48 : decode cX2_knows 48 = .ok (.ireturn, 1) := by decide +kernel
theorem dX2_worldAfter_0 : decode cX2_worldAfter 0 = .ok (.aload_n 0, 1) := by decide +kernel
theorem dX2_worldAfter_1 : decode cX2_worldAfter 1 = .ok (.getfield 12, 3) := by decide +kernel
theorem dX2_worldAfter_4 : decode cX2_worldAfter 4 = .ok (.aload_n 1, 1) := by decide +kernel
theorem dX2_worldAfter_5 : decode cX2_worldAfter 5 = .ok (.invokevirtual 39, 3) := by decide +kernel
theorem dX2_worldAfter_8 : decode cX2_worldAfter 8 = .ok (.iconst 0, 1) := by decide +kernel
theorem dX2_worldAfter_9 : decode cX2_worldAfter 9 = .ok (.istore 4, 2) := by decide +kernel
theorem dX2_worldAfter_11 : decode cX2_worldAfter 11 = .ok (.iload 4, 2) := by decide +kernel
theorem dX2_worldAfter_13 : decode cX2_worldAfter 13 = .ok (.iload_n 3, 1) := by decide +kernel
theorem dX2_worldAfter_14 : decode cX2_worldAfter 14 = .ok (.if_icmp .ge 20, 3) := by decide +kernel
theorem dX2_worldAfter_17 : decode cX2_worldAfter 17 = .ok (.aload_n 0, 1) := by decide +kernel
theorem dX2_worldAfter_18 : decode cX2_worldAfter 18 = .ok (.getfield 12, 3) := by decide +kernel
theorem dX2_worldAfter_21 : decode cX2_worldAfter 21 = .ok (.aload_n 2, 1) := by decide +kernel
theorem dX2_worldAfter_22 : decode cX2_worldAfter 22 = .ok (.bipush 100, 2) := by decide +kernel
theorem dX2_worldAfter_24 : decode cX2_worldAfter 24 = .ok (.invokevirtual 43, 3) := by decide +kernel
theorem dX2_worldAfter_27 : decode cX2_worldAfter 27 = .ok (.pop, 1) := by decide +kernel
theorem dX2_worldAfter_28 : decode cX2_worldAfter 28 = .ok (.iinc 4 1, 3) := by decide +kernel
theorem dX2_worldAfter_31 : decode cX2_worldAfter 31 = .ok (.goto (-20), 3) := by decide +kernel
theorem dX2_worldAfter_34 : decode cX2_worldAfter 34 = .ok (.aload_n 0, 1) := by decide +kernel
theorem dX2_worldAfter_35 : decode cX2_worldAfter 35 = .ok (.getfield 12, 3) := by decide +kernel
theorem dX2_worldAfter_38 : decode cX2_worldAfter 38 = .ok (.areturn, 1) := by decide +kernel
theorem dX2_moneyThen_0 : decode cX2_moneyThen 0 = .ok (.iconst 0, 1) := by decide +kernel
theorem dX2_moneyThen_1 : decode cX2_moneyThen 1 = .ok (.istore_n 2, 1) := by decide +kernel
theorem dX2_moneyThen_2 : decode cX2_moneyThen 2 = .ok (.iload_n 2, 1) := by decide +kernel
theorem dX2_moneyThen_3 : decode cX2_moneyThen 3 = .ok (.aload_n 0, 1) := by decide +kernel
theorem dX2_moneyThen_4 : decode cX2_moneyThen 4 = .ok (.getfield 36, 3) := by decide +kernel
theorem dX2_moneyThen_7 : decode cX2_moneyThen 7 = .ok (.if_icmp .ge 20, 3) := by decide +kernel
theorem dX2_moneyThen_10 : decode cX2_moneyThen 10 = .ok (.aload_n 0, 1) := by decide +kernel
theorem dX2_moneyThen_11 : decode cX2_moneyThen 11 = .ok (.getfield 12, 3) := by decide +kernel
theorem dX2_moneyThen_14 : decode cX2_moneyThen 14 = .ok (.aload_n 1, 1) := by decide +kernel
theorem dX2_moneyThen_15 : decode cX2_moneyThen 15 = .ok (.bipush 100, 2) := by decide +kernel
theorem dX2_moneyThen_17 : decode cX2_moneyThen 17 = .ok (.invokevirtual 43, 3) := by decide +kernel
theorem dX2_moneyThen_20 : decode cX2_moneyThen 20 = .ok (.pop, 1) := by decide +kernel
theorem dX2_moneyThen_21 : decode cX2_moneyThen 21 = .ok (.iinc 2 1, 3) := by decide +kernel
theorem dX2_moneyThen_24 : decode cX2_moneyThen 24 = .ok (.goto (-22), 3) := by decide +kernel
theorem dX2_moneyThen_27 : decode cX2_moneyThen 27 = .ok (.aload_n 0, 1) := by decide +kernel
theorem dX2_moneyThen_28 : decode cX2_moneyThen 28 = .ok (.getfield 12, 3) := by decide +kernel
theorem dX2_moneyThen_31 : decode cX2_moneyThen 31 = .ok (.getfield 47, 3) := by decide +kernel
theorem dX2_moneyThen_34 : decode cX2_moneyThen 34 = .ok (.ireturn, 1) := by decide +kernel
theorem dX2_setBest_0 : decode cX2_setBest 0 = .ok (.aload_n 0, 1) := by decide +kernel
theorem dX2_setBest_1 : decode cX2_setBest 1 = .ok (.getfield 18, 3) := by decide +kernel
theorem dX2_setBest_4 : decode cX2_setBest 4 = .ok (.iconst 0, 1) := by decide +kernel
theorem dX2_setBest_5 : decode cX2_setBest 5 = .ok (.iload_n 1, 1) := by decide +kernel
theorem dX2_setBest_6 : decode cX2_setBest 6 = .ok (.iastore, 1) := by decide +kernel
theorem dX2_setBest_7 : decode cX2_setBest 7 = .ok (.aload_n 0, 1) := by decide +kernel
theorem dX2_setBest_8 : decode cX2_setBest 8 = .ok (.getfield 18, 3) := by decide +kernel
theorem dX2_setBest_11 : decode cX2_setBest 11 = .ok (.iconst 1, 1) := by decide +kernel
theorem dX2_setBest_12 : decode cX2_setBest 12 = .ok (.iload_n 2, 1) := by decide +kernel
theorem dX2_setBest_13 : decode cX2_setBest 13 = .ok (.iastore, 1) := by decide +kernel
theorem dX2_setBest_14 : decode cX2_setBest 14 = .ok (.aload_n 0, 1) := by decide +kernel
theorem dX2_setBest_15 : decode cX2_setBest 15 = .ok (.getfield 18, 3) := by decide +kernel
theorem dX2_setBest_18 : decode cX2_setBest 18 = .ok (.iconst 2, 1) := by decide +kernel
theorem dX2_setBest_19 : decode cX2_setBest 19 = .ok (.iload_n 3, 1) := by decide +kernel
theorem dX2_setBest_20 : decode cX2_setBest 20 = .ok (.iastore, 1) := by decide +kernel
theorem dX2_setBest_21 : decode cX2_setBest 21 = .ok (.aload_n 0, 1) := by decide +kernel
theorem dX2_setBest_22 : decode cX2_setBest 22 = .ok (.getfield 18, 3) := by decide +kernel
theorem dX2_setBest_25 : decode cX2_setBest 25 = .ok (.iconst 3, 1) := by decide +kernel
theorem dX2_setBest_26 : decode cX2_setBest 26 = .ok (.iload 4, 2) := by decide +kernel
theorem dX2_setBest_28 : decode cX2_setBest 28 = .ok (.iastore, 1) := by decide +kernel
theorem dX2_setBest_29 : decode cX2_setBest 29 = .ok (.return_, 1) := by decide +kernel
theorem dX2_keepBetter_0 : decode cX2_keepBetter 0 = .ok (.iload_n 1, 1) := by decide +kernel
theorem dX2_keepBetter_1 : decode cX2_keepBetter 1 = .ok (.aload_n 0, 1) := by decide +kernel
theorem dX2_keepBetter_2 : decode cX2_keepBetter 2 = .ok (.getfield 18, 3) := by decide +kernel
theorem dX2_keepBetter_5 : decode cX2_keepBetter 5 = .ok (.iconst 0, 1) := by decide +kernel
theorem dX2_keepBetter_6 : decode cX2_keepBetter 6 = .ok (.iaload, 1) := by decide +kernel
theorem dX2_keepBetter_7 : decode cX2_keepBetter 7 = .ok (.if_icmp .le 12, 3) := by decide +kernel
theorem dX2_keepBetter_10 : decode cX2_keepBetter 10 = .ok (.aload_n 0, 1) := by decide +kernel
theorem dX2_keepBetter_11 : decode cX2_keepBetter 11 = .ok (.iload_n 1, 1) := by decide +kernel
theorem dX2_keepBetter_12 : decode cX2_keepBetter 12 = .ok (.iload_n 2, 1) := by decide +kernel
theorem dX2_keepBetter_13 : decode cX2_keepBetter 13 = .ok (.iload_n 3, 1) := by decide +kernel
theorem dX2_keepBetter_14 : decode cX2_keepBetter 14 = .ok (.iload 4, 2) := by decide +kernel
theorem dX2_keepBetter_16 : decode cX2_keepBetter 16 = .ok (.invokevirtual 50, 3) := by decide +kernel
theorem dX2_keepBetter_19 : decode cX2_keepBetter 19 = .ok (.return_, 1) := by decide +kernel
theorem dX2_findSend_0 : decode cX2_findSend 0 = .ok (.aload_n 0, 1) := by decide +kernel
theorem dX2_findSend_1 : decode cX2_findSend 1 = .ok (.aload_n 0, 1) := by decide +kernel
theorem dX2_findSend_2 : decode cX2_findSend 2 = .ok (.aload_n 1, 1) := by decide +kernel
theorem dX2_findSend_3 : decode cX2_findSend 3 = .ok (.aload_n 2, 1) := by decide +kernel
theorem dX2_findSend_4 : decode cX2_findSend 4 = .ok (.aload_n 0, 1) := by decide +kernel
theorem dX2_findSend_5 : decode cX2_findSend 5 = .ok (.getfield 36, 3) := by decide +kernel
theorem dX2_findSend_8 : decode cX2_findSend 8 = .ok (.invokevirtual 54, 3) := by decide +kernel
theorem dX2_findSend_11 : decode cX2_findSend 11 = .ok (.getfield 47, 3) := by decide +kernel
theorem dX2_findSend_14 : decode cX2_findSend 14 = .ok (.iconst (-1), 1) := by decide +kernel
theorem dX2_findSend_15 : decode cX2_findSend 15 = .ok (.iconst 0, 1) := by decide +kernel
theorem dX2_findSend_16 : decode cX2_findSend 16 = .ok (.iconst 0, 1) := by decide +kernel
theorem dX2_findSend_17 : decode cX2_findSend 17 = .ok (.invokevirtual 50, 3) := by decide +kernel
theorem dX2_findSend_20 : decode cX2_findSend 20 = .ok (.aload_n 1, 1) := by decide +kernel
theorem dX2_findSend_21 : decode cX2_findSend 21 = .ok (.iload_n 3, 1) := by decide +kernel
theorem dX2_findSend_22 : decode cX2_findSend 22 = .ok (.invokevirtual 58, 3) := by decide +kernel
theorem dX2_findSend_25 : decode cX2_findSend 25 = .ok (.istore 4, 2) := by decide +kernel
theorem dX2_findSend_27 : decode cX2_findSend 27 = .ok (.iconst 0, 1) := by decide +kernel
theorem dX2_findSend_28 : decode cX2_findSend 28 = .ok (.istore 5, 2) := by decide +kernel
theorem dX2_findSend_30 : decode cX2_findSend 30 = .ok (.iload 5, 2) := by decide +kernel
theorem dX2_findSend_32 : decode cX2_findSend 32 = .ok (.aload_n 1, 1) := by decide +kernel
theorem dX2_findSend_33 : decode cX2_findSend 33 = .ok (.getfield 62, 3) := by decide +kernel
theorem dX2_findSend_36 : decode cX2_findSend 36 = .ok (.if_icmp .ge 109, 3) := by decide +kernel
theorem dX2_findSend_39 : decode cX2_findSend 39 = .ok (.iconst 1, 1) := by decide +kernel
theorem dX2_findSend_40 : decode cX2_findSend 40 = .ok (.istore 6, 2) := by decide +kernel
theorem dX2_findSend_42 : decode cX2_findSend 42 = .ok (.iload 6, 2) := by decide +kernel
theorem dX2_findSend_44 : decode cX2_findSend 44 = .ok (.iload 4, 2) := by decide +kernel
theorem dX2_findSend_46 : decode cX2_findSend 46 = .ok (.if_icmp .gt 93, 3) := by decide +kernel
theorem dX2_findSend_49 : decode cX2_findSend 49 = .ok (.iconst 0, 1) := by decide +kernel
theorem dX2_findSend_50 : decode cX2_findSend 50 = .ok (.istore 7, 2) := by decide +kernel
theorem dX2_findSend_52 : decode cX2_findSend 52 = .ok (.iload 7, 2) := by decide +kernel
theorem dX2_findSend_54 : decode cX2_findSend 54 = .ok (.iconst 1, 1) := by decide +kernel
theorem dX2_findSend_55 : decode cX2_findSend 55 = .ok (.if_icmp .gt 78, 3) := by decide +kernel
theorem dX2_findSend_58 : decode cX2_findSend 58 = .ok (.aload_n 1, 1) := by decide +kernel
theorem dX2_findSend_59 : decode cX2_findSend 59 = .ok (.iload_n 3, 1) := by decide +kernel
theorem dX2_findSend_60 : decode cX2_findSend 60 = .ok (.iload 5, 2) := by decide +kernel
theorem dX2_findSend_62 : decode cX2_findSend 62 = .ok (.iload 6, 2) := by decide +kernel
theorem dX2_findSend_64 : decode cX2_findSend 64 = .ok (.iload 7, 2) := by decide +kernel
theorem dX2_findSend_66 : decode cX2_findSend 66 = .ok (.iconst 1, 1) := by decide +kernel
theorem dX2_findSend_67 : decode cX2_findSend 67 = .ok (.if_icmp .ne 7, 3) := by decide +kernel
theorem dX2_findSend_70 : decode cX2_findSend 70 = .ok (.iconst 1, 1) := by decide +kernel
theorem dX2_findSend_71 : decode cX2_findSend 71 = .ok (.goto 4, 3) := by decide +kernel
theorem dX2_findSend_74 : decode cX2_findSend 74 = .ok (.iconst 0, 1) := by decide +kernel
theorem dX2_findSend_75 : decode cX2_findSend 75 = .ok (.invokevirtual 65, 3) := by decide +kernel
theorem dX2_findSend_78 : decode cX2_findSend 78 = .ok (.ifCond .eq 49, 3) := by decide +kernel
theorem dX2_findSend_81 : decode cX2_findSend 81 = .ok (.aload_n 0, 1) := by decide +kernel
theorem dX2_findSend_82 : decode cX2_findSend 82 = .ok (.getfield 12, 3) := by decide +kernel
theorem dX2_findSend_85 : decode cX2_findSend 85 = .ok (.aload_n 1, 1) := by decide +kernel
theorem dX2_findSend_86 : decode cX2_findSend 86 = .ok (.invokevirtual 39, 3) := by decide +kernel
theorem dX2_findSend_89 : decode cX2_findSend 89 = .ok (.aload_n 0, 1) := by decide +kernel
theorem dX2_findSend_90 : decode cX2_findSend 90 = .ok (.getfield 12, 3) := by decide +kernel
theorem dX2_findSend_93 : decode cX2_findSend 93 = .ok (.iload_n 3, 1) := by decide +kernel
theorem dX2_findSend_94 : decode cX2_findSend 94 = .ok (.iload 5, 2) := by decide +kernel
theorem dX2_findSend_96 : decode cX2_findSend 96 = .ok (.iload 6, 2) := by decide +kernel
theorem dX2_findSend_98 : decode cX2_findSend 98 = .ok (.iload 7, 2) := by decide +kernel
theorem dX2_findSend_100 : decode cX2_findSend 100 = .ok (.iconst 1, 1) := by decide +kernel
theorem dX2_findSend_101 : decode cX2_findSend 101 = .ok (.if_icmp .ne 7, 3) := by decide +kernel
theorem dX2_findSend_104 : decode cX2_findSend 104 = .ok (.iconst 1, 1) := by decide +kernel
theorem dX2_findSend_105 : decode cX2_findSend 105 = .ok (.goto 4, 3) := by decide +kernel
theorem dX2_findSend_108 : decode cX2_findSend 108 = .ok (.iconst 0, 1) := by decide +kernel
theorem dX2_findSend_109 : decode cX2_findSend 109 = .ok (.invokevirtual 69, 3) := by decide +kernel
theorem dX2_findSend_112 : decode cX2_findSend 112 = .ok (.aload_n 0, 1) := by decide +kernel
theorem dX2_findSend_113 : decode cX2_findSend 113 = .ok (.aload_n 0, 1) := by decide +kernel
theorem dX2_findSend_114 : decode cX2_findSend 114 = .ok (.aload_n 2, 1) := by decide +kernel
theorem dX2_findSend_115 : decode cX2_findSend 115 = .ok (.invokevirtual 73, 3) := by decide +kernel
theorem dX2_findSend_118 : decode cX2_findSend 118 = .ok (.iload 5, 2) := by decide +kernel
theorem dX2_findSend_120 : decode cX2_findSend 120 = .ok (.iload 6, 2) := by decide +kernel
theorem dX2_findSend_122 : decode cX2_findSend 122 = .ok (.iload 7, 2) := by decide +kernel
theorem dX2_findSend_124 : decode cX2_findSend 124 = .ok (.invokevirtual 77, 3) := by decide +kernel
theorem dX2_findSend_127 : decode cX2_findSend 127 = .ok (.iinc 7 1, 3) := by decide +kernel
theorem dX2_findSend_130 : decode cX2_findSend 130 = .ok (.goto (-78), 3) := by decide +kernel
theorem dX2_findSend_133 : decode cX2_findSend 133 = .ok (.iinc 6 1, 3) := by decide +kernel
theorem dX2_findSend_136 : decode cX2_findSend 136 = .ok (.goto (-94), 3) := by decide +kernel
theorem dX2_findSend_139 : decode cX2_findSend 139 = .ok (.iinc 5 1, 3) := by decide +kernel
theorem dX2_findSend_142 : decode cX2_findSend 142 = .ok (.goto (-112), 3) := by decide +kernel
theorem dX2_findSend_145 : decode cX2_findSend 145 = .ok (.return_, 1) := by decide +kernel
theorem dX2_findFleet_0 : decode cX2_findFleet 0 = .ok (.aload_n 1, 1) := by decide +kernel
theorem dX2_findFleet_1 : decode cX2_findFleet 1 = .ok (.getfield 62, 3) := by decide +kernel
theorem dX2_findFleet_4 : decode cX2_findFleet 4 = .ok (.iconst 1, 1) := by decide +kernel
theorem dX2_findFleet_5 : decode cX2_findFleet 5 = .ok (.iadd, 1) := by decide +kernel
theorem dX2_findFleet_6 : decode cX2_findFleet 6 = .ok (.istore_n 3, 1) := by decide +kernel
theorem dX2_findFleet_7 : decode cX2_findFleet 7 = .ok (.iload_n 3, 1) := by decide +kernel
theorem dX2_findFleet_8 : decode cX2_findFleet 8 = .ok (.iload_n 3, 1) := by decide +kernel
theorem dX2_findFleet_9 : decode cX2_findFleet 9 = .ok (.imul, 1) := by decide +kernel
theorem dX2_findFleet_10 : decode cX2_findFleet 10 = .ok (.iload_n 3, 1) := by decide +kernel
theorem dX2_findFleet_11 : decode cX2_findFleet 11 = .ok (.imul, 1) := by decide +kernel
theorem dX2_findFleet_12 : decode cX2_findFleet 12 = .ok (.istore 4, 2) := by decide +kernel
theorem dX2_findFleet_14 : decode cX2_findFleet 14 = .ok (.aload_n 0, 1) := by decide +kernel
theorem dX2_findFleet_15 : decode cX2_findFleet 15 = .ok (.iconst (-1), 1) := by decide +kernel
theorem dX2_findFleet_16 : decode cX2_findFleet 16 = .ok (.iconst (-1), 1) := by decide +kernel
theorem dX2_findFleet_17 : decode cX2_findFleet 17 = .ok (.iconst (-1), 1) := by decide +kernel
theorem dX2_findFleet_18 : decode cX2_findFleet 18 = .ok (.iconst (-1), 1) := by decide +kernel
theorem dX2_findFleet_19 : decode cX2_findFleet 19 = .ok (.invokevirtual 50, 3) := by decide +kernel
theorem dX2_findFleet_22 : decode cX2_findFleet 22 = .ok (.iconst 0, 1) := by decide +kernel
theorem dX2_findFleet_23 : decode cX2_findFleet 23 = .ok (.istore 5, 2) := by decide +kernel
theorem dX2_findFleet_25 : decode cX2_findFleet 25 = .ok (.iload 5, 2) := by decide +kernel
theorem dX2_findFleet_27 : decode cX2_findFleet 27 = .ok (.iload 4, 2) := by decide +kernel
theorem dX2_findFleet_29 : decode cX2_findFleet 29 = .ok (.if_icmp .ge 84, 3) := by decide +kernel
theorem dX2_findFleet_32 : decode cX2_findFleet 32 = .ok (.aload_n 0, 1) := by decide +kernel
theorem dX2_findFleet_33 : decode cX2_findFleet 33 = .ok (.getfield 22, 3) := by decide +kernel
theorem dX2_findFleet_36 : decode cX2_findFleet 36 = .ok (.iconst 0, 1) := by decide +kernel
theorem dX2_findFleet_37 : decode cX2_findFleet 37 = .ok (.iload 5, 2) := by decide +kernel
theorem dX2_findFleet_39 : decode cX2_findFleet 39 = .ok (.iload_n 3, 1) := by decide +kernel
theorem dX2_findFleet_40 : decode cX2_findFleet 40 = .ok (.idiv, 1) := by decide +kernel
theorem dX2_findFleet_41 : decode cX2_findFleet 41 = .ok (.iload_n 3, 1) := by decide +kernel
theorem dX2_findFleet_42 : decode cX2_findFleet 42 = .ok (.idiv, 1) := by decide +kernel
theorem dX2_findFleet_43 : decode cX2_findFleet 43 = .ok (.iconst 1, 1) := by decide +kernel
theorem dX2_findFleet_44 : decode cX2_findFleet 44 = .ok (.isub, 1) := by decide +kernel
theorem dX2_findFleet_45 : decode cX2_findFleet 45 = .ok (.iastore, 1) := by decide +kernel
theorem dX2_findFleet_46 : decode cX2_findFleet 46 = .ok (.aload_n 0, 1) := by decide +kernel
theorem dX2_findFleet_47 : decode cX2_findFleet 47 = .ok (.getfield 22, 3) := by decide +kernel
theorem dX2_findFleet_50 : decode cX2_findFleet 50 = .ok (.iconst 1, 1) := by decide +kernel
theorem dX2_findFleet_51 : decode cX2_findFleet 51 = .ok (.iload 5, 2) := by decide +kernel
theorem dX2_findFleet_53 : decode cX2_findFleet 53 = .ok (.iload_n 3, 1) := by decide +kernel
theorem dX2_findFleet_54 : decode cX2_findFleet 54 = .ok (.idiv, 1) := by decide +kernel
theorem dX2_findFleet_55 : decode cX2_findFleet 55 = .ok (.iload_n 3, 1) := by decide +kernel
theorem dX2_findFleet_56 : decode cX2_findFleet 56 = .ok (.irem, 1) := by decide +kernel
theorem dX2_findFleet_57 : decode cX2_findFleet 57 = .ok (.iconst 1, 1) := by decide +kernel
theorem dX2_findFleet_58 : decode cX2_findFleet 58 = .ok (.isub, 1) := by decide +kernel
theorem dX2_findFleet_59 : decode cX2_findFleet 59 = .ok (.iastore, 1) := by decide +kernel
theorem dX2_findFleet_60 : decode cX2_findFleet 60 = .ok (.aload_n 0, 1) := by decide +kernel
theorem dX2_findFleet_61 : decode cX2_findFleet 61 = .ok (.getfield 22, 3) := by decide +kernel
theorem dX2_findFleet_64 : decode cX2_findFleet 64 = .ok (.iconst 2, 1) := by decide +kernel
theorem dX2_findFleet_65 : decode cX2_findFleet 65 = .ok (.iload 5, 2) := by decide +kernel
theorem dX2_findFleet_67 : decode cX2_findFleet 67 = .ok (.iload_n 3, 1) := by decide +kernel
theorem dX2_findFleet_68 : decode cX2_findFleet 68 = .ok (.irem, 1) := by decide +kernel
theorem dX2_findFleet_69 : decode cX2_findFleet 69 = .ok (.iconst 1, 1) := by decide +kernel
theorem dX2_findFleet_70 : decode cX2_findFleet 70 = .ok (.isub, 1) := by decide +kernel
theorem dX2_findFleet_71 : decode cX2_findFleet 71 = .ok (.iastore, 1) := by decide +kernel
theorem dX2_findFleet_72 : decode cX2_findFleet 72 = .ok (.aload_n 0, 1) := by decide +kernel
theorem dX2_findFleet_73 : decode cX2_findFleet 73 = .ok (.aload_n 1, 1) := by decide +kernel
theorem dX2_findFleet_74 : decode cX2_findFleet 74 = .ok (.invokevirtual 80, 3) := by decide +kernel
theorem dX2_findFleet_77 : decode cX2_findFleet 77 = .ok (.ifCond .eq 30, 3) := by decide +kernel
theorem dX2_findFleet_80 : decode cX2_findFleet 80 = .ok (.aload_n 0, 1) := by decide +kernel
theorem dX2_findFleet_81 : decode cX2_findFleet 81 = .ok (.aload_n 0, 1) := by decide +kernel
theorem dX2_findFleet_82 : decode cX2_findFleet 82 = .ok (.aload_n 2, 1) := by decide +kernel
theorem dX2_findFleet_83 : decode cX2_findFleet 83 = .ok (.invokevirtual 73, 3) := by decide +kernel
theorem dX2_findFleet_86 : decode cX2_findFleet 86 = .ok (.aload_n 0, 1) := by decide +kernel
theorem dX2_findFleet_87 : decode cX2_findFleet 87 = .ok (.getfield 22, 3) := by decide +kernel
theorem dX2_findFleet_90 : decode cX2_findFleet 90 = .ok (.iconst 0, 1) := by decide +kernel
theorem dX2_findFleet_91 : decode cX2_findFleet 91 = .ok (.iaload, 1) := by decide +kernel
theorem dX2_findFleet_92 : decode cX2_findFleet 92 = .ok (.aload_n 0, 1) := by decide +kernel
theorem dX2_findFleet_93 : decode cX2_findFleet 93 = .ok (.getfield 22, 3) := by decide +kernel
theorem dX2_findFleet_96 : decode cX2_findFleet 96 = .ok (.iconst 1, 1) := by decide +kernel
theorem dX2_findFleet_97 : decode cX2_findFleet 97 = .ok (.iaload, 1) := by decide +kernel
theorem dX2_findFleet_98 : decode cX2_findFleet 98 = .ok (.aload_n 0, 1) := by decide +kernel
theorem dX2_findFleet_99 : decode cX2_findFleet 99 = .ok (.getfield 22, 3) := by decide +kernel
theorem dX2_findFleet_102 : decode cX2_findFleet 102 = .ok (.iconst 2, 1) := by decide +kernel
theorem dX2_findFleet_103 : decode cX2_findFleet 103 = .ok (.iaload, 1) := by decide +kernel
theorem dX2_findFleet_104 : decode cX2_findFleet 104 = .ok (.invokevirtual 77, 3) := by decide +kernel
theorem dX2_findFleet_107 : decode cX2_findFleet 107 = .ok (.iinc 5 1, 3) := by decide +kernel
theorem dX2_findFleet_110 : decode cX2_findFleet 110 = .ok (.goto (-85), 3) := by decide +kernel
theorem dX2_findFleet_113 : decode cX2_findFleet 113 = .ok (.return_, 1) := by decide +kernel
theorem dX2_sailsRow_0 : decode cX2_sailsRow 0 = .ok (.aload_n 0, 1) := by decide +kernel
theorem dX2_sailsRow_1 : decode cX2_sailsRow 1 = .ok (.getfield 12, 3) := by decide +kernel
theorem dX2_sailsRow_4 : decode cX2_sailsRow 4 = .ok (.aload_n 1, 1) := by decide +kernel
theorem dX2_sailsRow_5 : decode cX2_sailsRow 5 = .ok (.invokevirtual 39, 3) := by decide +kernel
theorem dX2_sailsRow_8 : decode cX2_sailsRow 8 = .ok (.iconst 0, 1) := by decide +kernel
theorem dX2_sailsRow_9 : decode cX2_sailsRow 9 = .ok (.istore_n 2, 1) := by decide +kernel
theorem dX2_sailsRow_10 : decode cX2_sailsRow 10 = .ok (.iload_n 2, 1) := by decide +kernel
theorem dX2_sailsRow_11 : decode cX2_sailsRow 11 = .ok (.iconst 3, 1) := by decide +kernel
theorem dX2_sailsRow_12 : decode cX2_sailsRow 12 = .ok (.if_icmp .ge 51, 3) := by decide +kernel
theorem dX2_sailsRow_15 : decode cX2_sailsRow 15 = .ok (.aload_n 0, 1) := by decide +kernel
theorem dX2_sailsRow_16 : decode cX2_sailsRow 16 = .ok (.getfield 22, 3) := by decide +kernel
theorem dX2_sailsRow_19 : decode cX2_sailsRow 19 = .ok (.iload_n 2, 1) := by decide +kernel
theorem dX2_sailsRow_20 : decode cX2_sailsRow 20 = .ok (.iaload, 1) := by decide +kernel
theorem dX2_sailsRow_21 : decode cX2_sailsRow 21 = .ok (.iconst (-1), 1) := by decide +kernel
theorem dX2_sailsRow_22 : decode cX2_sailsRow 22 = .ok (.if_icmp .eq 35, 3) := by decide +kernel
theorem dX2_sailsRow_25 : decode cX2_sailsRow 25 = .ok (.aload_n 0, 1) := by decide +kernel
theorem dX2_sailsRow_26 : decode cX2_sailsRow 26 = .ok (.getfield 12, 3) := by decide +kernel
theorem dX2_sailsRow_29 : decode cX2_sailsRow 29 = .ok (.iload_n 2, 1) := by decide +kernel
theorem dX2_sailsRow_30 : decode cX2_sailsRow 30 = .ok (.invokevirtual 58, 3) := by decide +kernel
theorem dX2_sailsRow_33 : decode cX2_sailsRow 33 = .ok (.istore_n 3, 1) := by decide +kernel
theorem dX2_sailsRow_34 : decode cX2_sailsRow 34 = .ok (.iload_n 3, 1) := by decide +kernel
theorem dX2_sailsRow_35 : decode cX2_sailsRow 35 = .ok (.iconst 1, 1) := by decide +kernel
theorem dX2_sailsRow_36 : decode cX2_sailsRow 36 = .ok (.if_icmp .ge 5, 3) := by decide +kernel
theorem dX2_sailsRow_39 : decode cX2_sailsRow 39 = .ok (.iconst 0, 1) := by decide +kernel
theorem dX2_sailsRow_40 : decode cX2_sailsRow 40 = .ok (.ireturn, 1) := by decide +kernel
theorem dX2_sailsRow_41 : decode cX2_sailsRow 41 = .ok (.aload_n 0, 1) := by decide +kernel
theorem dX2_sailsRow_42 : decode cX2_sailsRow 42 = .ok (.getfield 12, 3) := by decide +kernel
theorem dX2_sailsRow_45 : decode cX2_sailsRow 45 = .ok (.iload_n 2, 1) := by decide +kernel
theorem dX2_sailsRow_46 : decode cX2_sailsRow 46 = .ok (.aload_n 0, 1) := by decide +kernel
theorem dX2_sailsRow_47 : decode cX2_sailsRow 47 = .ok (.getfield 22, 3) := by decide +kernel
theorem dX2_sailsRow_50 : decode cX2_sailsRow 50 = .ok (.iload_n 2, 1) := by decide +kernel
theorem dX2_sailsRow_51 : decode cX2_sailsRow 51 = .ok (.iaload, 1) := by decide +kernel
theorem dX2_sailsRow_52 : decode cX2_sailsRow 52 = .ok (.iload_n 3, 1) := by decide +kernel
theorem dX2_sailsRow_53 : decode cX2_sailsRow 53 = .ok (.iconst 0, 1) := by decide +kernel
theorem dX2_sailsRow_54 : decode cX2_sailsRow 54 = .ok (.invokevirtual 69, 3) := by decide +kernel
theorem dX2_sailsRow_57 : decode cX2_sailsRow 57 = .ok (.iinc 2 1, 3) := by decide +kernel
theorem dX2_sailsRow_60 : decode cX2_sailsRow 60 = .ok (.goto (-50), 3) := by decide +kernel
theorem dX2_sailsRow_63 : decode cX2_sailsRow 63 = .ok (.iconst 1, 1) := by decide +kernel
theorem dX2_sailsRow_64 : decode cX2_sailsRow 64 = .ok (.ireturn, 1) := by decide +kernel
theorem dX2_findGift_0 : decode cX2_findGift 0 = .ok (.aload_n 1, 1) := by decide +kernel
theorem dX2_findGift_1 : decode cX2_findGift 1 = .ok (.iload_n 3, 1) := by decide +kernel
theorem dX2_findGift_2 : decode cX2_findGift 2 = .ok (.invokevirtual 84, 3) := by decide +kernel
theorem dX2_findGift_5 : decode cX2_findGift 5 = .ok (.ifCond .ne 4, 3) := by decide +kernel
theorem dX2_findGift_8 : decode cX2_findGift 8 = .ok (.return_, 1) := by decide +kernel
theorem dX2_findGift_9 : decode cX2_findGift 9 = .ok (.aload_n 0, 1) := by decide +kernel
theorem dX2_findGift_10 : decode cX2_findGift 10 = .ok (.iconst (-1), 1) := by decide +kernel
theorem dX2_findGift_11 : decode cX2_findGift 11 = .ok (.iconst 0, 1) := by decide +kernel
theorem dX2_findGift_12 : decode cX2_findGift 12 = .ok (.iconst 0, 1) := by decide +kernel
theorem dX2_findGift_13 : decode cX2_findGift 13 = .ok (.iconst 0, 1) := by decide +kernel
theorem dX2_findGift_14 : decode cX2_findGift 14 = .ok (.invokevirtual 50, 3) := by decide +kernel
theorem dX2_findGift_17 : decode cX2_findGift 17 = .ok (.iconst 0, 1) := by decide +kernel
theorem dX2_findGift_18 : decode cX2_findGift 18 = .ok (.istore 4, 2) := by decide +kernel
theorem dX2_findGift_20 : decode cX2_findGift 20 = .ok (.iload 4, 2) := by decide +kernel
theorem dX2_findGift_22 : decode cX2_findGift 22 = .ok (.aload_n 1, 1) := by decide +kernel
theorem dX2_findGift_23 : decode cX2_findGift 23 = .ok (.getfield 88, 3) := by decide +kernel
theorem dX2_findGift_26 : decode cX2_findGift 26 = .ok (.iload_n 3, 1) := by decide +kernel
theorem dX2_findGift_27 : decode cX2_findGift 27 = .ok (.aaload, 1) := by decide +kernel
theorem dX2_findGift_28 : decode cX2_findGift 28 = .ok (.getfield 92, 3) := by decide +kernel
theorem dX2_findGift_31 : decode cX2_findGift 31 = .ok (.if_icmp .gt 44, 3) := by decide +kernel
theorem dX2_findGift_34 : decode cX2_findGift 34 = .ok (.aload_n 0, 1) := by decide +kernel
theorem dX2_findGift_35 : decode cX2_findGift 35 = .ok (.getfield 12, 3) := by decide +kernel
theorem dX2_findGift_38 : decode cX2_findGift 38 = .ok (.aload_n 1, 1) := by decide +kernel
theorem dX2_findGift_39 : decode cX2_findGift 39 = .ok (.invokevirtual 39, 3) := by decide +kernel
theorem dX2_findGift_42 : decode cX2_findGift 42 = .ok (.aload_n 0, 1) := by decide +kernel
theorem dX2_findGift_43 : decode cX2_findGift 43 = .ok (.getfield 12, 3) := by decide +kernel
theorem dX2_findGift_46 : decode cX2_findGift 46 = .ok (.getfield 88, 3) := by decide +kernel
theorem dX2_findGift_49 : decode cX2_findGift 49 = .ok (.iload_n 3, 1) := by decide +kernel
theorem dX2_findGift_50 : decode cX2_findGift 50 = .ok (.aaload, 1) := by decide +kernel
theorem dX2_findGift_51 : decode cX2_findGift 51 = .ok (.iload 4, 2) := by decide +kernel
theorem dX2_findGift_53 : decode cX2_findGift 53 = .ok (.invokevirtual 97, 3) := by decide +kernel
theorem dX2_findGift_56 : decode cX2_findGift 56 = .ok (.aload_n 0, 1) := by decide +kernel
theorem dX2_findGift_57 : decode cX2_findGift 57 = .ok (.aload_n 0, 1) := by decide +kernel
theorem dX2_findGift_58 : decode cX2_findGift 58 = .ok (.aload_n 2, 1) := by decide +kernel
theorem dX2_findGift_59 : decode cX2_findGift 59 = .ok (.invokevirtual 73, 3) := by decide +kernel
theorem dX2_findGift_62 : decode cX2_findGift 62 = .ok (.iload 4, 2) := by decide +kernel
theorem dX2_findGift_64 : decode cX2_findGift 64 = .ok (.iconst 0, 1) := by decide +kernel
theorem dX2_findGift_65 : decode cX2_findGift 65 = .ok (.iconst 0, 1) := by decide +kernel
theorem dX2_findGift_66 : decode cX2_findGift 66 = .ok (.invokevirtual 77, 3) := by decide +kernel
theorem dX2_findGift_69 : decode cX2_findGift 69 = .ok (.iinc 4 1, 3) := by decide +kernel
theorem dX2_findGift_72 : decode cX2_findGift 72 = .ok (.goto (-52), 3) := by decide +kernel
theorem dX2_findGift_75 : decode cX2_findGift 75 = .ok (.return_, 1) := by decide +kernel
theorem dX2_findSite_0 : decode cX2_findSite 0 = .ok (.aload_n 0, 1) := by decide +kernel
theorem dX2_findSite_1 : decode cX2_findSite 1 = .ok (.aload_n 0, 1) := by decide +kernel
theorem dX2_findSite_2 : decode cX2_findSite 2 = .ok (.aload_n 1, 1) := by decide +kernel
theorem dX2_findSite_3 : decode cX2_findSite 3 = .ok (.aload_n 2, 1) := by decide +kernel
theorem dX2_findSite_4 : decode cX2_findSite 4 = .ok (.aload_n 0, 1) := by decide +kernel
theorem dX2_findSite_5 : decode cX2_findSite 5 = .ok (.getfield 36, 3) := by decide +kernel
theorem dX2_findSite_8 : decode cX2_findSite 8 = .ok (.invokevirtual 54, 3) := by decide +kernel
theorem dX2_findSite_11 : decode cX2_findSite 11 = .ok (.getfield 47, 3) := by decide +kernel
theorem dX2_findSite_14 : decode cX2_findSite 14 = .ok (.iconst (-1), 1) := by decide +kernel
theorem dX2_findSite_15 : decode cX2_findSite 15 = .ok (.iconst 0, 1) := by decide +kernel
theorem dX2_findSite_16 : decode cX2_findSite 16 = .ok (.iconst 0, 1) := by decide +kernel
theorem dX2_findSite_17 : decode cX2_findSite 17 = .ok (.invokevirtual 50, 3) := by decide +kernel
theorem dX2_findSite_20 : decode cX2_findSite 20 = .ok (.iconst 0, 1) := by decide +kernel
theorem dX2_findSite_21 : decode cX2_findSite 21 = .ok (.istore_n 3, 1) := by decide +kernel
theorem dX2_findSite_22 : decode cX2_findSite 22 = .ok (.iload_n 3, 1) := by decide +kernel
theorem dX2_findSite_23 : decode cX2_findSite 23 = .ok (.aload_n 1, 1) := by decide +kernel
theorem dX2_findSite_24 : decode cX2_findSite 24 = .ok (.getfield 62, 3) := by decide +kernel
theorem dX2_findSite_27 : decode cX2_findSite 27 = .ok (.if_icmp .ge 45, 3) := by decide +kernel
theorem dX2_findSite_30 : decode cX2_findSite 30 = .ok (.aload_n 1, 1) := by decide +kernel
theorem dX2_findSite_31 : decode cX2_findSite 31 = .ok (.iload_n 3, 1) := by decide +kernel
theorem dX2_findSite_32 : decode cX2_findSite 32 = .ok (.invokevirtual 101, 3) := by decide +kernel
theorem dX2_findSite_35 : decode cX2_findSite 35 = .ok (.ifCond .eq 31, 3) := by decide +kernel
theorem dX2_findSite_38 : decode cX2_findSite 38 = .ok (.aload_n 0, 1) := by decide +kernel
theorem dX2_findSite_39 : decode cX2_findSite 39 = .ok (.getfield 12, 3) := by decide +kernel
theorem dX2_findSite_42 : decode cX2_findSite 42 = .ok (.aload_n 1, 1) := by decide +kernel
theorem dX2_findSite_43 : decode cX2_findSite 43 = .ok (.invokevirtual 39, 3) := by decide +kernel
theorem dX2_findSite_46 : decode cX2_findSite 46 = .ok (.aload_n 0, 1) := by decide +kernel
theorem dX2_findSite_47 : decode cX2_findSite 47 = .ok (.getfield 12, 3) := by decide +kernel
theorem dX2_findSite_50 : decode cX2_findSite 50 = .ok (.iload_n 3, 1) := by decide +kernel
theorem dX2_findSite_51 : decode cX2_findSite 51 = .ok (.invokevirtual 104, 3) := by decide +kernel
theorem dX2_findSite_54 : decode cX2_findSite 54 = .ok (.aload_n 0, 1) := by decide +kernel
theorem dX2_findSite_55 : decode cX2_findSite 55 = .ok (.aload_n 0, 1) := by decide +kernel
theorem dX2_findSite_56 : decode cX2_findSite 56 = .ok (.aload_n 2, 1) := by decide +kernel
theorem dX2_findSite_57 : decode cX2_findSite 57 = .ok (.invokevirtual 73, 3) := by decide +kernel
theorem dX2_findSite_60 : decode cX2_findSite 60 = .ok (.iload_n 3, 1) := by decide +kernel
theorem dX2_findSite_61 : decode cX2_findSite 61 = .ok (.iconst 0, 1) := by decide +kernel
theorem dX2_findSite_62 : decode cX2_findSite 62 = .ok (.iconst 0, 1) := by decide +kernel
theorem dX2_findSite_63 : decode cX2_findSite 63 = .ok (.invokevirtual 77, 3) := by decide +kernel
theorem dX2_findSite_66 : decode cX2_findSite 66 = .ok (.iinc 3 1, 3) := by decide +kernel
theorem dX2_findSite_69 : decode cX2_findSite 69 = .ok (.goto (-47), 3) := by decide +kernel
theorem dX2_findSite_72 : decode cX2_findSite 72 = .ok (.return_, 1) := by decide +kernel
theorem dX2_findPrice_0 : decode cX2_findPrice 0 = .ok (.aload_n 1, 1) := by decide +kernel
theorem dX2_findPrice_1 : decode cX2_findPrice 1 = .ok (.iload_n 3, 1) := by decide +kernel
theorem dX2_findPrice_2 : decode cX2_findPrice 2 = .ok (.invokevirtual 84, 3) := by decide +kernel
theorem dX2_findPrice_5 : decode cX2_findPrice 5 = .ok (.ifCond .ne 4, 3) := by decide +kernel
theorem dX2_findPrice_8 : decode cX2_findPrice 8 = .ok (.return_, 1) := by decide +kernel
theorem dX2_findPrice_9 : decode cX2_findPrice 9 = .ok (.aload_n 0, 1) := by decide +kernel
theorem dX2_findPrice_10 : decode cX2_findPrice 10 = .ok (.iconst (-1), 1) := by decide +kernel
theorem dX2_findPrice_11 : decode cX2_findPrice 11 = .ok (.iconst 0, 1) := by decide +kernel
theorem dX2_findPrice_12 : decode cX2_findPrice 12 = .ok (.iconst 0, 1) := by decide +kernel
theorem dX2_findPrice_13 : decode cX2_findPrice 13 = .ok (.iconst 0, 1) := by decide +kernel
theorem dX2_findPrice_14 : decode cX2_findPrice 14 = .ok (.invokevirtual 50, 3) := by decide +kernel
theorem dX2_findPrice_17 : decode cX2_findPrice 17 = .ok (.iconst 1, 1) := by decide +kernel
theorem dX2_findPrice_18 : decode cX2_findPrice 18 = .ok (.istore 4, 2) := by decide +kernel
theorem dX2_findPrice_20 : decode cX2_findPrice 20 = .ok (.iload 4, 2) := by decide +kernel
theorem dX2_findPrice_22 : decode cX2_findPrice 22 = .ok (.bipush 99, 2) := by decide +kernel
theorem dX2_findPrice_24 : decode cX2_findPrice 24 = .ok (.if_icmp .gt 44, 3) := by decide +kernel
theorem dX2_findPrice_27 : decode cX2_findPrice 27 = .ok (.aload_n 0, 1) := by decide +kernel
theorem dX2_findPrice_28 : decode cX2_findPrice 28 = .ok (.getfield 12, 3) := by decide +kernel
theorem dX2_findPrice_31 : decode cX2_findPrice 31 = .ok (.aload_n 1, 1) := by decide +kernel
theorem dX2_findPrice_32 : decode cX2_findPrice 32 = .ok (.invokevirtual 39, 3) := by decide +kernel
theorem dX2_findPrice_35 : decode cX2_findPrice 35 = .ok (.aload_n 0, 1) := by decide +kernel
theorem dX2_findPrice_36 : decode cX2_findPrice 36 = .ok (.getfield 12, 3) := by decide +kernel
theorem dX2_findPrice_39 : decode cX2_findPrice 39 = .ok (.getfield 88, 3) := by decide +kernel
theorem dX2_findPrice_42 : decode cX2_findPrice 42 = .ok (.iload_n 3, 1) := by decide +kernel
theorem dX2_findPrice_43 : decode cX2_findPrice 43 = .ok (.aaload, 1) := by decide +kernel
theorem dX2_findPrice_44 : decode cX2_findPrice 44 = .ok (.iload 4, 2) := by decide +kernel
theorem dX2_findPrice_46 : decode cX2_findPrice 46 = .ok (.invokevirtual 107, 3) := by decide +kernel
theorem dX2_findPrice_49 : decode cX2_findPrice 49 = .ok (.aload_n 0, 1) := by decide +kernel
theorem dX2_findPrice_50 : decode cX2_findPrice 50 = .ok (.aload_n 0, 1) := by decide +kernel
theorem dX2_findPrice_51 : decode cX2_findPrice 51 = .ok (.aload_n 2, 1) := by decide +kernel
theorem dX2_findPrice_52 : decode cX2_findPrice 52 = .ok (.invokevirtual 73, 3) := by decide +kernel
theorem dX2_findPrice_55 : decode cX2_findPrice 55 = .ok (.iload 4, 2) := by decide +kernel
theorem dX2_findPrice_57 : decode cX2_findPrice 57 = .ok (.iconst 0, 1) := by decide +kernel
theorem dX2_findPrice_58 : decode cX2_findPrice 58 = .ok (.iconst 0, 1) := by decide +kernel
theorem dX2_findPrice_59 : decode cX2_findPrice 59 = .ok (.invokevirtual 77, 3) := by decide +kernel
theorem dX2_findPrice_62 : decode cX2_findPrice 62 = .ok (.iinc 4 1, 3) := by decide +kernel
theorem dX2_findPrice_65 : decode cX2_findPrice 65 = .ok (.goto (-45), 3) := by decide +kernel
theorem dX2_findPrice_68 : decode cX2_findPrice 68 = .ok (.return_, 1) := by decide +kernel
theorem dX2_findPeace_0 : decode cX2_findPeace 0 = .ok (.aload_n 0, 1) := by decide +kernel
theorem dX2_findPeace_1 : decode cX2_findPeace 1 = .ok (.invokevirtual 110, 3) := by decide +kernel
theorem dX2_findPeace_4 : decode cX2_findPeace 4 = .ok (.aload_n 0, 1) := by decide +kernel
theorem dX2_findPeace_5 : decode cX2_findPeace 5 = .ok (.iconst 0, 1) := by decide +kernel
theorem dX2_findPeace_6 : decode cX2_findPeace 6 = .ok (.bipush (-2), 2) := by decide +kernel
theorem dX2_findPeace_8 : decode cX2_findPeace 8 = .ok (.bipush (-2), 2) := by decide +kernel
theorem dX2_findPeace_10 : decode cX2_findPeace 10 = .ok (.iconst 0, 1) := by decide +kernel
theorem dX2_findPeace_11 : decode cX2_findPeace 11 = .ok (.invokevirtual 50, 3) := by decide +kernel
theorem dX2_findPeace_14 : decode cX2_findPeace 14 = .ok (.iconst 1, 1) := by decide +kernel
theorem dX2_findPeace_15 : decode cX2_findPeace 15 = .ok (.istore_n 2, 1) := by decide +kernel
theorem dX2_findPeace_16 : decode cX2_findPeace 16 = .ok (.iload_n 2, 1) := by decide +kernel
theorem dX2_findPeace_17 : decode cX2_findPeace 17 = .ok (.bipush 10, 2) := by decide +kernel
theorem dX2_findPeace_19 : decode cX2_findPeace 19 = .ok (.if_icmp .gt 76, 3) := by decide +kernel
theorem dX2_findPeace_22 : decode cX2_findPeace 22 = .ok (.iconst 1, 1) := by decide +kernel
theorem dX2_findPeace_23 : decode cX2_findPeace 23 = .ok (.istore_n 3, 1) := by decide +kernel
theorem dX2_findPeace_24 : decode cX2_findPeace 24 = .ok (.iload_n 3, 1) := by decide +kernel
theorem dX2_findPeace_25 : decode cX2_findPeace 25 = .ok (.bipush 10, 2) := by decide +kernel
theorem dX2_findPeace_27 : decode cX2_findPeace 27 = .ok (.if_icmp .gt 62, 3) := by decide +kernel
theorem dX2_findPeace_30 : decode cX2_findPeace 30 = .ok (.aload_n 1, 1) := by decide +kernel
theorem dX2_findPeace_31 : decode cX2_findPeace 31 = .ok (.iload_n 2, 1) := by decide +kernel
theorem dX2_findPeace_32 : decode cX2_findPeace 32 = .ok (.iload_n 3, 1) := by decide +kernel
theorem dX2_findPeace_33 : decode cX2_findPeace 33 = .ok (.invokestatic 113, 3) := by decide +kernel
theorem dX2_findPeace_36 : decode cX2_findPeace 36 = .ok (.ifCond .eq 47, 3) := by decide +kernel
theorem dX2_findPeace_39 : decode cX2_findPeace 39 = .ok (.aload_n 1, 1) := by decide +kernel
theorem dX2_findPeace_40 : decode cX2_findPeace 40 = .ok (.iload_n 3, 1) := by decide +kernel
theorem dX2_findPeace_41 : decode cX2_findPeace 41 = .ok (.iload_n 2, 1) := by decide +kernel
theorem dX2_findPeace_42 : decode cX2_findPeace 42 = .ok (.invokestatic 113, 3) := by decide +kernel
theorem dX2_findPeace_45 : decode cX2_findPeace 45 = .ok (.ifCond .eq 38, 3) := by decide +kernel
theorem dX2_findPeace_48 : decode cX2_findPeace 48 = .ok (.aload_n 0, 1) := by decide +kernel
theorem dX2_findPeace_49 : decode cX2_findPeace 49 = .ok (.getfield 18, 3) := by decide +kernel
theorem dX2_findPeace_52 : decode cX2_findPeace 52 = .ok (.iconst 0, 1) := by decide +kernel
theorem dX2_findPeace_53 : decode cX2_findPeace 53 = .ok (.dup2, 1) := by decide +kernel
theorem dX2_findPeace_54 : decode cX2_findPeace 54 = .ok (.iaload, 1) := by decide +kernel
theorem dX2_findPeace_55 : decode cX2_findPeace 55 = .ok (.iconst 1, 1) := by decide +kernel
theorem dX2_findPeace_56 : decode cX2_findPeace 56 = .ok (.iadd, 1) := by decide +kernel
theorem dX2_findPeace_57 : decode cX2_findPeace 57 = .ok (.iastore, 1) := by decide +kernel
theorem dX2_findPeace_58 : decode cX2_findPeace 58 = .ok (.aload_n 0, 1) := by decide +kernel
theorem dX2_findPeace_59 : decode cX2_findPeace 59 = .ok (.getfield 18, 3) := by decide +kernel
theorem dX2_findPeace_62 : decode cX2_findPeace 62 = .ok (.iconst 1, 1) := by decide +kernel
theorem dX2_findPeace_63 : decode cX2_findPeace 63 = .ok (.iaload, 1) := by decide +kernel
theorem dX2_findPeace_64 : decode cX2_findPeace 64 = .ok (.bipush (-2), 2) := by decide +kernel
theorem dX2_findPeace_66 : decode cX2_findPeace 66 = .ok (.if_icmp .ne 17, 3) := by decide +kernel
theorem dX2_findPeace_69 : decode cX2_findPeace 69 = .ok (.aload_n 0, 1) := by decide +kernel
theorem dX2_findPeace_70 : decode cX2_findPeace 70 = .ok (.getfield 18, 3) := by decide +kernel
theorem dX2_findPeace_73 : decode cX2_findPeace 73 = .ok (.iconst 1, 1) := by decide +kernel
theorem dX2_findPeace_74 : decode cX2_findPeace 74 = .ok (.iload_n 2, 1) := by decide +kernel
theorem dX2_findPeace_75 : decode cX2_findPeace 75 = .ok (.iastore, 1) := by decide +kernel
theorem dX2_findPeace_76 : decode cX2_findPeace 76 = .ok (.aload_n 0, 1) := by decide +kernel
theorem dX2_findPeace_77 : decode cX2_findPeace 77 = .ok (.getfield 18, 3) := by decide +kernel
theorem dX2_findPeace_80 : decode cX2_findPeace 80 = .ok (.iconst 2, 1) := by decide +kernel
theorem dX2_findPeace_81 : decode cX2_findPeace 81 = .ok (.iload_n 3, 1) := by decide +kernel
theorem dX2_findPeace_82 : decode cX2_findPeace 82 = .ok (.iastore, 1) := by decide +kernel
theorem dX2_findPeace_83 : decode cX2_findPeace 83 = .ok (.iinc 3 1, 3) := by decide +kernel
theorem dX2_findPeace_86 : decode cX2_findPeace 86 = .ok (.goto (-62), 3) := by decide +kernel
theorem dX2_findPeace_89 : decode cX2_findPeace 89 = .ok (.iinc 2 1, 3) := by decide +kernel
theorem dX2_findPeace_92 : decode cX2_findPeace 92 = .ok (.goto (-76), 3) := by decide +kernel
theorem dX2_findPeace_95 : decode cX2_findPeace 95 = .ok (.return_, 1) := by decide +kernel
theorem dX2_isContent_0 : decode cX2_isContent 0 = .ok (.aload_n 0, 1) := by decide +kernel
theorem dX2_isContent_1 : decode cX2_isContent 1 = .ok (.iload_n 1, 1) := by decide +kernel
theorem dX2_isContent_2 : decode cX2_isContent 2 = .ok (.iload_n 2, 1) := by decide +kernel
theorem dX2_isContent_3 : decode cX2_isContent 3 = .ok (.invokestatic 117, 3) := by decide +kernel
theorem dX2_isContent_6 : decode cX2_isContent 6 = .ok (.istore_n 3, 1) := by decide +kernel
theorem dX2_isContent_7 : decode cX2_isContent 7 = .ok (.iconst 1, 1) := by decide +kernel
theorem dX2_isContent_8 : decode cX2_isContent 8 = .ok (.istore 4, 2) := by decide +kernel
theorem dX2_isContent_10 : decode cX2_isContent 10 = .ok (.iload 4, 2) := by decide +kernel
theorem dX2_isContent_12 : decode cX2_isContent 12 = .ok (.bipush 10, 2) := by decide +kernel
theorem dX2_isContent_14 : decode cX2_isContent 14 = .ok (.if_icmp .gt 22, 3) := by decide +kernel
theorem dX2_isContent_17 : decode cX2_isContent 17 = .ok (.aload_n 0, 1) := by decide +kernel
theorem dX2_isContent_18 : decode cX2_isContent 18 = .ok (.iload 4, 2) := by decide +kernel
theorem dX2_isContent_20 : decode cX2_isContent 20 = .ok (.iload_n 2, 1) := by decide +kernel
theorem dX2_isContent_21 : decode cX2_isContent 21 = .ok (.invokestatic 117, 3) := by decide +kernel
theorem dX2_isContent_24 : decode cX2_isContent 24 = .ok (.iload_n 3, 1) := by decide +kernel
theorem dX2_isContent_25 : decode cX2_isContent 25 = .ok (.if_icmp .le 5, 3) := by decide +kernel
theorem dX2_isContent_28 : decode cX2_isContent 28 = .ok (.iconst 0, 1) := by decide +kernel
theorem dX2_isContent_29 : decode cX2_isContent 29 = .ok (.ireturn, 1) := by decide +kernel
theorem dX2_isContent_30 : decode cX2_isContent 30 = .ok (.iinc 4 1, 3) := by decide +kernel
theorem dX2_isContent_33 : decode cX2_isContent 33 = .ok (.goto (-23), 3) := by decide +kernel
theorem dX2_isContent_36 : decode cX2_isContent 36 = .ok (.iconst 1, 1) := by decide +kernel
theorem dX2_isContent_37 : decode cX2_isContent 37 = .ok (.ireturn, 1) := by decide +kernel
theorem dX2_gainOf_0 : decode cX2_gainOf 0 = .ok (.iconst 1, 1) := by decide +kernel
theorem dX2_gainOf_1 : decode cX2_gainOf 1 = .ok (.aload_n 0, 1) := by decide +kernel
theorem dX2_gainOf_2 : decode cX2_gainOf 2 = .ok (.getfield 121, 3) := by decide +kernel
theorem dX2_gainOf_5 : decode cX2_gainOf 5 = .ok (.iload_n 1, 1) := by decide +kernel
theorem dX2_gainOf_6 : decode cX2_gainOf 6 = .ok (.imul, 1) := by decide +kernel
theorem dX2_gainOf_7 : decode cX2_gainOf 7 = .ok (.bipush 10, 2) := by decide +kernel
theorem dX2_gainOf_9 : decode cX2_gainOf 9 = .ok (.idiv, 1) := by decide +kernel
theorem dX2_gainOf_10 : decode cX2_gainOf 10 = .ok (.invokestatic 124, 3) := by decide +kernel
theorem dX2_gainOf_13 : decode cX2_gainOf 13 = .ok (.istore_n 3, 1) := by decide +kernel
theorem dX2_gainOf_14 : decode cX2_gainOf 14 = .ok (.iconst 1, 1) := by decide +kernel
theorem dX2_gainOf_15 : decode cX2_gainOf 15 = .ok (.aload_n 0, 1) := by decide +kernel
theorem dX2_gainOf_16 : decode cX2_gainOf 16 = .ok (.getfield 121, 3) := by decide +kernel
theorem dX2_gainOf_19 : decode cX2_gainOf 19 = .ok (.iload_n 2, 1) := by decide +kernel
theorem dX2_gainOf_20 : decode cX2_gainOf 20 = .ok (.imul, 1) := by decide +kernel
theorem dX2_gainOf_21 : decode cX2_gainOf 21 = .ok (.bipush 10, 2) := by decide +kernel
theorem dX2_gainOf_23 : decode cX2_gainOf 23 = .ok (.idiv, 1) := by decide +kernel
theorem dX2_gainOf_24 : decode cX2_gainOf 24 = .ok (.invokestatic 124, 3) := by decide +kernel
theorem dX2_gainOf_27 : decode cX2_gainOf 27 = .ok (.istore 4, 2) := by decide +kernel
theorem dX2_gainOf_29 : decode cX2_gainOf 29 = .ok (.iload_n 3, 1) := by decide +kernel
theorem dX2_gainOf_30 : decode cX2_gainOf 30 = .ok (.iload 4, 2) := by decide +kernel
theorem dX2_gainOf_32 : decode cX2_gainOf 32 = .ok (.if_icmp .le 5, 3) := by decide +kernel
theorem dX2_gainOf_35 : decode cX2_gainOf 35 = .ok (.iconst 0, 1) := by decide +kernel
theorem dX2_gainOf_36 : decode cX2_gainOf 36 = .ok (.ireturn, 1) := by decide +kernel
theorem dX2_gainOf_37 : decode cX2_gainOf 37 = .ok (.iload_n 3, 1) := by decide +kernel
theorem dX2_gainOf_38 : decode cX2_gainOf 38 = .ok (.iload_n 3, 1) := by decide +kernel
theorem dX2_gainOf_39 : decode cX2_gainOf 39 = .ok (.iload 4, 2) := by decide +kernel
theorem dX2_gainOf_41 : decode cX2_gainOf 41 = .ok (.if_icmp .ge 10, 3) := by decide +kernel
theorem dX2_gainOf_44 : decode cX2_gainOf 44 = .ok (.aload_n 0, 1) := by decide +kernel
theorem dX2_gainOf_45 : decode cX2_gainOf 45 = .ok (.getfield 130, 3) := by decide +kernel
theorem dX2_gainOf_48 : decode cX2_gainOf 48 = .ok (.goto 9, 3) := by decide +kernel
theorem dX2_gainOf_51 : decode cX2_gainOf 51 = .ok (.aload_n 0, 1) := by decide +kernel
theorem dX2_gainOf_52 : decode cX2_gainOf 52 = .ok (.getfield 130, 3) := by decide +kernel
theorem dX2_gainOf_55 : decode cX2_gainOf 55 = .ok (.iconst 2, 1) := by decide +kernel
theorem dX2_gainOf_56 : decode cX2_gainOf 56 = .ok (.idiv, 1) := by decide +kernel
theorem dX2_gainOf_57 : decode cX2_gainOf 57 = .ok (.imul, 1) := by decide +kernel
theorem dX2_gainOf_58 : decode cX2_gainOf 58 = .ok (.ireturn, 1) := by decide +kernel
theorem dX2_monthOut_0 : decode cX2_monthOut 0 = .ok (.aload_n 0, 1) := by decide +kernel
theorem dX2_monthOut_1 : decode cX2_monthOut 1 = .ok (.getfield 12, 3) := by decide +kernel
theorem dX2_monthOut_4 : decode cX2_monthOut 4 = .ok (.aload_n 1, 1) := by decide +kernel
theorem dX2_monthOut_5 : decode cX2_monthOut 5 = .ok (.invokevirtual 39, 3) := by decide +kernel
theorem dX2_monthOut_8 : decode cX2_monthOut 8 = .ok (.iconst 0, 1) := by decide +kernel
theorem dX2_monthOut_9 : decode cX2_monthOut 9 = .ok (.istore_n 3, 1) := by decide +kernel
theorem dX2_monthOut_10 : decode cX2_monthOut 10 = .ok (.iload_n 3, 1) := by decide +kernel
theorem dX2_monthOut_11 : decode cX2_monthOut 11 = .ok (.bipush 60, 2) := by decide +kernel
theorem dX2_monthOut_13 : decode cX2_monthOut 13 = .ok (.if_icmp .ge 38, 3) := by decide +kernel
theorem dX2_monthOut_16 : decode cX2_monthOut 16 = .ok (.aload_n 0, 1) := by decide +kernel
theorem dX2_monthOut_17 : decode cX2_monthOut 17 = .ok (.getfield 12, 3) := by decide +kernel
theorem dX2_monthOut_20 : decode cX2_monthOut 20 = .ok (.invokevirtual 133, 3) := by decide +kernel
theorem dX2_monthOut_23 : decode cX2_monthOut 23 = .ok (.ifCond .eq 11, 3) := by decide +kernel
theorem dX2_monthOut_26 : decode cX2_monthOut 26 = .ok (.aload_n 0, 1) := by decide +kernel
theorem dX2_monthOut_27 : decode cX2_monthOut 27 = .ok (.getfield 12, 3) := by decide +kernel
theorem dX2_monthOut_30 : decode cX2_monthOut 30 = .ok (.getfield 137, 3) := by decide +kernel
theorem dX2_monthOut_33 : decode cX2_monthOut 33 = .ok (.ireturn, 1) := by decide +kernel
theorem dX2_monthOut_34 : decode cX2_monthOut 34 = .ok (.aload_n 0, 1) := by decide +kernel
theorem dX2_monthOut_35 : decode cX2_monthOut 35 = .ok (.getfield 12, 3) := by decide +kernel
theorem dX2_monthOut_38 : decode cX2_monthOut 38 = .ok (.aload_n 2, 1) := by decide +kernel
theorem dX2_monthOut_39 : decode cX2_monthOut 39 = .ok (.bipush 100, 2) := by decide +kernel
theorem dX2_monthOut_41 : decode cX2_monthOut 41 = .ok (.invokevirtual 43, 3) := by decide +kernel
theorem dX2_monthOut_44 : decode cX2_monthOut 44 = .ok (.pop, 1) := by decide +kernel
theorem dX2_monthOut_45 : decode cX2_monthOut 45 = .ok (.iinc 3 1, 3) := by decide +kernel
theorem dX2_monthOut_48 : decode cX2_monthOut 48 = .ok (.goto (-38), 3) := by decide +kernel
theorem dX2_monthOut_51 : decode cX2_monthOut 51 = .ok (.bipush (-2), 2) := by decide +kernel
theorem dX2_monthOut_53 : decode cX2_monthOut 53 = .ok (.ireturn, 1) := by decide +kernel
theorem dX2_findFirstBlocks_0 : decode cX2_findFirstBlocks 0 = .ok (.aload_n 0, 1) := by decide +kernel
theorem dX2_findFirstBlocks_1 : decode cX2_findFirstBlocks 1 = .ok (.invokevirtual 110, 3) := by decide +kernel
theorem dX2_findFirstBlocks_4 : decode cX2_findFirstBlocks 4 = .ok (.aload_n 0, 1) := by decide +kernel
theorem dX2_findFirstBlocks_5 : decode cX2_findFirstBlocks 5 = .ok (.iconst 0, 1) := by decide +kernel
theorem dX2_findFirstBlocks_6 : decode cX2_findFirstBlocks 6 = .ok (.bipush (-2), 2) := by decide +kernel
theorem dX2_findFirstBlocks_8 : decode cX2_findFirstBlocks 8 = .ok (.bipush (-2), 2) := by decide +kernel
theorem dX2_findFirstBlocks_10 : decode cX2_findFirstBlocks 10 = .ok (.iconst 0, 1) := by decide +kernel
theorem dX2_findFirstBlocks_11 : decode cX2_findFirstBlocks 11 = .ok (.invokevirtual 50, 3) := by decide +kernel
theorem dX2_findFirstBlocks_14 : decode cX2_findFirstBlocks 14 = .ok (.iconst 0, 1) := by decide +kernel
theorem dX2_findFirstBlocks_15 : decode cX2_findFirstBlocks 15 = .ok (.istore 4, 2) := by decide +kernel
theorem dX2_findFirstBlocks_17 : decode cX2_findFirstBlocks 17 = .ok (.iload 4, 2) := by decide +kernel
theorem dX2_findFirstBlocks_19 : decode cX2_findFirstBlocks 19 = .ok (.sipush 999, 3) := by decide +kernel
theorem dX2_findFirstBlocks_22 : decode cX2_findFirstBlocks 22 = .ok (.if_icmp .gt 66, 3) := by decide +kernel
theorem dX2_findFirstBlocks_25 : decode cX2_findFirstBlocks 25 = .ok (.aload_n 1, 1) := by decide +kernel
theorem dX2_findFirstBlocks_26 : decode cX2_findFirstBlocks 26 = .ok (.iload 4, 2) := by decide +kernel
theorem dX2_findFirstBlocks_28 : decode cX2_findFirstBlocks 28 = .ok (.iload_n 3, 1) := by decide +kernel
theorem dX2_findFirstBlocks_29 : decode cX2_findFirstBlocks 29 = .ok (.invokevirtual 140, 3) := by decide +kernel
theorem dX2_findFirstBlocks_32 : decode cX2_findFirstBlocks 32 = .ok (.iload_n 2, 1) := by decide +kernel
theorem dX2_findFirstBlocks_33 : decode cX2_findFirstBlocks 33 = .ok (.if_icmp .ne 49, 3) := by decide +kernel
theorem dX2_findFirstBlocks_36 : decode cX2_findFirstBlocks 36 = .ok (.aload_n 0, 1) := by decide +kernel
theorem dX2_findFirstBlocks_37 : decode cX2_findFirstBlocks 37 = .ok (.getfield 18, 3) := by decide +kernel
theorem dX2_findFirstBlocks_40 : decode cX2_findFirstBlocks 40 = .ok (.iconst 0, 1) := by decide +kernel
theorem dX2_findFirstBlocks_41 : decode cX2_findFirstBlocks 41 = .ok (.dup2, 1) := by decide +kernel
theorem dX2_findFirstBlocks_42 : decode cX2_findFirstBlocks 42 = .ok (.iaload, 1) := by decide +kernel
theorem dX2_findFirstBlocks_43 : decode cX2_findFirstBlocks 43 = .ok (.iconst 1, 1) := by decide +kernel
theorem dX2_findFirstBlocks_44 : decode cX2_findFirstBlocks 44 = .ok (.iadd, 1) := by decide +kernel
theorem dX2_findFirstBlocks_45 : decode cX2_findFirstBlocks 45 = .ok (.iastore, 1) := by decide +kernel
theorem dX2_findFirstBlocks_46 : decode cX2_findFirstBlocks 46 = .ok (.aload_n 0, 1) := by decide +kernel
theorem dX2_findFirstBlocks_47 : decode cX2_findFirstBlocks 47 = .ok (.getfield 18, 3) := by decide +kernel
theorem dX2_findFirstBlocks_50 : decode cX2_findFirstBlocks 50 = .ok (.iconst 1, 1) := by decide +kernel
theorem dX2_findFirstBlocks_51 : decode cX2_findFirstBlocks 51 = .ok (.aload_n 0, 1) := by decide +kernel
theorem dX2_findFirstBlocks_52 : decode cX2_findFirstBlocks 52 = .ok (.getfield 18, 3) := by decide +kernel
theorem dX2_findFirstBlocks_55 : decode cX2_findFirstBlocks 55 = .ok (.iconst 1, 1) := by decide +kernel
theorem dX2_findFirstBlocks_56 : decode cX2_findFirstBlocks 56 = .ok (.iaload, 1) := by decide +kernel
theorem dX2_findFirstBlocks_57 : decode cX2_findFirstBlocks 57 = .ok (.bipush (-2), 2) := by decide +kernel
theorem dX2_findFirstBlocks_59 : decode cX2_findFirstBlocks 59 = .ok (.if_icmp .ne 8, 3) := by decide +kernel
theorem dX2_findFirstBlocks_62 : decode cX2_findFirstBlocks 62 = .ok (.iload 4, 2) := by decide +kernel
theorem dX2_findFirstBlocks_64 : decode cX2_findFirstBlocks 64 = .ok (.goto 9, 3) := by decide +kernel
theorem dX2_findFirstBlocks_67 : decode cX2_findFirstBlocks 67 = .ok (.aload_n 0, 1) := by decide +kernel
theorem dX2_findFirstBlocks_68 : decode cX2_findFirstBlocks 68 = .ok (.getfield 18, 3) := by decide +kernel
theorem dX2_findFirstBlocks_71 : decode cX2_findFirstBlocks 71 = .ok (.iconst 1, 1) := by decide +kernel
theorem dX2_findFirstBlocks_72 : decode cX2_findFirstBlocks 72 = .ok (.iaload, 1) := by decide +kernel
theorem dX2_findFirstBlocks_73 : decode cX2_findFirstBlocks 73 = .ok (.iastore, 1) := by decide +kernel
theorem dX2_findFirstBlocks_74 : decode cX2_findFirstBlocks 74 = .ok (.aload_n 0, 1) := by decide +kernel
theorem dX2_findFirstBlocks_75 : decode cX2_findFirstBlocks 75 = .ok (.getfield 18, 3) := by decide +kernel
theorem dX2_findFirstBlocks_78 : decode cX2_findFirstBlocks 78 = .ok (.iconst 2, 1) := by decide +kernel
theorem dX2_findFirstBlocks_79 : decode cX2_findFirstBlocks 79 = .ok (.iload 4, 2) := by decide +kernel
theorem dX2_findFirstBlocks_81 : decode cX2_findFirstBlocks 81 = .ok (.iastore, 1) := by decide +kernel
theorem dX2_findFirstBlocks_82 : decode cX2_findFirstBlocks 82 = .ok (.iinc 4 1, 3) := by decide +kernel
theorem dX2_findFirstBlocks_85 : decode cX2_findFirstBlocks 85 = .ok (.goto (-68), 3) := by decide +kernel
theorem dX2_findFirstBlocks_88 : decode cX2_findFirstBlocks 88 = .ok (.return_, 1) := by decide +kernel
theorem dX2_drawYears_0 : decode cX2_drawYears 0 = .ok (.aload_n 0, 1) := by decide +kernel
theorem dX2_drawYears_1 : decode cX2_drawYears 1 = .ok (.invokevirtual 110, 3) := by decide +kernel
theorem dX2_drawYears_4 : decode cX2_drawYears 4 = .ok (.aload_n 0, 1) := by decide +kernel
theorem dX2_drawYears_5 : decode cX2_drawYears 5 = .ok (.iconst 0, 1) := by decide +kernel
theorem dX2_drawYears_6 : decode cX2_drawYears 6 = .ok (.iconst 0, 1) := by decide +kernel
theorem dX2_drawYears_7 : decode cX2_drawYears 7 = .ok (.iconst 0, 1) := by decide +kernel
theorem dX2_drawYears_8 : decode cX2_drawYears 8 = .ok (.iconst 0, 1) := by decide +kernel
theorem dX2_drawYears_9 : decode cX2_drawYears 9 = .ok (.invokevirtual 50, 3) := by decide +kernel
theorem dX2_drawYears_12 : decode cX2_drawYears 12 = .ok (.aload_n 1, 1) := by decide +kernel
theorem dX2_drawYears_13 : decode cX2_drawYears 13 = .ok (.getfield 144, 3) := by decide +kernel
theorem dX2_drawYears_16 : decode cX2_drawYears 16 = .ok (.i2l, 1) := by decide +kernel
theorem dX2_drawYears_17 : decode cX2_drawYears 17 = .ok (.lstore 5, 2) := by decide +kernel
theorem dX2_drawYears_19 : decode cX2_drawYears 19 = .ok (.iconst 0, 1) := by decide +kernel
theorem dX2_drawYears_20 : decode cX2_drawYears 20 = .ok (.istore 7, 2) := by decide +kernel
theorem dX2_drawYears_22 : decode cX2_drawYears 22 = .ok (.iload 7, 2) := by decide +kernel
theorem dX2_drawYears_24 : decode cX2_drawYears 24 = .ok (.iload_n 3, 1) := by decide +kernel
theorem dX2_drawYears_25 : decode cX2_drawYears 25 = .ok (.if_icmp .ge 96, 3) := by decide +kernel
theorem dX2_drawYears_28 : decode cX2_drawYears 28 = .ok (.aload_n 0, 1) := by decide +kernel
theorem dX2_drawYears_29 : decode cX2_drawYears 29 = .ok (.getfield 12, 3) := by decide +kernel
theorem dX2_drawYears_32 : decode cX2_drawYears 32 = .ok (.aload_n 1, 1) := by decide +kernel
theorem dX2_drawYears_33 : decode cX2_drawYears 33 = .ok (.getfield 149, 3) := by decide +kernel
theorem dX2_drawYears_36 : decode cX2_drawYears 36 = .ok (.invokevirtual 39, 3) := by decide +kernel
theorem dX2_drawYears_39 : decode cX2_drawYears 39 = .ok (.iconst 0, 1) := by decide +kernel
theorem dX2_drawYears_40 : decode cX2_drawYears 40 = .ok (.istore 8, 2) := by decide +kernel
theorem dX2_drawYears_42 : decode cX2_drawYears 42 = .ok (.iload 8, 2) := by decide +kernel
theorem dX2_drawYears_44 : decode cX2_drawYears 44 = .ok (.iload 4, 2) := by decide +kernel
theorem dX2_drawYears_46 : decode cX2_drawYears 46 = .ok (.if_icmp .ge 53, 3) := by decide +kernel
theorem dX2_drawYears_49 : decode cX2_drawYears 49 = .ok (.lload 5, 2) := by decide +kernel
theorem dX2_drawYears_51 : decode cX2_drawYears 51 = .ok (.ldc2_w 152, 3) := by decide +kernel
theorem dX2_drawYears_54 : decode cX2_drawYears 54 = .ok (.lmul, 1) := by decide +kernel
theorem dX2_drawYears_55 : decode cX2_drawYears 55 = .ok (.ldc2_w 154, 3) := by decide +kernel
theorem dX2_drawYears_58 : decode cX2_drawYears 58 = .ok (.ladd, 1) := by decide +kernel
theorem dX2_drawYears_59 : decode cX2_drawYears 59 = .ok (.ldc2_w 156, 3) := by decide +kernel
theorem dX2_drawYears_62 : decode cX2_drawYears 62 = .ok (.lrem, 1) := by decide +kernel
theorem dX2_drawYears_63 : decode cX2_drawYears 63 = .ok (.lstore 5, 2) := by decide +kernel
theorem dX2_drawYears_65 : decode cX2_drawYears 65 = .ok (.aload_n 0, 1) := by decide +kernel
theorem dX2_drawYears_66 : decode cX2_drawYears 66 = .ok (.getfield 18, 3) := by decide +kernel
theorem dX2_drawYears_69 : decode cX2_drawYears 69 = .ok (.iconst 1, 1) := by decide +kernel
theorem dX2_drawYears_70 : decode cX2_drawYears 70 = .ok (.dup2, 1) := by decide +kernel
theorem dX2_drawYears_71 : decode cX2_drawYears 71 = .ok (.iaload, 1) := by decide +kernel
theorem dX2_drawYears_72 : decode cX2_drawYears 72 = .ok (.aload_n 0, 1) := by decide +kernel
theorem dX2_drawYears_73 : decode cX2_drawYears 73 = .ok (.getfield 12, 3) := by decide +kernel
theorem dX2_drawYears_76 : decode cX2_drawYears 76 = .ok (.aload_n 2, 1) := by decide +kernel
theorem dX2_drawYears_77 : decode cX2_drawYears 77 = .ok (.lload 5, 2) := by decide +kernel
theorem dX2_drawYears_79 : decode cX2_drawYears 79 = .ok (.ldc2_w 158, 3) := by decide +kernel
theorem dX2_drawYears_82 : decode cX2_drawYears 82 = .ok (.ldiv, 1) := by decide +kernel
theorem dX2_drawYears_83 : decode cX2_drawYears 83 = .ok (.ldc2_w 160, 3) := by decide +kernel
theorem dX2_drawYears_86 : decode cX2_drawYears 86 = .ok (.lrem, 1) := by decide +kernel
theorem dX2_drawYears_87 : decode cX2_drawYears 87 = .ok (.l2i, 1) := by decide +kernel
theorem dX2_drawYears_88 : decode cX2_drawYears 88 = .ok (.invokevirtual 43, 3) := by decide +kernel
theorem dX2_drawYears_91 : decode cX2_drawYears 91 = .ok (.iadd, 1) := by decide +kernel
theorem dX2_drawYears_92 : decode cX2_drawYears 92 = .ok (.iastore, 1) := by decide +kernel
theorem dX2_drawYears_93 : decode cX2_drawYears 93 = .ok (.iinc 8 1, 3) := by decide +kernel
theorem dX2_drawYears_96 : decode cX2_drawYears 96 = .ok (.goto (-54), 3) := by decide +kernel
theorem dX2_drawYears_99 : decode cX2_drawYears 99 = .ok (.aload_n 0, 1) := by decide +kernel
theorem dX2_drawYears_100 : decode cX2_drawYears 100 = .ok (.getfield 18, 3) := by decide +kernel
theorem dX2_drawYears_103 : decode cX2_drawYears 103 = .ok (.iconst 0, 1) := by decide +kernel
theorem dX2_drawYears_104 : decode cX2_drawYears 104 = .ok (.dup2, 1) := by decide +kernel
theorem dX2_drawYears_105 : decode cX2_drawYears 105 = .ok (.iaload, 1) := by decide +kernel
theorem dX2_drawYears_106 : decode cX2_drawYears 106 = .ok (.aload_n 0, 1) := by decide +kernel
theorem dX2_drawYears_107 : decode cX2_drawYears 107 = .ok (.getfield 12, 3) := by decide +kernel
theorem dX2_drawYears_110 : decode cX2_drawYears 110 = .ok (.getfield 47, 3) := by decide +kernel
theorem dX2_drawYears_113 : decode cX2_drawYears 113 = .ok (.iadd, 1) := by decide +kernel
theorem dX2_drawYears_114 : decode cX2_drawYears 114 = .ok (.iastore, 1) := by decide +kernel
theorem dX2_drawYears_115 : decode cX2_drawYears 115 = .ok (.iinc 7 1, 3) := by decide +kernel
theorem dX2_drawYears_118 : decode cX2_drawYears 118 = .ok (.goto (-96), 3) := by decide +kernel
theorem dX2_drawYears_121 : decode cX2_drawYears 121 = .ok (.return_, 1) := by decide +kernel
