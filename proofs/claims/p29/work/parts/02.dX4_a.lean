theorem dX4_reads_0 : decode cX4_reads 0 = .ok (.aload_n 1, 1) := by decide +kernel
theorem dX4_reads_1 : decode cX4_reads 1 = .ok (.invokevirtual 9, 3) := by decide +kernel
theorem dX4_reads_4 : decode cX4_reads 4 = .ok (.aload_n 0, 1) := by decide +kernel
theorem dX4_reads_5 : decode cX4_reads 5 = .ok (.invokevirtual 14, 3) := by decide +kernel
theorem dX4_reads_8 : decode cX4_reads 8 = .ok (.iconst 0, 1) := by decide +kernel
theorem dX4_reads_9 : decode cX4_reads 9 = .ok (.istore_n 2, 1) := by decide +kernel
theorem dX4_reads_10 : decode cX4_reads 10 = .ok (.iload_n 2, 1) := by decide +kernel
theorem dX4_reads_11 : decode cX4_reads 11 = .ok (.bipush 12, 2) := by decide +kernel
theorem dX4_reads_13 : decode cX4_reads 13 = .ok (.if_icmp .gt 40, 3) := by decide +kernel
theorem dX4_reads_16 : decode cX4_reads 16 = .ok (.aload_n 0, 1) := by decide +kernel
theorem dX4_reads_17 : decode cX4_reads 17 = .ok (.aload_n 1, 1) := by decide +kernel
theorem dX4_reads_18 : decode cX4_reads 18 = .ok (.invokestatic 19, 3) := by decide +kernel
theorem dX4_reads_21 : decode cX4_reads 21 = .ok (.ifCond .ne 5, 3) := by decide +kernel
theorem dX4_reads_24 : decode cX4_reads 24 = .ok (.iconst 0, 1) := by decide +kernel
theorem dX4_reads_25 : decode cX4_reads 25 = .ok (.ireturn, 1) := by decide +kernel
theorem dX4_reads_26 : decode cX4_reads 26 = .ok (.aload_n 0, 1) := by decide +kernel
theorem dX4_reads_27 : decode cX4_reads 27 = .ok (.invokevirtual 25, 3) := by decide +kernel
theorem dX4_reads_30 : decode cX4_reads 30 = .ok (.iconst (-1), 1) := by decide +kernel
theorem dX4_reads_31 : decode cX4_reads 31 = .ok (.if_icmp .ne 5, 3) := by decide +kernel
theorem dX4_reads_34 : decode cX4_reads 34 = .ok (.iconst 1, 1) := by decide +kernel
theorem dX4_reads_35 : decode cX4_reads 35 = .ok (.ireturn, 1) := by decide +kernel
theorem dX4_reads_36 : decode cX4_reads 36 = .ok (.aload_n 0, 1) := by decide +kernel
theorem dX4_reads_37 : decode cX4_reads 37 = .ok (.bipush 59, 2) := by decide +kernel
theorem dX4_reads_39 : decode cX4_reads 39 = .ok (.invokevirtual 29, 3) := by decide +kernel
theorem dX4_reads_42 : decode cX4_reads 42 = .ok (.ifCond .ne 5, 3) := by decide +kernel
theorem dX4_reads_45 : decode cX4_reads 45 = .ok (.iconst 0, 1) := by decide +kernel
theorem dX4_reads_46 : decode cX4_reads 46 = .ok (.ireturn, 1) := by decide +kernel
theorem dX4_reads_47 : decode cX4_reads 47 = .ok (.iinc 2 1, 3) := by decide +kernel
theorem dX4_reads_50 : decode cX4_reads 50 = .ok (.goto (-40), 3) := by decide +kernel
theorem dX4_reads_53 : decode cX4_reads 53 = .ok (.aload_n 0, 1) := by decide +kernel
theorem dX4_reads_54 : decode cX4_reads 54 = .ok (.iconst 4, 1) := by decide +kernel
theorem dX4_reads_55 : decode cX4_reads 55 = .ok (.invokevirtual 33, 3) := by decide +kernel
theorem dX4_reads_58 : decode cX4_reads 58 = .ok (.ireturn, 1) := by decide +kernel
theorem dX4_readClause_0 : decode cX4_readClause 0 = .ok (.aload_n 0, 1) := by decide +kernel
theorem dX4_readClause_1 : decode cX4_readClause 1 = .ok (.invokevirtual 36, 3) := by decide +kernel
theorem dX4_readClause_4 : decode cX4_readClause 4 = .ok (.getstatic 40, 3) := by decide +kernel
theorem dX4_readClause_7 : decode cX4_readClause 7 = .ok (.if_acmp .eq 9, 3) := by decide +kernel
theorem dX4_readClause_10 : decode cX4_readClause 10 = .ok (.aload_n 0, 1) := by decide +kernel
theorem dX4_readClause_11 : decode cX4_readClause 11 = .ok (.iconst 0, 1) := by decide +kernel
theorem dX4_readClause_12 : decode cX4_readClause 12 = .ok (.invokevirtual 33, 3) := by decide +kernel
theorem dX4_readClause_15 : decode cX4_readClause 15 = .ok (.ireturn, 1) := by decide +kernel
theorem dX4_readClause_16 : decode cX4_readClause 16 = .ok (.aload_n 1, 1) := by decide +kernel
theorem dX4_readClause_17 : decode cX4_readClause 17 = .ok (.invokevirtual 46, 3) := by decide +kernel
theorem dX4_readClause_20 : decode cX4_readClause 20 = .ok (.ifCond .ne 9, 3) := by decide +kernel
theorem dX4_readClause_23 : decode cX4_readClause 23 = .ok (.aload_n 0, 1) := by decide +kernel
theorem dX4_readClause_24 : decode cX4_readClause 24 = .ok (.iconst 4, 1) := by decide +kernel
theorem dX4_readClause_25 : decode cX4_readClause 25 = .ok (.invokevirtual 33, 3) := by decide +kernel
theorem dX4_readClause_28 : decode cX4_readClause 28 = .ok (.ireturn, 1) := by decide +kernel
theorem dX4_readClause_29 : decode cX4_readClause 29 = .ok (.aload_n 0, 1) := by decide +kernel
theorem dX4_readClause_30 : decode cX4_readClause 30 = .ok (.invokevirtual 50, 3) := by decide +kernel
theorem dX4_readClause_33 : decode cX4_readClause 33 = .ok (.aload_n 1, 1) := by decide +kernel
theorem dX4_readClause_34 : decode cX4_readClause 34 = .ok (.getfield 53, 3) := by decide +kernel
theorem dX4_readClause_37 : decode cX4_readClause 37 = .ok (.istore_n 2, 1) := by decide +kernel
theorem dX4_readClause_38 : decode cX4_readClause 38 = .ok (.aload_n 1, 1) := by decide +kernel
theorem dX4_readClause_39 : decode cX4_readClause 39 = .ok (.getfield 57, 3) := by decide +kernel
theorem dX4_readClause_42 : decode cX4_readClause 42 = .ok (.istore_n 3, 1) := by decide +kernel
theorem dX4_readClause_43 : decode cX4_readClause 43 = .ok (.aload_n 0, 1) := by decide +kernel
theorem dX4_readClause_44 : decode cX4_readClause 44 = .ok (.aload_n 1, 1) := by decide +kernel
theorem dX4_readClause_45 : decode cX4_readClause 45 = .ok (.invokestatic 60, 3) := by decide +kernel
theorem dX4_readClause_48 : decode cX4_readClause 48 = .ok (.ifCond .ne 5, 3) := by decide +kernel
theorem dX4_readClause_51 : decode cX4_readClause 51 = .ok (.iconst 0, 1) := by decide +kernel
theorem dX4_readClause_52 : decode cX4_readClause 52 = .ok (.ireturn, 1) := by decide +kernel
theorem dX4_readClause_53 : decode cX4_readClause 53 = .ok (.aload_n 1, 1) := by decide +kernel
theorem dX4_readClause_54 : decode cX4_readClause 54 = .ok (.getfield 53, 3) := by decide +kernel
theorem dX4_readClause_57 : decode cX4_readClause 57 = .ok (.istore 4, 2) := by decide +kernel
theorem dX4_readClause_59 : decode cX4_readClause 59 = .ok (.aload_n 0, 1) := by decide +kernel
theorem dX4_readClause_60 : decode cX4_readClause 60 = .ok (.invokevirtual 36, 3) := by decide +kernel
theorem dX4_readClause_63 : decode cX4_readClause 63 = .ok (.getstatic 63, 3) := by decide +kernel
theorem dX4_readClause_66 : decode cX4_readClause 66 = .ok (.if_acmp .ne 18, 3) := by decide +kernel
theorem dX4_readClause_69 : decode cX4_readClause 69 = .ok (.aload_n 0, 1) := by decide +kernel
theorem dX4_readClause_70 : decode cX4_readClause 70 = .ok (.invokevirtual 50, 3) := by decide +kernel
theorem dX4_readClause_73 : decode cX4_readClause 73 = .ok (.aload_n 0, 1) := by decide +kernel
theorem dX4_readClause_74 : decode cX4_readClause 74 = .ok (.aload_n 1, 1) := by decide +kernel
theorem dX4_readClause_75 : decode cX4_readClause 75 = .ok (.iconst 0, 1) := by decide +kernel
theorem dX4_readClause_76 : decode cX4_readClause 76 = .ok (.invokestatic 66, 3) := by decide +kernel
theorem dX4_readClause_79 : decode cX4_readClause 79 = .ok (.ifCond .ne 5, 3) := by decide +kernel
theorem dX4_readClause_82 : decode cX4_readClause 82 = .ok (.iconst 0, 1) := by decide +kernel
theorem dX4_readClause_83 : decode cX4_readClause 83 = .ok (.ireturn, 1) := by decide +kernel
theorem dX4_readClause_84 : decode cX4_readClause 84 = .ok (.aload_n 1, 1) := by decide +kernel
theorem dX4_readClause_85 : decode cX4_readClause 85 = .ok (.iload_n 2, 1) := by decide +kernel
theorem dX4_readClause_86 : decode cX4_readClause 86 = .ok (.iload 4, 2) := by decide +kernel
theorem dX4_readClause_88 : decode cX4_readClause 88 = .ok (.iload_n 3, 1) := by decide +kernel
theorem dX4_readClause_89 : decode cX4_readClause 89 = .ok (.invokevirtual 70, 3) := by decide +kernel
theorem dX4_readClause_92 : decode cX4_readClause 92 = .ok (.iconst 1, 1) := by decide +kernel
theorem dX4_readClause_93 : decode cX4_readClause 93 = .ok (.ireturn, 1) := by decide +kernel
theorem dX4_readTest_0 : decode cX4_readTest 0 = .ok (.aload_n 0, 1) := by decide +kernel
theorem dX4_readTest_1 : decode cX4_readTest 1 = .ok (.aload_n 1, 1) := by decide +kernel
theorem dX4_readTest_2 : decode cX4_readTest 2 = .ok (.iload_n 2, 1) := by decide +kernel
theorem dX4_readTest_3 : decode cX4_readTest 3 = .ok (.invokestatic 74, 3) := by decide +kernel
theorem dX4_readTest_6 : decode cX4_readTest 6 = .ok (.ifCond .ne 5, 3) := by decide +kernel
theorem dX4_readTest_9 : decode cX4_readTest 9 = .ok (.iconst 0, 1) := by decide +kernel
theorem dX4_readTest_10 : decode cX4_readTest 10 = .ok (.ireturn, 1) := by decide +kernel
theorem dX4_readTest_11 : decode cX4_readTest 11 = .ok (.iconst 0, 1) := by decide +kernel
theorem dX4_readTest_12 : decode cX4_readTest 12 = .ok (.istore_n 3, 1) := by decide +kernel
theorem dX4_readTest_13 : decode cX4_readTest 13 = .ok (.iconst 0, 1) := by decide +kernel
theorem dX4_readTest_14 : decode cX4_readTest 14 = .ok (.istore 4, 2) := by decide +kernel
theorem dX4_readTest_16 : decode cX4_readTest 16 = .ok (.iload 4, 2) := by decide +kernel
theorem dX4_readTest_18 : decode cX4_readTest 18 = .ok (.sipush 400, 3) := by decide +kernel
theorem dX4_readTest_21 : decode cX4_readTest 21 = .ok (.if_icmp .ge 92, 3) := by decide +kernel
theorem dX4_readTest_24 : decode cX4_readTest 24 = .ok (.aload_n 0, 1) := by decide +kernel
theorem dX4_readTest_25 : decode cX4_readTest 25 = .ok (.invokevirtual 36, 3) := by decide +kernel
theorem dX4_readTest_28 : decode cX4_readTest 28 = .ok (.invokestatic 77, 3) := by decide +kernel
theorem dX4_readTest_31 : decode cX4_readTest 31 = .ok (.ifCond .eq 82, 3) := by decide +kernel
theorem dX4_readTest_34 : decode cX4_readTest 34 = .ok (.aload_n 0, 1) := by decide +kernel
theorem dX4_readTest_35 : decode cX4_readTest 35 = .ok (.invokevirtual 36, 3) := by decide +kernel
theorem dX4_readTest_38 : decode cX4_readTest 38 = .ok (.getstatic 81, 3) := by decide +kernel
theorem dX4_readTest_41 : decode cX4_readTest 41 = .ok (.if_acmp .ne 7, 3) := by decide +kernel
theorem dX4_readTest_44 : decode cX4_readTest 44 = .ok (.iconst 1, 1) := by decide +kernel
theorem dX4_readTest_45 : decode cX4_readTest 45 = .ok (.goto 4, 3) := by decide +kernel
theorem dX4_readTest_48 : decode cX4_readTest 48 = .ok (.iconst 0, 1) := by decide +kernel
theorem dX4_readTest_49 : decode cX4_readTest 49 = .ok (.istore 5, 2) := by decide +kernel
theorem dX4_readTest_51 : decode cX4_readTest 51 = .ok (.iload 5, 2) := by decide +kernel
theorem dX4_readTest_53 : decode cX4_readTest 53 = .ok (.ifCond .eq 13, 3) := by decide +kernel
theorem dX4_readTest_56 : decode cX4_readTest 56 = .ok (.iload_n 3, 1) := by decide +kernel
theorem dX4_readTest_57 : decode cX4_readTest 57 = .ok (.ifCond .eq 9, 3) := by decide +kernel
theorem dX4_readTest_60 : decode cX4_readTest 60 = .ok (.aload_n 1, 1) := by decide +kernel
theorem dX4_readTest_61 : decode cX4_readTest 61 = .ok (.bipush (-3), 2) := by decide +kernel
theorem dX4_readTest_63 : decode cX4_readTest 63 = .ok (.invokevirtual 84, 3) := by decide +kernel
theorem dX4_readTest_66 : decode cX4_readTest 66 = .ok (.iload_n 3, 1) := by decide +kernel
theorem dX4_readTest_67 : decode cX4_readTest 67 = .ok (.ifCond .ne 8, 3) := by decide +kernel
theorem dX4_readTest_70 : decode cX4_readTest 70 = .ok (.iload 5, 2) := by decide +kernel
theorem dX4_readTest_72 : decode cX4_readTest 72 = .ok (.ifCond .eq 7, 3) := by decide +kernel
theorem dX4_readTest_75 : decode cX4_readTest 75 = .ok (.iconst 1, 1) := by decide +kernel
theorem dX4_readTest_76 : decode cX4_readTest 76 = .ok (.goto 4, 3) := by decide +kernel
theorem dX4_readTest_79 : decode cX4_readTest 79 = .ok (.iconst 0, 1) := by decide +kernel
theorem dX4_readTest_80 : decode cX4_readTest 80 = .ok (.istore_n 3, 1) := by decide +kernel
theorem dX4_readTest_81 : decode cX4_readTest 81 = .ok (.aload_n 0, 1) := by decide +kernel
theorem dX4_readTest_82 : decode cX4_readTest 82 = .ok (.invokevirtual 50, 3) := by decide +kernel
theorem dX4_readTest_85 : decode cX4_readTest 85 = .ok (.aload_n 0, 1) := by decide +kernel
theorem dX4_readTest_86 : decode cX4_readTest 86 = .ok (.aload_n 1, 1) := by decide +kernel
theorem dX4_readTest_87 : decode cX4_readTest 87 = .ok (.iload_n 2, 1) := by decide +kernel
theorem dX4_readTest_88 : decode cX4_readTest 88 = .ok (.invokestatic 74, 3) := by decide +kernel
theorem dX4_readTest_91 : decode cX4_readTest 91 = .ok (.ifCond .ne 5, 3) := by decide +kernel
theorem dX4_readTest_94 : decode cX4_readTest 94 = .ok (.iconst 0, 1) := by decide +kernel
theorem dX4_readTest_95 : decode cX4_readTest 95 = .ok (.ireturn, 1) := by decide +kernel
theorem dX4_readTest_96 : decode cX4_readTest 96 = .ok (.iload 5, 2) := by decide +kernel
theorem dX4_readTest_98 : decode cX4_readTest 98 = .ok (.ifCond .ne 9, 3) := by decide +kernel
theorem dX4_readTest_101 : decode cX4_readTest 101 = .ok (.aload_n 1, 1) := by decide +kernel
theorem dX4_readTest_102 : decode cX4_readTest 102 = .ok (.bipush (-2), 2) := by decide +kernel
theorem dX4_readTest_104 : decode cX4_readTest 104 = .ok (.invokevirtual 84, 3) := by decide +kernel
theorem dX4_readTest_107 : decode cX4_readTest 107 = .ok (.iinc 4 1, 3) := by decide +kernel
theorem dX4_readTest_110 : decode cX4_readTest 110 = .ok (.goto (-94), 3) := by decide +kernel
theorem dX4_readTest_113 : decode cX4_readTest 113 = .ok (.iload_n 3, 1) := by decide +kernel
theorem dX4_readTest_114 : decode cX4_readTest 114 = .ok (.ifCond .eq 9, 3) := by decide +kernel
theorem dX4_readTest_117 : decode cX4_readTest 117 = .ok (.aload_n 1, 1) := by decide +kernel
theorem dX4_readTest_118 : decode cX4_readTest 118 = .ok (.bipush (-3), 2) := by decide +kernel
theorem dX4_readTest_120 : decode cX4_readTest 120 = .ok (.invokevirtual 84, 3) := by decide +kernel
theorem dX4_readTest_123 : decode cX4_readTest 123 = .ok (.iconst 1, 1) := by decide +kernel
theorem dX4_readTest_124 : decode cX4_readTest 124 = .ok (.ireturn, 1) := by decide +kernel
theorem dX4_readFact_0 : decode cX4_readFact 0 = .ok (.aload_n 0, 1) := by decide +kernel
theorem dX4_readFact_1 : decode cX4_readFact 1 = .ok (.invokevirtual 36, 3) := by decide +kernel
theorem dX4_readFact_4 : decode cX4_readFact 4 = .ok (.getstatic 88, 3) := by decide +kernel
theorem dX4_readFact_7 : decode cX4_readFact 7 = .ok (.if_acmp .ne 7, 3) := by decide +kernel
theorem dX4_readFact_10 : decode cX4_readFact 10 = .ok (.iconst 1, 1) := by decide +kernel
theorem dX4_readFact_11 : decode cX4_readFact 11 = .ok (.goto 4, 3) := by decide +kernel
theorem dX4_readFact_14 : decode cX4_readFact 14 = .ok (.iconst 0, 1) := by decide +kernel
theorem dX4_readFact_15 : decode cX4_readFact 15 = .ok (.istore_n 3, 1) := by decide +kernel
theorem dX4_readFact_16 : decode cX4_readFact 16 = .ok (.iload_n 3, 1) := by decide +kernel
theorem dX4_readFact_17 : decode cX4_readFact 17 = .ok (.ifCond .ne 18, 3) := by decide +kernel
theorem dX4_readFact_20 : decode cX4_readFact 20 = .ok (.aload_n 0, 1) := by decide +kernel
theorem dX4_readFact_21 : decode cX4_readFact 21 = .ok (.invokevirtual 25, 3) := by decide +kernel
theorem dX4_readFact_24 : decode cX4_readFact 24 = .ok (.bipush 91, 2) := by decide +kernel
theorem dX4_readFact_26 : decode cX4_readFact 26 = .ok (.if_icmp .eq 9, 3) := by decide +kernel
theorem dX4_readFact_29 : decode cX4_readFact 29 = .ok (.aload_n 0, 1) := by decide +kernel
theorem dX4_readFact_30 : decode cX4_readFact 30 = .ok (.aload_n 1, 1) := by decide +kernel
theorem dX4_readFact_31 : decode cX4_readFact 31 = .ok (.invokestatic 91, 3) := by decide +kernel
theorem dX4_readFact_34 : decode cX4_readFact 34 = .ok (.ireturn, 1) := by decide +kernel
theorem dX4_readFact_35 : decode cX4_readFact 35 = .ok (.iload_n 2, 1) := by decide +kernel
theorem dX4_readFact_36 : decode cX4_readFact 36 = .ok (.bipush 10, 2) := by decide +kernel
theorem dX4_readFact_38 : decode cX4_readFact 38 = .ok (.if_icmp .lt 9, 3) := by decide +kernel
theorem dX4_readFact_41 : decode cX4_readFact 41 = .ok (.aload_n 0, 1) := by decide +kernel
theorem dX4_readFact_42 : decode cX4_readFact 42 = .ok (.iconst 2, 1) := by decide +kernel
theorem dX4_readFact_43 : decode cX4_readFact 43 = .ok (.invokevirtual 33, 3) := by decide +kernel
theorem dX4_readFact_46 : decode cX4_readFact 46 = .ok (.ireturn, 1) := by decide +kernel
theorem dX4_readFact_47 : decode cX4_readFact 47 = .ok (.aload_n 0, 1) := by decide +kernel
theorem dX4_readFact_48 : decode cX4_readFact 48 = .ok (.invokevirtual 50, 3) := by decide +kernel
theorem dX4_readFact_51 : decode cX4_readFact 51 = .ok (.iload_n 3, 1) := by decide +kernel
theorem dX4_readFact_52 : decode cX4_readFact 52 = .ok (.ifCond .ne 29, 3) := by decide +kernel
theorem dX4_readFact_55 : decode cX4_readFact 55 = .ok (.aload_n 0, 1) := by decide +kernel
theorem dX4_readFact_56 : decode cX4_readFact 56 = .ok (.aload_n 1, 1) := by decide +kernel
theorem dX4_readFact_57 : decode cX4_readFact 57 = .ok (.iload_n 2, 1) := by decide +kernel
theorem dX4_readFact_58 : decode cX4_readFact 58 = .ok (.iconst 1, 1) := by decide +kernel
theorem dX4_readFact_59 : decode cX4_readFact 59 = .ok (.iadd, 1) := by decide +kernel
theorem dX4_readFact_60 : decode cX4_readFact 60 = .ok (.invokestatic 66, 3) := by decide +kernel
theorem dX4_readFact_63 : decode cX4_readFact 63 = .ok (.ifCond .eq 16, 3) := by decide +kernel
theorem dX4_readFact_66 : decode cX4_readFact 66 = .ok (.aload_n 0, 1) := by decide +kernel
theorem dX4_readFact_67 : decode cX4_readFact 67 = .ok (.bipush 93, 2) := by decide +kernel
theorem dX4_readFact_69 : decode cX4_readFact 69 = .ok (.invokevirtual 29, 3) := by decide +kernel
theorem dX4_readFact_72 : decode cX4_readFact 72 = .ok (.ifCond .eq 7, 3) := by decide +kernel
theorem dX4_readFact_75 : decode cX4_readFact 75 = .ok (.iconst 1, 1) := by decide +kernel
theorem dX4_readFact_76 : decode cX4_readFact 76 = .ok (.goto 4, 3) := by decide +kernel
theorem dX4_readFact_79 : decode cX4_readFact 79 = .ok (.iconst 0, 1) := by decide +kernel
theorem dX4_readFact_80 : decode cX4_readFact 80 = .ok (.ireturn, 1) := by decide +kernel
theorem dX4_readFact_81 : decode cX4_readFact 81 = .ok (.aload_n 0, 1) := by decide +kernel
theorem dX4_readFact_82 : decode cX4_readFact 82 = .ok (.aload_n 1, 1) := by decide +kernel
theorem dX4_readFact_83 : decode cX4_readFact 83 = .ok (.iload_n 2, 1) := by decide +kernel
theorem dX4_readFact_84 : decode cX4_readFact 84 = .ok (.iconst 1, 1) := by decide +kernel
theorem dX4_readFact_85 : decode cX4_readFact 85 = .ok (.iadd, 1) := by decide +kernel
theorem dX4_readFact_86 : decode cX4_readFact 86 = .ok (.invokestatic 74, 3) := by decide +kernel
theorem dX4_readFact_89 : decode cX4_readFact 89 = .ok (.ifCond .ne 5, 3) := by decide +kernel
theorem dX4_readFact_92 : decode cX4_readFact 92 = .ok (.iconst 0, 1) := by decide +kernel
theorem dX4_readFact_93 : decode cX4_readFact 93 = .ok (.ireturn, 1) := by decide +kernel
theorem dX4_readFact_94 : decode cX4_readFact 94 = .ok (.aload_n 1, 1) := by decide +kernel
theorem dX4_readFact_95 : decode cX4_readFact 95 = .ok (.iconst (-1), 1) := by decide +kernel
theorem dX4_readFact_96 : decode cX4_readFact 96 = .ok (.invokevirtual 84, 3) := by decide +kernel
theorem dX4_readFact_99 : decode cX4_readFact 99 = .ok (.iconst 1, 1) := by decide +kernel
theorem dX4_readFact_100 : decode cX4_readFact 100 = .ok (.ireturn, 1) := by decide +kernel
theorem dX4_readComparison_0 : decode cX4_readComparison 0 = .ok (.aload_n 1, 1) := by decide +kernel
theorem dX4_readComparison_1 : decode cX4_readComparison 1 = .ok (.getfield 53, 3) := by decide +kernel
theorem dX4_readComparison_4 : decode cX4_readComparison 4 = .ok (.istore_n 2, 1) := by decide +kernel
theorem dX4_readComparison_5 : decode cX4_readComparison 5 = .ok (.aload_n 0, 1) := by decide +kernel
theorem dX4_readComparison_6 : decode cX4_readComparison 6 = .ok (.aload_n 1, 1) := by decide +kernel
theorem dX4_readComparison_7 : decode cX4_readComparison 7 = .ok (.invokestatic 60, 3) := by decide +kernel
theorem dX4_readComparison_10 : decode cX4_readComparison 10 = .ok (.ifCond .ne 5, 3) := by decide +kernel
theorem dX4_readComparison_13 : decode cX4_readComparison 13 = .ok (.iconst 0, 1) := by decide +kernel
theorem dX4_readComparison_14 : decode cX4_readComparison 14 = .ok (.ireturn, 1) := by decide +kernel
theorem dX4_readComparison_15 : decode cX4_readComparison 15 = .ok (.aload_n 0, 1) := by decide +kernel
theorem dX4_readComparison_16 : decode cX4_readComparison 16 = .ok (.invokevirtual 25, 3) := by decide +kernel
theorem dX4_readComparison_19 : decode cX4_readComparison 19 = .ok (.istore_n 3, 1) := by decide +kernel
theorem dX4_readComparison_20 : decode cX4_readComparison 20 = .ok (.iload_n 3, 1) := by decide +kernel
theorem dX4_readComparison_21 : decode cX4_readComparison 21 = .ok (.invokestatic 94, 3) := by decide +kernel
theorem dX4_readComparison_24 : decode cX4_readComparison 24 = .ok (.ifCond .ne 9, 3) := by decide +kernel
theorem dX4_readComparison_27 : decode cX4_readComparison 27 = .ok (.aload_n 0, 1) := by decide +kernel
theorem dX4_readComparison_28 : decode cX4_readComparison 28 = .ok (.iconst 0, 1) := by decide +kernel
theorem dX4_readComparison_29 : decode cX4_readComparison 29 = .ok (.invokevirtual 33, 3) := by decide +kernel
theorem dX4_readComparison_32 : decode cX4_readComparison 32 = .ok (.ireturn, 1) := by decide +kernel
theorem dX4_readComparison_33 : decode cX4_readComparison 33 = .ok (.aload_n 1, 1) := by decide +kernel
theorem dX4_readComparison_34 : decode cX4_readComparison 34 = .ok (.invokevirtual 97, 3) := by decide +kernel
theorem dX4_readComparison_37 : decode cX4_readComparison 37 = .ok (.ifCond .ne 9, 3) := by decide +kernel
theorem dX4_readComparison_40 : decode cX4_readComparison 40 = .ok (.aload_n 0, 1) := by decide +kernel
theorem dX4_readComparison_41 : decode cX4_readComparison 41 = .ok (.iconst 3, 1) := by decide +kernel
theorem dX4_readComparison_42 : decode cX4_readComparison 42 = .ok (.invokevirtual 33, 3) := by decide +kernel
theorem dX4_readComparison_45 : decode cX4_readComparison 45 = .ok (.ireturn, 1) := by decide +kernel
theorem dX4_readComparison_46 : decode cX4_readComparison 46 = .ok (.aload_n 1, 1) := by decide +kernel
theorem dX4_readComparison_47 : decode cX4_readComparison 47 = .ok (.iload_n 2, 1) := by decide +kernel
theorem dX4_readComparison_48 : decode cX4_readComparison 48 = .ok (.iload_n 3, 1) := by decide +kernel
theorem dX4_readComparison_49 : decode cX4_readComparison 49 = .ok (.invokevirtual 100, 3) := by decide +kernel
theorem dX4_readComparison_52 : decode cX4_readComparison 52 = .ok (.istore 4, 2) := by decide +kernel
theorem dX4_readComparison_54 : decode cX4_readComparison 54 = .ok (.aload_n 0, 1) := by decide +kernel
theorem dX4_readComparison_55 : decode cX4_readComparison 55 = .ok (.invokevirtual 50, 3) := by decide +kernel
theorem dX4_readComparison_58 : decode cX4_readComparison 58 = .ok (.aload_n 0, 1) := by decide +kernel
theorem dX4_readComparison_59 : decode cX4_readComparison 59 = .ok (.aload_n 1, 1) := by decide +kernel
theorem dX4_readComparison_60 : decode cX4_readComparison 60 = .ok (.invokestatic 60, 3) := by decide +kernel
theorem dX4_readComparison_63 : decode cX4_readComparison 63 = .ok (.ifCond .ne 5, 3) := by decide +kernel
theorem dX4_readComparison_66 : decode cX4_readComparison 66 = .ok (.iconst 0, 1) := by decide +kernel
theorem dX4_readComparison_67 : decode cX4_readComparison 67 = .ok (.ireturn, 1) := by decide +kernel
theorem dX4_readComparison_68 : decode cX4_readComparison 68 = .ok (.aload_n 1, 1) := by decide +kernel
theorem dX4_readComparison_69 : decode cX4_readComparison 69 = .ok (.iload 4, 2) := by decide +kernel
theorem dX4_readComparison_71 : decode cX4_readComparison 71 = .ok (.invokevirtual 104, 3) := by decide +kernel
theorem dX4_readComparison_74 : decode cX4_readComparison 74 = .ok (.aload_n 1, 1) := by decide +kernel
theorem dX4_readComparison_75 : decode cX4_readComparison 75 = .ok (.iload 4, 2) := by decide +kernel
theorem dX4_readComparison_77 : decode cX4_readComparison 77 = .ok (.invokevirtual 84, 3) := by decide +kernel
theorem dX4_readComparison_80 : decode cX4_readComparison 80 = .ok (.iconst 1, 1) := by decide +kernel
theorem dX4_readComparison_81 : decode cX4_readComparison 81 = .ok (.ireturn, 1) := by decide +kernel
theorem dX4_readSum_0 : decode cX4_readSum 0 = .ok (.bipush 43, 2) := by decide +kernel
theorem dX4_readSum_2 : decode cX4_readSum 2 = .ok (.istore_n 2, 1) := by decide +kernel
theorem dX4_readSum_3 : decode cX4_readSum 3 = .ok (.iconst 0, 1) := by decide +kernel
theorem dX4_readSum_4 : decode cX4_readSum 4 = .ok (.istore_n 3, 1) := by decide +kernel
theorem dX4_readSum_5 : decode cX4_readSum 5 = .ok (.iload_n 3, 1) := by decide +kernel
theorem dX4_readSum_6 : decode cX4_readSum 6 = .ok (.sipush 400, 3) := by decide +kernel
theorem dX4_readSum_9 : decode cX4_readSum 9 = .ok (.if_icmp .ge 129, 3) := by decide +kernel
theorem dX4_readSum_12 : decode cX4_readSum 12 = .ok (.aload_n 0, 1) := by decide +kernel
theorem dX4_readSum_13 : decode cX4_readSum 13 = .ok (.invokevirtual 25, 3) := by decide +kernel
theorem dX4_readSum_16 : decode cX4_readSum 16 = .ok (.bipush (-2), 2) := by decide +kernel
theorem dX4_readSum_18 : decode cX4_readSum 18 = .ok (.if_icmp .ne 7, 3) := by decide +kernel
theorem dX4_readSum_21 : decode cX4_readSum 21 = .ok (.iconst 1, 1) := by decide +kernel
theorem dX4_readSum_22 : decode cX4_readSum 22 = .ok (.goto 4, 3) := by decide +kernel
theorem dX4_readSum_25 : decode cX4_readSum 25 = .ok (.iconst 0, 1) := by decide +kernel
theorem dX4_readSum_26 : decode cX4_readSum 26 = .ok (.istore 4, 2) := by decide +kernel
theorem dX4_readSum_28 : decode cX4_readSum 28 = .ok (.aload_n 0, 1) := by decide +kernel
theorem dX4_readSum_29 : decode cX4_readSum 29 = .ok (.invokevirtual 107, 3) := by decide +kernel
theorem dX4_readSum_32 : decode cX4_readSum 32 = .ok (.istore 5, 2) := by decide +kernel
theorem dX4_readSum_34 : decode cX4_readSum 34 = .ok (.aload_n 0, 1) := by decide +kernel
theorem dX4_readSum_35 : decode cX4_readSum 35 = .ok (.invokevirtual 36, 3) := by decide +kernel
theorem dX4_readSum_38 : decode cX4_readSum 38 = .ok (.getfield 110, 3) := by decide +kernel
theorem dX4_readSum_41 : decode cX4_readSum 41 = .ok (.istore 6, 2) := by decide +kernel
theorem dX4_readSum_43 : decode cX4_readSum 43 = .ok (.iload 4, 2) := by decide +kernel
theorem dX4_readSum_45 : decode cX4_readSum 45 = .ok (.ifCond .ne 15, 3) := by decide +kernel
theorem dX4_readSum_48 : decode cX4_readSum 48 = .ok (.iload 6, 2) := by decide +kernel
theorem dX4_readSum_50 : decode cX4_readSum 50 = .ok (.iconst (-1), 1) := by decide +kernel
theorem dX4_readSum_51 : decode cX4_readSum 51 = .ok (.if_icmp .ne 9, 3) := by decide +kernel
theorem dX4_readSum_54 : decode cX4_readSum 54 = .ok (.aload_n 0, 1) := by decide +kernel
theorem dX4_readSum_55 : decode cX4_readSum 55 = .ok (.iconst 0, 1) := by decide +kernel
theorem dX4_readSum_56 : decode cX4_readSum 56 = .ok (.invokevirtual 33, 3) := by decide +kernel
theorem dX4_readSum_59 : decode cX4_readSum 59 = .ok (.ireturn, 1) := by decide +kernel
theorem dX4_readSum_60 : decode cX4_readSum 60 = .ok (.iload 4, 2) := by decide +kernel
theorem dX4_readSum_62 : decode cX4_readSum 62 = .ok (.ifCond .eq 15, 3) := by decide +kernel
theorem dX4_readSum_65 : decode cX4_readSum 65 = .ok (.iload 5, 2) := by decide +kernel
theorem dX4_readSum_67 : decode cX4_readSum 67 = .ok (.iconst (-1), 1) := by decide +kernel
theorem dX4_readSum_68 : decode cX4_readSum 68 = .ok (.if_icmp .ne 9, 3) := by decide +kernel
theorem dX4_readSum_71 : decode cX4_readSum 71 = .ok (.aload_n 0, 1) := by decide +kernel
theorem dX4_readSum_72 : decode cX4_readSum 72 = .ok (.iconst 1, 1) := by decide +kernel
theorem dX4_readSum_73 : decode cX4_readSum 73 = .ok (.invokevirtual 33, 3) := by decide +kernel
theorem dX4_readSum_76 : decode cX4_readSum 76 = .ok (.ireturn, 1) := by decide +kernel
theorem dX4_readSum_77 : decode cX4_readSum 77 = .ok (.aload_n 1, 1) := by decide +kernel
theorem dX4_readSum_78 : decode cX4_readSum 78 = .ok (.invokevirtual 97, 3) := by decide +kernel
theorem dX4_readSum_81 : decode cX4_readSum 81 = .ok (.ifCond .ne 9, 3) := by decide +kernel
theorem dX4_readSum_84 : decode cX4_readSum 84 = .ok (.aload_n 0, 1) := by decide +kernel
theorem dX4_readSum_85 : decode cX4_readSum 85 = .ok (.iconst 3, 1) := by decide +kernel
theorem dX4_readSum_86 : decode cX4_readSum 86 = .ok (.invokevirtual 33, 3) := by decide +kernel
theorem dX4_readSum_89 : decode cX4_readSum 89 = .ok (.ireturn, 1) := by decide +kernel
theorem dX4_readSum_90 : decode cX4_readSum 90 = .ok (.aload_n 1, 1) := by decide +kernel
theorem dX4_readSum_91 : decode cX4_readSum 91 = .ok (.iload_n 2, 1) := by decide +kernel
theorem dX4_readSum_92 : decode cX4_readSum 92 = .ok (.iload 4, 2) := by decide +kernel
theorem dX4_readSum_94 : decode cX4_readSum 94 = .ok (.ifCond .eq 11, 3) := by decide +kernel
theorem dX4_readSum_97 : decode cX4_readSum 97 = .ok (.iload 5, 2) := by decide +kernel
theorem dX4_readSum_99 : decode cX4_readSum 99 = .ok (.invokestatic 113, 3) := by decide +kernel
theorem dX4_readSum_102 : decode cX4_readSum 102 = .ok (.goto 5, 3) := by decide +kernel
theorem dX4_readSum_105 : decode cX4_readSum 105 = .ok (.iload 6, 2) := by decide +kernel
theorem dX4_readSum_107 : decode cX4_readSum 107 = .ok (.invokevirtual 117, 3) := by decide +kernel
theorem dX4_readSum_110 : decode cX4_readSum 110 = .ok (.aload_n 0, 1) := by decide +kernel
theorem dX4_readSum_111 : decode cX4_readSum 111 = .ok (.invokevirtual 50, 3) := by decide +kernel
theorem dX4_readSum_114 : decode cX4_readSum 114 = .ok (.aload_n 0, 1) := by decide +kernel
theorem dX4_readSum_115 : decode cX4_readSum 115 = .ok (.invokevirtual 25, 3) := by decide +kernel
theorem dX4_readSum_118 : decode cX4_readSum 118 = .ok (.istore_n 2, 1) := by decide +kernel
theorem dX4_readSum_119 : decode cX4_readSum 119 = .ok (.iload_n 2, 1) := by decide +kernel
theorem dX4_readSum_120 : decode cX4_readSum 120 = .ok (.invokestatic 121, 3) := by decide +kernel
theorem dX4_readSum_123 : decode cX4_readSum 123 = .ok (.ifCond .ne 5, 3) := by decide +kernel
theorem dX4_readSum_126 : decode cX4_readSum 126 = .ok (.iconst 1, 1) := by decide +kernel
theorem dX4_readSum_127 : decode cX4_readSum 127 = .ok (.ireturn, 1) := by decide +kernel
theorem dX4_readSum_128 : decode cX4_readSum 128 = .ok (.aload_n 0, 1) := by decide +kernel
theorem dX4_readSum_129 : decode cX4_readSum 129 = .ok (.invokevirtual 50, 3) := by decide +kernel
theorem dX4_readSum_132 : decode cX4_readSum 132 = .ok (.iinc 3 1, 3) := by decide +kernel
theorem dX4_readSum_135 : decode cX4_readSum 135 = .ok (.goto (-130), 3) := by decide +kernel
theorem dX4_readSum_138 : decode cX4_readSum 138 = .ok (.aload_n 0, 1) := by decide +kernel
theorem dX4_readSum_139 : decode cX4_readSum 139 = .ok (.iconst 0, 1) := by decide +kernel
theorem dX4_readSum_140 : decode cX4_readSum 140 = .ok (.invokevirtual 33, 3) := by decide +kernel
theorem dX4_readSum_143 : decode cX4_readSum 143 = .ok (.ireturn, 1) := by decide +kernel
theorem dX4_isAndOr_0 : decode cX4_isAndOr 0 = .ok (.aload_n 0, 1) := by decide +kernel
theorem dX4_isAndOr_1 : decode cX4_isAndOr 1 = .ok (.getstatic 124, 3) := by decide +kernel
theorem dX4_isAndOr_4 : decode cX4_isAndOr 4 = .ok (.if_acmp .eq 10, 3) := by decide +kernel
theorem dX4_isAndOr_7 : decode cX4_isAndOr 7 = .ok (.aload_n 0, 1) := by decide +kernel
theorem dX4_isAndOr_8 : decode cX4_isAndOr 8 = .ok (.getstatic 81, 3) := by decide +kernel
theorem dX4_isAndOr_11 : decode cX4_isAndOr 11 = .ok (.if_acmp .ne 7, 3) := by decide +kernel
theorem dX4_isAndOr_14 : decode cX4_isAndOr 14 = .ok (.iconst 1, 1) := by decide +kernel
theorem dX4_isAndOr_15 : decode cX4_isAndOr 15 = .ok (.goto 4, 3) := by decide +kernel
theorem dX4_isAndOr_18 : decode cX4_isAndOr 18 = .ok (.iconst 0, 1) := by decide +kernel
theorem dX4_isAndOr_19 : decode cX4_isAndOr 19 = .ok (.ireturn, 1) := by decide +kernel
theorem dX4_isComparison_0 : decode cX4_isComparison 0 = .ok (.iload_n 0, 1) := by decide +kernel
theorem dX4_isComparison_1 : decode cX4_isComparison 1 = .ok (.bipush 60, 2) := by decide +kernel
theorem dX4_isComparison_3 : decode cX4_isComparison 3 = .ok (.if_icmp .eq 29, 3) := by decide +kernel
theorem dX4_isComparison_6 : decode cX4_isComparison 6 = .ok (.iload_n 0, 1) := by decide +kernel
theorem dX4_isComparison_7 : decode cX4_isComparison 7 = .ok (.sipush 256, 3) := by decide +kernel
theorem dX4_isComparison_10 : decode cX4_isComparison 10 = .ok (.if_icmp .eq 22, 3) := by decide +kernel
theorem dX4_isComparison_13 : decode cX4_isComparison 13 = .ok (.iload_n 0, 1) := by decide +kernel
theorem dX4_isComparison_14 : decode cX4_isComparison 14 = .ok (.bipush 61, 2) := by decide +kernel
theorem dX4_isComparison_16 : decode cX4_isComparison 16 = .ok (.if_icmp .eq 16, 3) := by decide +kernel
theorem dX4_isComparison_19 : decode cX4_isComparison 19 = .ok (.iload_n 0, 1) := by decide +kernel
theorem dX4_isComparison_20 : decode cX4_isComparison 20 = .ok (.sipush 257, 3) := by decide +kernel
theorem dX4_isComparison_23 : decode cX4_isComparison 23 = .ok (.if_icmp .eq 9, 3) := by decide +kernel
theorem dX4_isComparison_26 : decode cX4_isComparison 26 = .ok (.iload_n 0, 1) := by decide +kernel
theorem dX4_isComparison_27 : decode cX4_isComparison 27 = .ok (.bipush 62, 2) := by decide +kernel
theorem dX4_isComparison_29 : decode cX4_isComparison 29 = .ok (.if_icmp .ne 7, 3) := by decide +kernel
theorem dX4_isComparison_32 : decode cX4_isComparison 32 = .ok (.iconst 1, 1) := by decide +kernel
theorem dX4_isComparison_33 : decode cX4_isComparison 33 = .ok (.goto 4, 3) := by decide +kernel
theorem dX4_isComparison_36 : decode cX4_isComparison 36 = .ok (.iconst 0, 1) := by decide +kernel
theorem dX4_isComparison_37 : decode cX4_isComparison 37 = .ok (.ireturn, 1) := by decide +kernel
theorem dX4_isJoin_0 : decode cX4_isJoin 0 = .ok (.iload_n 0, 1) := by decide +kernel
theorem dX4_isJoin_1 : decode cX4_isJoin 1 = .ok (.bipush 43, 2) := by decide +kernel
theorem dX4_isJoin_3 : decode cX4_isJoin 3 = .ok (.if_icmp .eq 27, 3) := by decide +kernel
theorem dX4_isJoin_6 : decode cX4_isJoin 6 = .ok (.iload_n 0, 1) := by decide +kernel
theorem dX4_isJoin_7 : decode cX4_isJoin 7 = .ok (.bipush 45, 2) := by decide +kernel
theorem dX4_isJoin_9 : decode cX4_isJoin 9 = .ok (.if_icmp .eq 21, 3) := by decide +kernel
theorem dX4_isJoin_12 : decode cX4_isJoin 12 = .ok (.iload_n 0, 1) := by decide +kernel
theorem dX4_isJoin_13 : decode cX4_isJoin 13 = .ok (.bipush 42, 2) := by decide +kernel
theorem dX4_isJoin_15 : decode cX4_isJoin 15 = .ok (.if_icmp .eq 15, 3) := by decide +kernel
theorem dX4_isJoin_18 : decode cX4_isJoin 18 = .ok (.iload_n 0, 1) := by decide +kernel
theorem dX4_isJoin_19 : decode cX4_isJoin 19 = .ok (.bipush 47, 2) := by decide +kernel
theorem dX4_isJoin_21 : decode cX4_isJoin 21 = .ok (.if_icmp .eq 9, 3) := by decide +kernel
theorem dX4_isJoin_24 : decode cX4_isJoin 24 = .ok (.iload_n 0, 1) := by decide +kernel
theorem dX4_isJoin_25 : decode cX4_isJoin 25 = .ok (.bipush 37, 2) := by decide +kernel
theorem dX4_isJoin_27 : decode cX4_isJoin 27 = .ok (.if_icmp .ne 7, 3) := by decide +kernel
theorem dX4_isJoin_30 : decode cX4_isJoin 30 = .ok (.iconst 1, 1) := by decide +kernel
theorem dX4_isJoin_31 : decode cX4_isJoin 31 = .ok (.goto 4, 3) := by decide +kernel
theorem dX4_isJoin_34 : decode cX4_isJoin 34 = .ok (.iconst 0, 1) := by decide +kernel
theorem dX4_isJoin_35 : decode cX4_isJoin 35 = .ok (.ireturn, 1) := by decide +kernel
