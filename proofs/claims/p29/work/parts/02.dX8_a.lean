theorem dX8_reads_0 : decode cX8_reads 0 = .ok (.aload_n 1, 1) := by decide +kernel
theorem dX8_reads_1 : decode cX8_reads 1 = .ok (.invokevirtual 7, 3) := by decide +kernel
theorem dX8_reads_4 : decode cX8_reads 4 = .ok (.aload_n 0, 1) := by decide +kernel
theorem dX8_reads_5 : decode cX8_reads 5 = .ok (.invokevirtual 12, 3) := by decide +kernel
theorem dX8_reads_8 : decode cX8_reads 8 = .ok (.iconst 0, 1) := by decide +kernel
theorem dX8_reads_9 : decode cX8_reads 9 = .ok (.istore_n 2, 1) := by decide +kernel
theorem dX8_reads_10 : decode cX8_reads 10 = .ok (.iload_n 2, 1) := by decide +kernel
theorem dX8_reads_11 : decode cX8_reads 11 = .ok (.bipush 40, 2) := by decide +kernel
theorem dX8_reads_13 : decode cX8_reads 13 = .ok (.if_icmp .gt 49, 3) := by decide +kernel
theorem dX8_reads_16 : decode cX8_reads 16 = .ok (.aload_n 0, 1) := by decide +kernel
theorem dX8_reads_17 : decode cX8_reads 17 = .ok (.aload_n 1, 1) := by decide +kernel
theorem dX8_reads_18 : decode cX8_reads 18 = .ok (.iload_n 2, 1) := by decide +kernel
theorem dX8_reads_19 : decode cX8_reads 19 = .ok (.invokestatic 19, 3) := by decide +kernel
theorem dX8_reads_22 : decode cX8_reads 22 = .ok (.ifCond .eq 11, 3) := by decide +kernel
theorem dX8_reads_25 : decode cX8_reads 25 = .ok (.aload_n 0, 1) := by decide +kernel
theorem dX8_reads_26 : decode cX8_reads 26 = .ok (.aload_n 1, 1) := by decide +kernel
theorem dX8_reads_27 : decode cX8_reads 27 = .ok (.invokestatic 23, 3) := by decide +kernel
theorem dX8_reads_30 : decode cX8_reads 30 = .ok (.ifCond .ne 5, 3) := by decide +kernel
theorem dX8_reads_33 : decode cX8_reads 33 = .ok (.iconst 0, 1) := by decide +kernel
theorem dX8_reads_34 : decode cX8_reads 34 = .ok (.ireturn, 1) := by decide +kernel
theorem dX8_reads_35 : decode cX8_reads 35 = .ok (.aload_n 0, 1) := by decide +kernel
theorem dX8_reads_36 : decode cX8_reads 36 = .ok (.invokevirtual 27, 3) := by decide +kernel
theorem dX8_reads_39 : decode cX8_reads 39 = .ok (.iconst (-1), 1) := by decide +kernel
theorem dX8_reads_40 : decode cX8_reads 40 = .ok (.if_icmp .ne 5, 3) := by decide +kernel
theorem dX8_reads_43 : decode cX8_reads 43 = .ok (.iconst 1, 1) := by decide +kernel
theorem dX8_reads_44 : decode cX8_reads 44 = .ok (.ireturn, 1) := by decide +kernel
theorem dX8_reads_45 : decode cX8_reads 45 = .ok (.aload_n 0, 1) := by decide +kernel
theorem dX8_reads_46 : decode cX8_reads 46 = .ok (.bipush 59, 2) := by decide +kernel
theorem dX8_reads_48 : decode cX8_reads 48 = .ok (.invokevirtual 31, 3) := by decide +kernel
theorem dX8_reads_51 : decode cX8_reads 51 = .ok (.ifCond .ne 5, 3) := by decide +kernel
theorem dX8_reads_54 : decode cX8_reads 54 = .ok (.iconst 0, 1) := by decide +kernel
theorem dX8_reads_55 : decode cX8_reads 55 = .ok (.ireturn, 1) := by decide +kernel
theorem dX8_reads_56 : decode cX8_reads 56 = .ok (.iinc 2 1, 3) := by decide +kernel
theorem dX8_reads_59 : decode cX8_reads 59 = .ok (.goto (-49), 3) := by decide +kernel
theorem dX8_reads_62 : decode cX8_reads 62 = .ok (.aload_n 0, 1) := by decide +kernel
theorem dX8_reads_63 : decode cX8_reads 63 = .ok (.iconst 4, 1) := by decide +kernel
theorem dX8_reads_64 : decode cX8_reads 64 = .ok (.invokevirtual 35, 3) := by decide +kernel
theorem dX8_reads_67 : decode cX8_reads 67 = .ok (.ireturn, 1) := by decide +kernel
theorem dX8_opens_0 : decode cX8_opens 0 = .ok (.aload_n 0, 1) := by decide +kernel
theorem dX8_opens_1 : decode cX8_opens 1 = .ok (.invokevirtual 38, 3) := by decide +kernel
theorem dX8_opens_4 : decode cX8_opens 4 = .ok (.astore_n 3, 1) := by decide +kernel
theorem dX8_opens_5 : decode cX8_opens 5 = .ok (.aload_n 3, 1) := by decide +kernel
theorem dX8_opens_6 : decode cX8_opens 6 = .ok (.getstatic 42, 3) := by decide +kernel
theorem dX8_opens_9 : decode cX8_opens 9 = .ok (.if_acmp .eq 37, 3) := by decide +kernel
theorem dX8_opens_12 : decode cX8_opens 12 = .ok (.aload_n 3, 1) := by decide +kernel
theorem dX8_opens_13 : decode cX8_opens 13 = .ok (.getstatic 48, 3) := by decide +kernel
theorem dX8_opens_16 : decode cX8_opens 16 = .ok (.if_acmp .eq 30, 3) := by decide +kernel
theorem dX8_opens_19 : decode cX8_opens 19 = .ok (.aload_n 3, 1) := by decide +kernel
theorem dX8_opens_20 : decode cX8_opens 20 = .ok (.getstatic 51, 3) := by decide +kernel
theorem dX8_opens_23 : decode cX8_opens 23 = .ok (.if_acmp .eq 23, 3) := by decide +kernel
theorem dX8_opens_26 : decode cX8_opens 26 = .ok (.aload_n 3, 1) := by decide +kernel
theorem dX8_opens_27 : decode cX8_opens 27 = .ok (.getstatic 54, 3) := by decide +kernel
theorem dX8_opens_30 : decode cX8_opens 30 = .ok (.if_acmp .eq 16, 3) := by decide +kernel
theorem dX8_opens_33 : decode cX8_opens 33 = .ok (.aload_n 3, 1) := by decide +kernel
theorem dX8_opens_34 : decode cX8_opens 34 = .ok (.getstatic 57, 3) := by decide +kernel
theorem dX8_opens_37 : decode cX8_opens 37 = .ok (.if_acmp .eq 9, 3) := by decide +kernel
theorem dX8_opens_40 : decode cX8_opens 40 = .ok (.aload_n 0, 1) := by decide +kernel
theorem dX8_opens_41 : decode cX8_opens 41 = .ok (.iconst 0, 1) := by decide +kernel
theorem dX8_opens_42 : decode cX8_opens 42 = .ok (.invokevirtual 35, 3) := by decide +kernel
theorem dX8_opens_45 : decode cX8_opens 45 = .ok (.ireturn, 1) := by decide +kernel
theorem dX8_opens_46 : decode cX8_opens 46 = .ok (.iload_n 2, 1) := by decide +kernel
theorem dX8_opens_47 : decode cX8_opens 47 = .ok (.bipush 40, 2) := by decide +kernel
theorem dX8_opens_49 : decode cX8_opens 49 = .ok (.if_icmp .ge 55, 3) := by decide +kernel
theorem dX8_opens_52 : decode cX8_opens 52 = .ok (.aload_n 3, 1) := by decide +kernel
theorem dX8_opens_53 : decode cX8_opens 53 = .ok (.getstatic 42, 3) := by decide +kernel
theorem dX8_opens_56 : decode cX8_opens 56 = .ok (.if_acmp .ne 7, 3) := by decide +kernel
theorem dX8_opens_59 : decode cX8_opens 59 = .ok (.iconst 1, 1) := by decide +kernel
theorem dX8_opens_60 : decode cX8_opens 60 = .ok (.goto 4, 3) := by decide +kernel
theorem dX8_opens_63 : decode cX8_opens 63 = .ok (.iconst 0, 1) := by decide +kernel
theorem dX8_opens_64 : decode cX8_opens 64 = .ok (.iload_n 2, 1) := by decide +kernel
theorem dX8_opens_65 : decode cX8_opens 65 = .ok (.ifCond .ne 7, 3) := by decide +kernel
theorem dX8_opens_68 : decode cX8_opens 68 = .ok (.iconst 1, 1) := by decide +kernel
theorem dX8_opens_69 : decode cX8_opens 69 = .ok (.goto 4, 3) := by decide +kernel
theorem dX8_opens_72 : decode cX8_opens 72 = .ok (.iconst 0, 1) := by decide +kernel
theorem dX8_opens_73 : decode cX8_opens 73 = .ok (.if_icmp .ne 31, 3) := by decide +kernel
theorem dX8_opens_76 : decode cX8_opens 76 = .ok (.aload_n 3, 1) := by decide +kernel
theorem dX8_opens_77 : decode cX8_opens 77 = .ok (.getstatic 51, 3) := by decide +kernel
theorem dX8_opens_80 : decode cX8_opens 80 = .ok (.if_acmp .ne 10, 3) := by decide +kernel
theorem dX8_opens_83 : decode cX8_opens 83 = .ok (.aload_n 1, 1) := by decide +kernel
theorem dX8_opens_84 : decode cX8_opens 84 = .ok (.invokevirtual 60, 3) := by decide +kernel
theorem dX8_opens_87 : decode cX8_opens 87 = .ok (.ifCond .eq 17, 3) := by decide +kernel
theorem dX8_opens_90 : decode cX8_opens 90 = .ok (.aload_n 3, 1) := by decide +kernel
theorem dX8_opens_91 : decode cX8_opens 91 = .ok (.getstatic 54, 3) := by decide +kernel
theorem dX8_opens_94 : decode cX8_opens 94 = .ok (.if_acmp .ne 16, 3) := by decide +kernel
theorem dX8_opens_97 : decode cX8_opens 97 = .ok (.aload_n 1, 1) := by decide +kernel
theorem dX8_opens_98 : decode cX8_opens 98 = .ok (.invokevirtual 64, 3) := by decide +kernel
theorem dX8_opens_101 : decode cX8_opens 101 = .ok (.ifCond .ne 9, 3) := by decide +kernel
theorem dX8_opens_104 : decode cX8_opens 104 = .ok (.aload_n 0, 1) := by decide +kernel
theorem dX8_opens_105 : decode cX8_opens 105 = .ok (.iconst 4, 1) := by decide +kernel
theorem dX8_opens_106 : decode cX8_opens 106 = .ok (.invokevirtual 35, 3) := by decide +kernel
theorem dX8_opens_109 : decode cX8_opens 109 = .ok (.ireturn, 1) := by decide +kernel
theorem dX8_opens_110 : decode cX8_opens 110 = .ok (.iconst 1, 1) := by decide +kernel
theorem dX8_opens_111 : decode cX8_opens 111 = .ok (.ireturn, 1) := by decide +kernel
theorem dX8_readClause_0 : decode cX8_readClause 0 = .ok (.aload_n 0, 1) := by decide +kernel
theorem dX8_readClause_1 : decode cX8_readClause 1 = .ok (.invokevirtual 38, 3) := by decide +kernel
theorem dX8_readClause_4 : decode cX8_readClause 4 = .ok (.astore_n 2, 1) := by decide +kernel
theorem dX8_readClause_5 : decode cX8_readClause 5 = .ok (.aload_n 0, 1) := by decide +kernel
theorem dX8_readClause_6 : decode cX8_readClause 6 = .ok (.invokevirtual 67, 3) := by decide +kernel
theorem dX8_readClause_9 : decode cX8_readClause 9 = .ok (.aload_n 2, 1) := by decide +kernel
theorem dX8_readClause_10 : decode cX8_readClause 10 = .ok (.getstatic 42, 3) := by decide +kernel
theorem dX8_readClause_13 : decode cX8_readClause 13 = .ok (.if_acmp .ne 11, 3) := by decide +kernel
theorem dX8_readClause_16 : decode cX8_readClause 16 = .ok (.aload_n 0, 1) := by decide +kernel
theorem dX8_readClause_17 : decode cX8_readClause 17 = .ok (.aload_n 1, 1) := by decide +kernel
theorem dX8_readClause_18 : decode cX8_readClause 18 = .ok (.invokestatic 70, 3) := by decide +kernel
theorem dX8_readClause_21 : decode cX8_readClause 21 = .ok (.goto 53, 3) := by decide +kernel
theorem dX8_readClause_24 : decode cX8_readClause 24 = .ok (.aload_n 2, 1) := by decide +kernel
theorem dX8_readClause_25 : decode cX8_readClause 25 = .ok (.getstatic 48, 3) := by decide +kernel
theorem dX8_readClause_28 : decode cX8_readClause 28 = .ok (.if_acmp .ne 11, 3) := by decide +kernel
theorem dX8_readClause_31 : decode cX8_readClause 31 = .ok (.aload_n 0, 1) := by decide +kernel
theorem dX8_readClause_32 : decode cX8_readClause 32 = .ok (.aload_n 1, 1) := by decide +kernel
theorem dX8_readClause_33 : decode cX8_readClause 33 = .ok (.invokestatic 74, 3) := by decide +kernel
theorem dX8_readClause_36 : decode cX8_readClause 36 = .ok (.goto 38, 3) := by decide +kernel
theorem dX8_readClause_39 : decode cX8_readClause 39 = .ok (.aload_n 2, 1) := by decide +kernel
theorem dX8_readClause_40 : decode cX8_readClause 40 = .ok (.getstatic 51, 3) := by decide +kernel
theorem dX8_readClause_43 : decode cX8_readClause 43 = .ok (.if_acmp .ne 11, 3) := by decide +kernel
theorem dX8_readClause_46 : decode cX8_readClause 46 = .ok (.aload_n 0, 1) := by decide +kernel
theorem dX8_readClause_47 : decode cX8_readClause 47 = .ok (.aload_n 1, 1) := by decide +kernel
theorem dX8_readClause_48 : decode cX8_readClause 48 = .ok (.invokestatic 77, 3) := by decide +kernel
theorem dX8_readClause_51 : decode cX8_readClause 51 = .ok (.goto 23, 3) := by decide +kernel
theorem dX8_readClause_54 : decode cX8_readClause 54 = .ok (.aload_n 2, 1) := by decide +kernel
theorem dX8_readClause_55 : decode cX8_readClause 55 = .ok (.getstatic 54, 3) := by decide +kernel
theorem dX8_readClause_58 : decode cX8_readClause 58 = .ok (.if_acmp .ne 11, 3) := by decide +kernel
theorem dX8_readClause_61 : decode cX8_readClause 61 = .ok (.aload_n 0, 1) := by decide +kernel
theorem dX8_readClause_62 : decode cX8_readClause 62 = .ok (.aload_n 1, 1) := by decide +kernel
theorem dX8_readClause_63 : decode cX8_readClause 63 = .ok (.invokestatic 80, 3) := by decide +kernel
theorem dX8_readClause_66 : decode cX8_readClause 66 = .ok (.goto 8, 3) := by decide +kernel
theorem dX8_readClause_69 : decode cX8_readClause 69 = .ok (.aload_n 0, 1) := by decide +kernel
theorem dX8_readClause_70 : decode cX8_readClause 70 = .ok (.aload_n 1, 1) := by decide +kernel
theorem dX8_readClause_71 : decode cX8_readClause 71 = .ok (.invokestatic 83, 3) := by decide +kernel
theorem dX8_readClause_74 : decode cX8_readClause 74 = .ok (.aload_n 0, 1) := by decide +kernel
theorem dX8_readClause_75 : decode cX8_readClause 75 = .ok (.getfield 86, 3) := by decide +kernel
theorem dX8_readClause_78 : decode cX8_readClause 78 = .ok (.ifCond .ne 7, 3) := by decide +kernel
theorem dX8_readClause_81 : decode cX8_readClause 81 = .ok (.iconst 1, 1) := by decide +kernel
theorem dX8_readClause_82 : decode cX8_readClause 82 = .ok (.goto 4, 3) := by decide +kernel
theorem dX8_readClause_85 : decode cX8_readClause 85 = .ok (.iconst 0, 1) := by decide +kernel
theorem dX8_readClause_86 : decode cX8_readClause 86 = .ok (.ireturn, 1) := by decide +kernel
theorem dX8_readStart_0 : decode cX8_readStart 0 = .ok (.aload_n 1, 1) := by decide +kernel
theorem dX8_readStart_1 : decode cX8_readStart 1 = .ok (.aload_n 0, 1) := by decide +kernel
theorem dX8_readStart_2 : decode cX8_readStart 2 = .ok (.iconst 0, 1) := by decide +kernel
theorem dX8_readStart_3 : decode cX8_readStart 3 = .ok (.sipush 9999, 3) := by decide +kernel
theorem dX8_readStart_6 : decode cX8_readStart 6 = .ok (.invokevirtual 90, 3) := by decide +kernel
theorem dX8_readStart_9 : decode cX8_readStart 9 = .ok (.putfield 94, 3) := by decide +kernel
theorem dX8_readStart_12 : decode cX8_readStart 12 = .ok (.aload_n 1, 1) := by decide +kernel
theorem dX8_readStart_13 : decode cX8_readStart 13 = .ok (.aload_n 0, 1) := by decide +kernel
theorem dX8_readStart_14 : decode cX8_readStart 14 = .ok (.iconst 0, 1) := by decide +kernel
theorem dX8_readStart_15 : decode cX8_readStart 15 = .ok (.bipush 20, 2) := by decide +kernel
theorem dX8_readStart_17 : decode cX8_readStart 17 = .ok (.invokevirtual 90, 3) := by decide +kernel
theorem dX8_readStart_20 : decode cX8_readStart 20 = .ok (.putfield 97, 3) := by decide +kernel
theorem dX8_readStart_23 : decode cX8_readStart 23 = .ok (.aload_n 1, 1) := by decide +kernel
theorem dX8_readStart_24 : decode cX8_readStart 24 = .ok (.aload_n 0, 1) := by decide +kernel
theorem dX8_readStart_25 : decode cX8_readStart 25 = .ok (.iconst 0, 1) := by decide +kernel
theorem dX8_readStart_26 : decode cX8_readStart 26 = .ok (.sipush 999, 3) := by decide +kernel
theorem dX8_readStart_29 : decode cX8_readStart 29 = .ok (.invokevirtual 90, 3) := by decide +kernel
theorem dX8_readStart_32 : decode cX8_readStart 32 = .ok (.putfield 100, 3) := by decide +kernel
theorem dX8_readStart_35 : decode cX8_readStart 35 = .ok (.return_, 1) := by decide +kernel
theorem dX8_readFrost_0 : decode cX8_readFrost 0 = .ok (.aload_n 0, 1) := by decide +kernel
theorem dX8_readFrost_1 : decode cX8_readFrost 1 = .ok (.iconst 0, 1) := by decide +kernel
theorem dX8_readFrost_2 : decode cX8_readFrost 2 = .ok (.bipush 11, 2) := by decide +kernel
theorem dX8_readFrost_4 : decode cX8_readFrost 4 = .ok (.invokevirtual 90, 3) := by decide +kernel
theorem dX8_readFrost_7 : decode cX8_readFrost 7 = .ok (.istore_n 2, 1) := by decide +kernel
theorem dX8_readFrost_8 : decode cX8_readFrost 8 = .ok (.aload_n 0, 1) := by decide +kernel
theorem dX8_readFrost_9 : decode cX8_readFrost 9 = .ok (.iconst 1, 1) := by decide +kernel
theorem dX8_readFrost_10 : decode cX8_readFrost 10 = .ok (.bipush 99, 2) := by decide +kernel
theorem dX8_readFrost_12 : decode cX8_readFrost 12 = .ok (.invokevirtual 90, 3) := by decide +kernel
theorem dX8_readFrost_15 : decode cX8_readFrost 15 = .ok (.istore_n 3, 1) := by decide +kernel
theorem dX8_readFrost_16 : decode cX8_readFrost 16 = .ok (.iload_n 2, 1) := by decide +kernel
theorem dX8_readFrost_17 : decode cX8_readFrost 17 = .ok (.iconst 0, 1) := by decide +kernel
theorem dX8_readFrost_18 : decode cX8_readFrost 18 = .ok (.bipush 11, 2) := by decide +kernel
theorem dX8_readFrost_20 : decode cX8_readFrost 20 = .ok (.invokestatic 103, 3) := by decide +kernel
theorem dX8_readFrost_23 : decode cX8_readFrost 23 = .ok (.ifCond .eq 10, 3) := by decide +kernel
theorem dX8_readFrost_26 : decode cX8_readFrost 26 = .ok (.aload_n 1, 1) := by decide +kernel
theorem dX8_readFrost_27 : decode cX8_readFrost 27 = .ok (.getfield 109, 3) := by decide +kernel
theorem dX8_readFrost_30 : decode cX8_readFrost 30 = .ok (.iload_n 2, 1) := by decide +kernel
theorem dX8_readFrost_31 : decode cX8_readFrost 31 = .ok (.iload_n 3, 1) := by decide +kernel
theorem dX8_readFrost_32 : decode cX8_readFrost 32 = .ok (.iastore, 1) := by decide +kernel
theorem dX8_readFrost_33 : decode cX8_readFrost 33 = .ok (.return_, 1) := by decide +kernel
theorem dX8_readShip_0 : decode cX8_readShip 0 = .ok (.aload_n 1, 1) := by decide +kernel
theorem dX8_readShip_1 : decode cX8_readShip 1 = .ok (.invokevirtual 60, 3) := by decide +kernel
theorem dX8_readShip_4 : decode cX8_readShip 4 = .ok (.ifCond .eq 45, 3) := by decide +kernel
theorem dX8_readShip_7 : decode cX8_readShip 7 = .ok (.aload_n 1, 1) := by decide +kernel
theorem dX8_readShip_8 : decode cX8_readShip 8 = .ok (.getfield 113, 3) := by decide +kernel
theorem dX8_readShip_11 : decode cX8_readShip 11 = .ok (.aload_n 1, 1) := by decide +kernel
theorem dX8_readShip_12 : decode cX8_readShip 12 = .ok (.getfield 117, 3) := by decide +kernel
theorem dX8_readShip_15 : decode cX8_readShip 15 = .ok (.aaload, 1) := by decide +kernel
theorem dX8_readShip_16 : decode cX8_readShip 16 = .ok (.astore_n 2, 1) := by decide +kernel
theorem dX8_readShip_17 : decode cX8_readShip 17 = .ok (.aload_n 2, 1) := by decide +kernel
theorem dX8_readShip_18 : decode cX8_readShip 18 = .ok (.aload_n 0, 1) := by decide +kernel
theorem dX8_readShip_19 : decode cX8_readShip 19 = .ok (.iconst 1, 1) := by decide +kernel
theorem dX8_readShip_20 : decode cX8_readShip 20 = .ok (.bipush 99, 2) := by decide +kernel
theorem dX8_readShip_22 : decode cX8_readShip 22 = .ok (.invokevirtual 90, 3) := by decide +kernel
theorem dX8_readShip_25 : decode cX8_readShip 25 = .ok (.putfield 120, 3) := by decide +kernel
theorem dX8_readShip_28 : decode cX8_readShip 28 = .ok (.aload_n 2, 1) := by decide +kernel
theorem dX8_readShip_29 : decode cX8_readShip 29 = .ok (.aload_n 0, 1) := by decide +kernel
theorem dX8_readShip_30 : decode cX8_readShip 30 = .ok (.iconst 0, 1) := by decide +kernel
theorem dX8_readShip_31 : decode cX8_readShip 31 = .ok (.bipush 99, 2) := by decide +kernel
theorem dX8_readShip_33 : decode cX8_readShip 33 = .ok (.invokevirtual 90, 3) := by decide +kernel
theorem dX8_readShip_36 : decode cX8_readShip 36 = .ok (.putfield 125, 3) := by decide +kernel
theorem dX8_readShip_39 : decode cX8_readShip 39 = .ok (.aload_n 1, 1) := by decide +kernel
theorem dX8_readShip_40 : decode cX8_readShip 40 = .ok (.dup, 1) := by decide +kernel
theorem dX8_readShip_41 : decode cX8_readShip 41 = .ok (.getfield 117, 3) := by decide +kernel
theorem dX8_readShip_44 : decode cX8_readShip 44 = .ok (.iconst 1, 1) := by decide +kernel
theorem dX8_readShip_45 : decode cX8_readShip 45 = .ok (.iadd, 1) := by decide +kernel
theorem dX8_readShip_46 : decode cX8_readShip 46 = .ok (.putfield 117, 3) := by decide +kernel
theorem dX8_readShip_49 : decode cX8_readShip 49 = .ok (.return_, 1) := by decide +kernel
theorem dX8_readTown_0 : decode cX8_readTown 0 = .ok (.aload_n 1, 1) := by decide +kernel
theorem dX8_readTown_1 : decode cX8_readTown 1 = .ok (.invokevirtual 64, 3) := by decide +kernel
theorem dX8_readTown_4 : decode cX8_readTown 4 = .ok (.ifCond .eq 67, 3) := by decide +kernel
theorem dX8_readTown_7 : decode cX8_readTown 7 = .ok (.aload_n 1, 1) := by decide +kernel
theorem dX8_readTown_8 : decode cX8_readTown 8 = .ok (.getfield 128, 3) := by decide +kernel
theorem dX8_readTown_11 : decode cX8_readTown 11 = .ok (.aload_n 1, 1) := by decide +kernel
theorem dX8_readTown_12 : decode cX8_readTown 12 = .ok (.getfield 132, 3) := by decide +kernel
theorem dX8_readTown_15 : decode cX8_readTown 15 = .ok (.aaload, 1) := by decide +kernel
theorem dX8_readTown_16 : decode cX8_readTown 16 = .ok (.astore_n 2, 1) := by decide +kernel
theorem dX8_readTown_17 : decode cX8_readTown 17 = .ok (.aload_n 2, 1) := by decide +kernel
theorem dX8_readTown_18 : decode cX8_readTown 18 = .ok (.aload_n 0, 1) := by decide +kernel
theorem dX8_readTown_19 : decode cX8_readTown 19 = .ok (.iconst 1, 1) := by decide +kernel
theorem dX8_readTown_20 : decode cX8_readTown 20 = .ok (.bipush 6, 2) := by decide +kernel
theorem dX8_readTown_22 : decode cX8_readTown 22 = .ok (.invokevirtual 90, 3) := by decide +kernel
theorem dX8_readTown_25 : decode cX8_readTown 25 = .ok (.putfield 135, 3) := by decide +kernel
theorem dX8_readTown_28 : decode cX8_readTown 28 = .ok (.aload_n 2, 1) := by decide +kernel
theorem dX8_readTown_29 : decode cX8_readTown 29 = .ok (.aload_n 0, 1) := by decide +kernel
theorem dX8_readTown_30 : decode cX8_readTown 30 = .ok (.iconst 0, 1) := by decide +kernel
theorem dX8_readTown_31 : decode cX8_readTown 31 = .ok (.bipush 60, 2) := by decide +kernel
theorem dX8_readTown_33 : decode cX8_readTown 33 = .ok (.invokevirtual 90, 3) := by decide +kernel
theorem dX8_readTown_36 : decode cX8_readTown 36 = .ok (.putfield 140, 3) := by decide +kernel
theorem dX8_readTown_39 : decode cX8_readTown 39 = .ok (.aload_n 2, 1) := by decide +kernel
theorem dX8_readTown_40 : decode cX8_readTown 40 = .ok (.aload_n 0, 1) := by decide +kernel
theorem dX8_readTown_41 : decode cX8_readTown 41 = .ok (.iconst 0, 1) := by decide +kernel
theorem dX8_readTown_42 : decode cX8_readTown 42 = .ok (.bipush 99, 2) := by decide +kernel
theorem dX8_readTown_44 : decode cX8_readTown 44 = .ok (.invokevirtual 90, 3) := by decide +kernel
theorem dX8_readTown_47 : decode cX8_readTown 47 = .ok (.putfield 143, 3) := by decide +kernel
theorem dX8_readTown_50 : decode cX8_readTown 50 = .ok (.aload_n 2, 1) := by decide +kernel
theorem dX8_readTown_51 : decode cX8_readTown 51 = .ok (.aload_n 0, 1) := by decide +kernel
theorem dX8_readTown_52 : decode cX8_readTown 52 = .ok (.iconst 1, 1) := by decide +kernel
theorem dX8_readTown_53 : decode cX8_readTown 53 = .ok (.bipush 99, 2) := by decide +kernel
theorem dX8_readTown_55 : decode cX8_readTown 55 = .ok (.invokevirtual 90, 3) := by decide +kernel
theorem dX8_readTown_58 : decode cX8_readTown 58 = .ok (.putfield 146, 3) := by decide +kernel
theorem dX8_readTown_61 : decode cX8_readTown 61 = .ok (.aload_n 1, 1) := by decide +kernel
theorem dX8_readTown_62 : decode cX8_readTown 62 = .ok (.dup, 1) := by decide +kernel
theorem dX8_readTown_63 : decode cX8_readTown 63 = .ok (.getfield 132, 3) := by decide +kernel
theorem dX8_readTown_66 : decode cX8_readTown 66 = .ok (.iconst 1, 1) := by decide +kernel
theorem dX8_readTown_67 : decode cX8_readTown 67 = .ok (.iadd, 1) := by decide +kernel
theorem dX8_readTown_68 : decode cX8_readTown 68 = .ok (.putfield 132, 3) := by decide +kernel
theorem dX8_readTown_71 : decode cX8_readTown 71 = .ok (.return_, 1) := by decide +kernel
theorem dX8_readHouse_0 : decode cX8_readHouse 0 = .ok (.aload_n 0, 1) := by decide +kernel
theorem dX8_readHouse_1 : decode cX8_readHouse 1 = .ok (.iconst 0, 1) := by decide +kernel
theorem dX8_readHouse_2 : decode cX8_readHouse 2 = .ok (.aload_n 1, 1) := by decide +kernel
theorem dX8_readHouse_3 : decode cX8_readHouse 3 = .ok (.getfield 132, 3) := by decide +kernel
theorem dX8_readHouse_6 : decode cX8_readHouse 6 = .ok (.iconst 1, 1) := by decide +kernel
theorem dX8_readHouse_7 : decode cX8_readHouse 7 = .ok (.isub, 1) := by decide +kernel
theorem dX8_readHouse_8 : decode cX8_readHouse 8 = .ok (.invokevirtual 90, 3) := by decide +kernel
theorem dX8_readHouse_11 : decode cX8_readHouse 11 = .ok (.istore_n 2, 1) := by decide +kernel
theorem dX8_readHouse_12 : decode cX8_readHouse 12 = .ok (.aload_n 1, 1) := by decide +kernel
theorem dX8_readHouse_13 : decode cX8_readHouse 13 = .ok (.iload_n 2, 1) := by decide +kernel
theorem dX8_readHouse_14 : decode cX8_readHouse 14 = .ok (.invokevirtual 149, 3) := by decide +kernel
theorem dX8_readHouse_17 : decode cX8_readHouse 17 = .ok (.ifCond .eq 13, 3) := by decide +kernel
theorem dX8_readHouse_20 : decode cX8_readHouse 20 = .ok (.aload_n 1, 1) := by decide +kernel
theorem dX8_readHouse_21 : decode cX8_readHouse 21 = .ok (.getfield 128, 3) := by decide +kernel
theorem dX8_readHouse_24 : decode cX8_readHouse 24 = .ok (.iload_n 2, 1) := by decide +kernel
theorem dX8_readHouse_25 : decode cX8_readHouse 25 = .ok (.aaload, 1) := by decide +kernel
theorem dX8_readHouse_26 : decode cX8_readHouse 26 = .ok (.iconst 1, 1) := by decide +kernel
theorem dX8_readHouse_27 : decode cX8_readHouse 27 = .ok (.putfield 152, 3) := by decide +kernel
theorem dX8_readHouse_30 : decode cX8_readHouse 30 = .ok (.return_, 1) := by decide +kernel
