theorem dX1_init_0 : decode cX1_init 0 = .ok (.aload_n 0, 1) := by decide +kernel
theorem dX1_init_1 : decode cX1_init 1 = .ok (.invokespecial 3, 3) := by decide +kernel
theorem dX1_init_4 : decode cX1_init 4 = .ok (.aload_n 0, 1) := by decide +kernel
theorem dX1_init_5 : decode cX1_init 5 = .ok (.new 9, 3) := by decide +kernel
theorem dX1_init_8 : decode cX1_init 8 = .ok (.dup, 1) := by decide +kernel
theorem dX1_init_9 : decode cX1_init 9 = .ok (.invokespecial 11, 3) := by decide +kernel
theorem dX1_init_12 : decode cX1_init 12 = .ok (.putfield 12, 3) := by decide +kernel
theorem dX1_init_15 : decode cX1_init 15 = .ok (.aload_n 0, 1) := by decide +kernel
theorem dX1_init_16 : decode cX1_init 16 = .ok (.bipush 7, 2) := by decide +kernel
theorem dX1_init_18 : decode cX1_init 18 = .ok (.bipush 61, 2) := by decide +kernel
theorem dX1_init_20 : decode cX1_init 20 = .ok (.multianewarray 18 2, 4) := by decide +kernel
theorem dX1_init_24 : decode cX1_init 24 = .ok (.putfield 20, 3) := by decide +kernel
theorem dX1_init_27 : decode cX1_init 27 = .ok (.aload_n 0, 1) := by decide +kernel
theorem dX1_init_28 : decode cX1_init 28 = .ok (.bipush 7, 2) := by decide +kernel
theorem dX1_init_30 : decode cX1_init 30 = .ok (.newarray .boolean, 2) := by decide +kernel
theorem dX1_init_32 : decode cX1_init 32 = .ok (.putfield 23, 3) := by decide +kernel
theorem dX1_init_35 : decode cX1_init 35 = .ok (.return_, 1) := by decide +kernel
theorem dX1_fill_0 : decode cX1_fill 0 = .ok (.iconst 0, 1) := by decide +kernel
theorem dX1_fill_1 : decode cX1_fill 1 = .ok (.istore 4, 2) := by decide +kernel
theorem dX1_fill_3 : decode cX1_fill 3 = .ok (.iload 4, 2) := by decide +kernel
theorem dX1_fill_5 : decode cX1_fill 5 = .ok (.aload_n 0, 1) := by decide +kernel
theorem dX1_fill_6 : decode cX1_fill 6 = .ok (.getfield 23, 3) := by decide +kernel
theorem dX1_fill_9 : decode cX1_fill 9 = .ok (.arraylength, 1) := by decide +kernel
theorem dX1_fill_10 : decode cX1_fill 10 = .ok (.if_icmp .ge 17, 3) := by decide +kernel
theorem dX1_fill_13 : decode cX1_fill 13 = .ok (.aload_n 0, 1) := by decide +kernel
theorem dX1_fill_14 : decode cX1_fill 14 = .ok (.getfield 23, 3) := by decide +kernel
theorem dX1_fill_17 : decode cX1_fill 17 = .ok (.iload 4, 2) := by decide +kernel
theorem dX1_fill_19 : decode cX1_fill 19 = .ok (.iconst 0, 1) := by decide +kernel
theorem dX1_fill_20 : decode cX1_fill 20 = .ok (.bastore, 1) := by decide +kernel
theorem dX1_fill_21 : decode cX1_fill 21 = .ok (.iinc 4 1, 3) := by decide +kernel
theorem dX1_fill_24 : decode cX1_fill 24 = .ok (.goto (-21), 3) := by decide +kernel
theorem dX1_fill_27 : decode cX1_fill 27 = .ok (.iconst 0, 1) := by decide +kernel
theorem dX1_fill_28 : decode cX1_fill 28 = .ok (.istore 4, 2) := by decide +kernel
theorem dX1_fill_30 : decode cX1_fill 30 = .ok (.iload 4, 2) := by decide +kernel
theorem dX1_fill_32 : decode cX1_fill 32 = .ok (.iload_n 3, 1) := by decide +kernel
theorem dX1_fill_33 : decode cX1_fill 33 = .ok (.if_icmp .gt 74, 3) := by decide +kernel
theorem dX1_fill_36 : decode cX1_fill 36 = .ok (.iload 4, 2) := by decide +kernel
theorem dX1_fill_38 : decode cX1_fill 38 = .ok (.aload_n 0, 1) := by decide +kernel
theorem dX1_fill_39 : decode cX1_fill 39 = .ok (.getfield 23, 3) := by decide +kernel
theorem dX1_fill_42 : decode cX1_fill 42 = .ok (.arraylength, 1) := by decide +kernel
theorem dX1_fill_43 : decode cX1_fill 43 = .ok (.if_icmp .ge 64, 3) := by decide +kernel
theorem dX1_fill_46 : decode cX1_fill 46 = .ok (.iload 4, 2) := by decide +kernel
theorem dX1_fill_48 : decode cX1_fill 48 = .ok (.aload_n 2, 1) := by decide +kernel
theorem dX1_fill_49 : decode cX1_fill 49 = .ok (.arraylength, 1) := by decide +kernel
theorem dX1_fill_50 : decode cX1_fill 50 = .ok (.if_icmp .gt 57, 3) := by decide +kernel
theorem dX1_fill_53 : decode cX1_fill 53 = .ok (.aload_n 0, 1) := by decide +kernel
theorem dX1_fill_54 : decode cX1_fill 54 = .ok (.aload_n 0, 1) := by decide +kernel
theorem dX1_fill_55 : decode cX1_fill 55 = .ok (.getfield 20, 3) := by decide +kernel
theorem dX1_fill_58 : decode cX1_fill 58 = .ok (.iload 4, 2) := by decide +kernel
theorem dX1_fill_60 : decode cX1_fill 60 = .ok (.aaload, 1) := by decide +kernel
theorem dX1_fill_61 : decode cX1_fill 61 = .ok (.aload_n 1, 1) := by decide +kernel
theorem dX1_fill_62 : decode cX1_fill 62 = .ok (.getfield 27, 3) := by decide +kernel
theorem dX1_fill_65 : decode cX1_fill 65 = .ok (.iload 4, 2) := by decide +kernel
theorem dX1_fill_67 : decode cX1_fill 67 = .ok (.ifCond .ne 7, 3) := by decide +kernel
theorem dX1_fill_70 : decode cX1_fill 70 = .ok (.aconst_null, 1) := by decide +kernel
theorem dX1_fill_71 : decode cX1_fill 71 = .ok (.goto 9, 3) := by decide +kernel
theorem dX1_fill_74 : decode cX1_fill 74 = .ok (.aload_n 2, 1) := by decide +kernel
theorem dX1_fill_75 : decode cX1_fill 75 = .ok (.iload 4, 2) := by decide +kernel
theorem dX1_fill_77 : decode cX1_fill 77 = .ok (.iconst 1, 1) := by decide +kernel
theorem dX1_fill_78 : decode cX1_fill 78 = .ok (.isub, 1) := by decide +kernel
theorem dX1_fill_79 : decode cX1_fill 79 = .ok (.aaload, 1) := by decide +kernel
theorem dX1_fill_80 : decode cX1_fill 80 = .ok (.invokevirtual 32, 3) := by decide +kernel
theorem dX1_fill_83 : decode cX1_fill 83 = .ok (.aload_n 0, 1) := by decide +kernel
theorem dX1_fill_84 : decode cX1_fill 84 = .ok (.getfield 23, 3) := by decide +kernel
theorem dX1_fill_87 : decode cX1_fill 87 = .ok (.iload 4, 2) := by decide +kernel
theorem dX1_fill_89 : decode cX1_fill 89 = .ok (.aload_n 0, 1) := by decide +kernel
theorem dX1_fill_90 : decode cX1_fill 90 = .ok (.getfield 20, 3) := by decide +kernel
theorem dX1_fill_93 : decode cX1_fill 93 = .ok (.iload 4, 2) := by decide +kernel
theorem dX1_fill_95 : decode cX1_fill 95 = .ok (.aaload, 1) := by decide +kernel
theorem dX1_fill_96 : decode cX1_fill 96 = .ok (.aload_n 1, 1) := by decide +kernel
theorem dX1_fill_97 : decode cX1_fill 97 = .ok (.invokestatic 36, 3) := by decide +kernel
theorem dX1_fill_100 : decode cX1_fill 100 = .ok (.bastore, 1) := by decide +kernel
theorem dX1_fill_101 : decode cX1_fill 101 = .ok (.iinc 4 1, 3) := by decide +kernel
theorem dX1_fill_104 : decode cX1_fill 104 = .ok (.goto (-74), 3) := by decide +kernel
theorem dX1_fill_107 : decode cX1_fill 107 = .ok (.return_, 1) := by decide +kernel
theorem dX1_fillRow_0 : decode cX1_fillRow 0 = .ok (.aload_n 0, 1) := by decide +kernel
theorem dX1_fillRow_1 : decode cX1_fillRow 1 = .ok (.getfield 12, 3) := by decide +kernel
theorem dX1_fillRow_4 : decode cX1_fillRow 4 = .ok (.aload_n 2, 1) := by decide +kernel
theorem dX1_fillRow_5 : decode cX1_fillRow 5 = .ok (.invokevirtual 40, 3) := by decide +kernel
theorem dX1_fillRow_8 : decode cX1_fillRow 8 = .ok (.iconst 0, 1) := by decide +kernel
theorem dX1_fillRow_9 : decode cX1_fillRow 9 = .ok (.istore 4, 2) := by decide +kernel
theorem dX1_fillRow_11 : decode cX1_fillRow 11 = .ok (.iload 4, 2) := by decide +kernel
theorem dX1_fillRow_13 : decode cX1_fillRow 13 = .ok (.aload_n 1, 1) := by decide +kernel
theorem dX1_fillRow_14 : decode cX1_fillRow 14 = .ok (.arraylength, 1) := by decide +kernel
theorem dX1_fillRow_15 : decode cX1_fillRow 15 = .ok (.if_icmp .ge 31, 3) := by decide +kernel
theorem dX1_fillRow_18 : decode cX1_fillRow 18 = .ok (.aload_n 1, 1) := by decide +kernel
theorem dX1_fillRow_19 : decode cX1_fillRow 19 = .ok (.iload 4, 2) := by decide +kernel
theorem dX1_fillRow_21 : decode cX1_fillRow 21 = .ok (.aload_n 0, 1) := by decide +kernel
theorem dX1_fillRow_22 : decode cX1_fillRow 22 = .ok (.getfield 12, 3) := by decide +kernel
theorem dX1_fillRow_25 : decode cX1_fillRow 25 = .ok (.getfield 44, 3) := by decide +kernel
theorem dX1_fillRow_28 : decode cX1_fillRow 28 = .ok (.iastore, 1) := by decide +kernel
theorem dX1_fillRow_29 : decode cX1_fillRow 29 = .ok (.aload_n 0, 1) := by decide +kernel
theorem dX1_fillRow_30 : decode cX1_fillRow 30 = .ok (.getfield 12, 3) := by decide +kernel
theorem dX1_fillRow_33 : decode cX1_fillRow 33 = .ok (.aload_n 3, 1) := by decide +kernel
theorem dX1_fillRow_34 : decode cX1_fillRow 34 = .ok (.bipush 100, 2) := by decide +kernel
theorem dX1_fillRow_36 : decode cX1_fillRow 36 = .ok (.invokevirtual 48, 3) := by decide +kernel
theorem dX1_fillRow_39 : decode cX1_fillRow 39 = .ok (.pop, 1) := by decide +kernel
theorem dX1_fillRow_40 : decode cX1_fillRow 40 = .ok (.iinc 4 1, 3) := by decide +kernel
theorem dX1_fillRow_43 : decode cX1_fillRow 43 = .ok (.goto (-32), 3) := by decide +kernel
theorem dX1_fillRow_46 : decode cX1_fillRow 46 = .ok (.return_, 1) := by decide +kernel
theorem dX1_agrees_0 : decode cX1_agrees 0 = .ok (.iconst 0, 1) := by decide +kernel
theorem dX1_agrees_1 : decode cX1_agrees 1 = .ok (.istore_n 2, 1) := by decide +kernel
theorem dX1_agrees_2 : decode cX1_agrees 2 = .ok (.iload_n 2, 1) := by decide +kernel
theorem dX1_agrees_3 : decode cX1_agrees 3 = .ok (.aload_n 1, 1) := by decide +kernel
theorem dX1_agrees_4 : decode cX1_agrees 4 = .ok (.getfield 52, 3) := by decide +kernel
theorem dX1_agrees_7 : decode cX1_agrees 7 = .ok (.if_icmp .ge 48, 3) := by decide +kernel
theorem dX1_agrees_10 : decode cX1_agrees 10 = .ok (.iload_n 2, 1) := by decide +kernel
theorem dX1_agrees_11 : decode cX1_agrees 11 = .ok (.bipush 10, 2) := by decide +kernel
theorem dX1_agrees_13 : decode cX1_agrees 13 = .ok (.if_icmp .ge 42, 3) := by decide +kernel
theorem dX1_agrees_16 : decode cX1_agrees 16 = .ok (.aload_n 1, 1) := by decide +kernel
theorem dX1_agrees_17 : decode cX1_agrees 17 = .ok (.getfield 55, 3) := by decide +kernel
theorem dX1_agrees_20 : decode cX1_agrees 20 = .ok (.iload_n 2, 1) := by decide +kernel
theorem dX1_agrees_21 : decode cX1_agrees 21 = .ok (.iaload, 1) := by decide +kernel
theorem dX1_agrees_22 : decode cX1_agrees 22 = .ok (.istore_n 3, 1) := by decide +kernel
theorem dX1_agrees_23 : decode cX1_agrees 23 = .ok (.iload_n 3, 1) := by decide +kernel
theorem dX1_agrees_24 : decode cX1_agrees 24 = .ok (.iconst 0, 1) := by decide +kernel
theorem dX1_agrees_25 : decode cX1_agrees 25 = .ok (.aload_n 0, 1) := by decide +kernel
theorem dX1_agrees_26 : decode cX1_agrees 26 = .ok (.arraylength, 1) := by decide +kernel
theorem dX1_agrees_27 : decode cX1_agrees 27 = .ok (.iconst 1, 1) := by decide +kernel
theorem dX1_agrees_28 : decode cX1_agrees 28 = .ok (.isub, 1) := by decide +kernel
theorem dX1_agrees_29 : decode cX1_agrees 29 = .ok (.invokestatic 59, 3) := by decide +kernel
theorem dX1_agrees_32 : decode cX1_agrees 32 = .ok (.ifCond .eq 15, 3) := by decide +kernel
theorem dX1_agrees_35 : decode cX1_agrees 35 = .ok (.aload_n 0, 1) := by decide +kernel
theorem dX1_agrees_36 : decode cX1_agrees 36 = .ok (.iload_n 3, 1) := by decide +kernel
theorem dX1_agrees_37 : decode cX1_agrees 37 = .ok (.iaload, 1) := by decide +kernel
theorem dX1_agrees_38 : decode cX1_agrees 38 = .ok (.aload_n 1, 1) := by decide +kernel
theorem dX1_agrees_39 : decode cX1_agrees 39 = .ok (.getfield 63, 3) := by decide +kernel
theorem dX1_agrees_42 : decode cX1_agrees 42 = .ok (.iload_n 2, 1) := by decide +kernel
theorem dX1_agrees_43 : decode cX1_agrees 43 = .ok (.iaload, 1) := by decide +kernel
theorem dX1_agrees_44 : decode cX1_agrees 44 = .ok (.if_icmp .eq 5, 3) := by decide +kernel
theorem dX1_agrees_47 : decode cX1_agrees 47 = .ok (.iconst 0, 1) := by decide +kernel
theorem dX1_agrees_48 : decode cX1_agrees 48 = .ok (.ireturn, 1) := by decide +kernel
theorem dX1_agrees_49 : decode cX1_agrees 49 = .ok (.iinc 2 1, 3) := by decide +kernel
theorem dX1_agrees_52 : decode cX1_agrees 52 = .ok (.goto (-50), 3) := by decide +kernel
theorem dX1_agrees_55 : decode cX1_agrees 55 = .ok (.iconst 1, 1) := by decide +kernel
theorem dX1_agrees_56 : decode cX1_agrees 56 = .ok (.ireturn, 1) := by decide +kernel
theorem dX1_fitting_0 : decode cX1_fitting 0 = .ok (.iconst 0, 1) := by decide +kernel
theorem dX1_fitting_1 : decode cX1_fitting 1 = .ok (.istore_n 1, 1) := by decide +kernel
theorem dX1_fitting_2 : decode cX1_fitting 2 = .ok (.iconst 0, 1) := by decide +kernel
theorem dX1_fitting_3 : decode cX1_fitting 3 = .ok (.istore_n 2, 1) := by decide +kernel
theorem dX1_fitting_4 : decode cX1_fitting 4 = .ok (.iload_n 2, 1) := by decide +kernel
theorem dX1_fitting_5 : decode cX1_fitting 5 = .ok (.aload_n 0, 1) := by decide +kernel
theorem dX1_fitting_6 : decode cX1_fitting 6 = .ok (.getfield 23, 3) := by decide +kernel
theorem dX1_fitting_9 : decode cX1_fitting 9 = .ok (.arraylength, 1) := by decide +kernel
theorem dX1_fitting_10 : decode cX1_fitting 10 = .ok (.if_icmp .ge 26, 3) := by decide +kernel
theorem dX1_fitting_13 : decode cX1_fitting 13 = .ok (.iload_n 1, 1) := by decide +kernel
theorem dX1_fitting_14 : decode cX1_fitting 14 = .ok (.aload_n 0, 1) := by decide +kernel
theorem dX1_fitting_15 : decode cX1_fitting 15 = .ok (.getfield 23, 3) := by decide +kernel
theorem dX1_fitting_18 : decode cX1_fitting 18 = .ok (.iload_n 2, 1) := by decide +kernel
theorem dX1_fitting_19 : decode cX1_fitting 19 = .ok (.baload, 1) := by decide +kernel
theorem dX1_fitting_20 : decode cX1_fitting 20 = .ok (.ifCond .eq 7, 3) := by decide +kernel
theorem dX1_fitting_23 : decode cX1_fitting 23 = .ok (.iconst 1, 1) := by decide +kernel
theorem dX1_fitting_24 : decode cX1_fitting 24 = .ok (.goto 4, 3) := by decide +kernel
theorem dX1_fitting_27 : decode cX1_fitting 27 = .ok (.iconst 0, 1) := by decide +kernel
theorem dX1_fitting_28 : decode cX1_fitting 28 = .ok (.iadd, 1) := by decide +kernel
theorem dX1_fitting_29 : decode cX1_fitting 29 = .ok (.istore_n 1, 1) := by decide +kernel
theorem dX1_fitting_30 : decode cX1_fitting 30 = .ok (.iinc 2 1, 3) := by decide +kernel
theorem dX1_fitting_33 : decode cX1_fitting 33 = .ok (.goto (-29), 3) := by decide +kernel
theorem dX1_fitting_36 : decode cX1_fitting 36 = .ok (.iload_n 1, 1) := by decide +kernel
theorem dX1_fitting_37 : decode cX1_fitting 37 = .ok (.ireturn, 1) := by decide +kernel
theorem dX1_firstFitting_0 : decode cX1_firstFitting 0 = .ok (.iconst 0, 1) := by decide +kernel
theorem dX1_firstFitting_1 : decode cX1_firstFitting 1 = .ok (.istore_n 1, 1) := by decide +kernel
theorem dX1_firstFitting_2 : decode cX1_firstFitting 2 = .ok (.iload_n 1, 1) := by decide +kernel
theorem dX1_firstFitting_3 : decode cX1_firstFitting 3 = .ok (.aload_n 0, 1) := by decide +kernel
theorem dX1_firstFitting_4 : decode cX1_firstFitting 4 = .ok (.getfield 23, 3) := by decide +kernel
theorem dX1_firstFitting_7 : decode cX1_firstFitting 7 = .ok (.arraylength, 1) := by decide +kernel
theorem dX1_firstFitting_8 : decode cX1_firstFitting 8 = .ok (.if_icmp .ge 22, 3) := by decide +kernel
theorem dX1_firstFitting_11 : decode cX1_firstFitting 11 = .ok (.aload_n 0, 1) := by decide +kernel
theorem dX1_firstFitting_12 : decode cX1_firstFitting 12 = .ok (.getfield 23, 3) := by decide +kernel
theorem dX1_firstFitting_15 : decode cX1_firstFitting 15 = .ok (.iload_n 1, 1) := by decide +kernel
theorem dX1_firstFitting_16 : decode cX1_firstFitting 16 = .ok (.baload, 1) := by decide +kernel
theorem dX1_firstFitting_17 : decode cX1_firstFitting 17 = .ok (.ifCond .eq 7, 3) := by decide +kernel
theorem dX1_firstFitting_20 : decode cX1_firstFitting 20 = .ok (.iload_n 1, 1) := by decide +kernel
theorem dX1_firstFitting_21 : decode cX1_firstFitting 21 = .ok (.iconst 1, 1) := by decide +kernel
theorem dX1_firstFitting_22 : decode cX1_firstFitting 22 = .ok (.isub, 1) := by decide +kernel
theorem dX1_firstFitting_23 : decode cX1_firstFitting 23 = .ok (.ireturn, 1) := by decide +kernel
theorem dX1_firstFitting_24 : decode cX1_firstFitting 24 = .ok (.iinc 1 1, 3) := by decide +kernel
theorem dX1_firstFitting_27 : decode cX1_firstFitting 27 = .ok (.goto (-25), 3) := by decide +kernel
theorem dX1_firstFitting_30 : decode cX1_firstFitting 30 = .ok (.bipush (-2), 2) := by decide +kernel
theorem dX1_firstFitting_32 : decode cX1_firstFitting 32 = .ok (.ireturn, 1) := by decide +kernel
theorem dX1_partingMonth_0 : decode cX1_partingMonth 0 = .ok (.aload_n 0, 1) := by decide +kernel
theorem dX1_partingMonth_1 : decode cX1_partingMonth 1 = .ok (.getfield 23, 3) := by decide +kernel
theorem dX1_partingMonth_4 : decode cX1_partingMonth 4 = .ok (.arraylength, 1) := by decide +kernel
theorem dX1_partingMonth_5 : decode cX1_partingMonth 5 = .ok (.iconst 1, 1) := by decide +kernel
theorem dX1_partingMonth_6 : decode cX1_partingMonth 6 = .ok (.iadd, 1) := by decide +kernel
theorem dX1_partingMonth_7 : decode cX1_partingMonth 7 = .ok (.istore_n 1, 1) := by decide +kernel
theorem dX1_partingMonth_8 : decode cX1_partingMonth 8 = .ok (.iconst 0, 1) := by decide +kernel
theorem dX1_partingMonth_9 : decode cX1_partingMonth 9 = .ok (.istore_n 2, 1) := by decide +kernel
theorem dX1_partingMonth_10 : decode cX1_partingMonth 10 = .ok (.iconst 0, 1) := by decide +kernel
theorem dX1_partingMonth_11 : decode cX1_partingMonth 11 = .ok (.istore_n 3, 1) := by decide +kernel
theorem dX1_partingMonth_12 : decode cX1_partingMonth 12 = .ok (.iload_n 3, 1) := by decide +kernel
theorem dX1_partingMonth_13 : decode cX1_partingMonth 13 = .ok (.bipush 60, 2) := by decide +kernel
theorem dX1_partingMonth_15 : decode cX1_partingMonth 15 = .ok (.if_icmp .gt 27, 3) := by decide +kernel
theorem dX1_partingMonth_18 : decode cX1_partingMonth 18 = .ok (.aload_n 0, 1) := by decide +kernel
theorem dX1_partingMonth_19 : decode cX1_partingMonth 19 = .ok (.iload_n 3, 1) := by decide +kernel
theorem dX1_partingMonth_20 : decode cX1_partingMonth 20 = .ok (.invokevirtual 66, 3) := by decide +kernel
theorem dX1_partingMonth_23 : decode cX1_partingMonth 23 = .ok (.istore 4, 2) := by decide +kernel
theorem dX1_partingMonth_25 : decode cX1_partingMonth 25 = .ok (.iload 4, 2) := by decide +kernel
theorem dX1_partingMonth_27 : decode cX1_partingMonth 27 = .ok (.iload_n 1, 1) := by decide +kernel
theorem dX1_partingMonth_28 : decode cX1_partingMonth 28 = .ok (.if_icmp .ge 8, 3) := by decide +kernel
theorem dX1_partingMonth_31 : decode cX1_partingMonth 31 = .ok (.iload 4, 2) := by decide +kernel
theorem dX1_partingMonth_33 : decode cX1_partingMonth 33 = .ok (.istore_n 1, 1) := by decide +kernel
theorem dX1_partingMonth_34 : decode cX1_partingMonth 34 = .ok (.iload_n 3, 1) := by decide +kernel
theorem dX1_partingMonth_35 : decode cX1_partingMonth 35 = .ok (.istore_n 2, 1) := by decide +kernel
theorem dX1_partingMonth_36 : decode cX1_partingMonth 36 = .ok (.iinc 3 1, 3) := by decide +kernel
theorem dX1_partingMonth_39 : decode cX1_partingMonth 39 = .ok (.goto (-27), 3) := by decide +kernel
theorem dX1_partingMonth_42 : decode cX1_partingMonth 42 = .ok (.iload_n 2, 1) := by decide +kernel
theorem dX1_partingMonth_43 : decode cX1_partingMonth 43 = .ok (.ireturn, 1) := by decide +kernel
theorem dX1_mostAlike_0 : decode cX1_mostAlike 0 = .ok (.iconst 0, 1) := by decide +kernel
theorem dX1_mostAlike_1 : decode cX1_mostAlike 1 = .ok (.istore_n 2, 1) := by decide +kernel
theorem dX1_mostAlike_2 : decode cX1_mostAlike 2 = .ok (.iconst 0, 1) := by decide +kernel
theorem dX1_mostAlike_3 : decode cX1_mostAlike 3 = .ok (.istore_n 3, 1) := by decide +kernel
theorem dX1_mostAlike_4 : decode cX1_mostAlike 4 = .ok (.iload_n 3, 1) := by decide +kernel
theorem dX1_mostAlike_5 : decode cX1_mostAlike 5 = .ok (.aload_n 0, 1) := by decide +kernel
theorem dX1_mostAlike_6 : decode cX1_mostAlike 6 = .ok (.getfield 23, 3) := by decide +kernel
theorem dX1_mostAlike_9 : decode cX1_mostAlike 9 = .ok (.arraylength, 1) := by decide +kernel
theorem dX1_mostAlike_10 : decode cX1_mostAlike 10 = .ok (.if_icmp .ge 87, 3) := by decide +kernel
theorem dX1_mostAlike_13 : decode cX1_mostAlike 13 = .ok (.iconst 0, 1) := by decide +kernel
theorem dX1_mostAlike_14 : decode cX1_mostAlike 14 = .ok (.istore 4, 2) := by decide +kernel
theorem dX1_mostAlike_16 : decode cX1_mostAlike 16 = .ok (.iconst 0, 1) := by decide +kernel
theorem dX1_mostAlike_17 : decode cX1_mostAlike 17 = .ok (.istore 5, 2) := by decide +kernel
theorem dX1_mostAlike_19 : decode cX1_mostAlike 19 = .ok (.aload_n 0, 1) := by decide +kernel
theorem dX1_mostAlike_20 : decode cX1_mostAlike 20 = .ok (.getfield 23, 3) := by decide +kernel
theorem dX1_mostAlike_23 : decode cX1_mostAlike 23 = .ok (.iload_n 3, 1) := by decide +kernel
theorem dX1_mostAlike_24 : decode cX1_mostAlike 24 = .ok (.baload, 1) := by decide +kernel
theorem dX1_mostAlike_25 : decode cX1_mostAlike 25 = .ok (.ifCond .eq 59, 3) := by decide +kernel
theorem dX1_mostAlike_28 : decode cX1_mostAlike 28 = .ok (.iload 5, 2) := by decide +kernel
theorem dX1_mostAlike_30 : decode cX1_mostAlike 30 = .ok (.aload_n 0, 1) := by decide +kernel
theorem dX1_mostAlike_31 : decode cX1_mostAlike 31 = .ok (.getfield 23, 3) := by decide +kernel
theorem dX1_mostAlike_34 : decode cX1_mostAlike 34 = .ok (.arraylength, 1) := by decide +kernel
theorem dX1_mostAlike_35 : decode cX1_mostAlike 35 = .ok (.if_icmp .ge 49, 3) := by decide +kernel
theorem dX1_mostAlike_38 : decode cX1_mostAlike 38 = .ok (.iload 4, 2) := by decide +kernel
theorem dX1_mostAlike_40 : decode cX1_mostAlike 40 = .ok (.aload_n 0, 1) := by decide +kernel
theorem dX1_mostAlike_41 : decode cX1_mostAlike 41 = .ok (.getfield 23, 3) := by decide +kernel
theorem dX1_mostAlike_44 : decode cX1_mostAlike 44 = .ok (.iload 5, 2) := by decide +kernel
theorem dX1_mostAlike_46 : decode cX1_mostAlike 46 = .ok (.baload, 1) := by decide +kernel
theorem dX1_mostAlike_47 : decode cX1_mostAlike 47 = .ok (.ifCond .eq 27, 3) := by decide +kernel
theorem dX1_mostAlike_50 : decode cX1_mostAlike 50 = .ok (.aload_n 0, 1) := by decide +kernel
theorem dX1_mostAlike_51 : decode cX1_mostAlike 51 = .ok (.getfield 20, 3) := by decide +kernel
theorem dX1_mostAlike_54 : decode cX1_mostAlike 54 = .ok (.iload 5, 2) := by decide +kernel
theorem dX1_mostAlike_56 : decode cX1_mostAlike 56 = .ok (.aaload, 1) := by decide +kernel
theorem dX1_mostAlike_57 : decode cX1_mostAlike 57 = .ok (.iload_n 1, 1) := by decide +kernel
theorem dX1_mostAlike_58 : decode cX1_mostAlike 58 = .ok (.iaload, 1) := by decide +kernel
theorem dX1_mostAlike_59 : decode cX1_mostAlike 59 = .ok (.aload_n 0, 1) := by decide +kernel
theorem dX1_mostAlike_60 : decode cX1_mostAlike 60 = .ok (.getfield 20, 3) := by decide +kernel
theorem dX1_mostAlike_63 : decode cX1_mostAlike 63 = .ok (.iload_n 3, 1) := by decide +kernel
theorem dX1_mostAlike_64 : decode cX1_mostAlike 64 = .ok (.aaload, 1) := by decide +kernel
theorem dX1_mostAlike_65 : decode cX1_mostAlike 65 = .ok (.iload_n 1, 1) := by decide +kernel
theorem dX1_mostAlike_66 : decode cX1_mostAlike 66 = .ok (.iaload, 1) := by decide +kernel
theorem dX1_mostAlike_67 : decode cX1_mostAlike 67 = .ok (.if_icmp .ne 7, 3) := by decide +kernel
theorem dX1_mostAlike_70 : decode cX1_mostAlike 70 = .ok (.iconst 1, 1) := by decide +kernel
theorem dX1_mostAlike_71 : decode cX1_mostAlike 71 = .ok (.goto 4, 3) := by decide +kernel
theorem dX1_mostAlike_74 : decode cX1_mostAlike 74 = .ok (.iconst 0, 1) := by decide +kernel
theorem dX1_mostAlike_75 : decode cX1_mostAlike 75 = .ok (.iadd, 1) := by decide +kernel
theorem dX1_mostAlike_76 : decode cX1_mostAlike 76 = .ok (.istore 4, 2) := by decide +kernel
theorem dX1_mostAlike_78 : decode cX1_mostAlike 78 = .ok (.iinc 5 1, 3) := by decide +kernel
theorem dX1_mostAlike_81 : decode cX1_mostAlike 81 = .ok (.goto (-62), 3) := by decide +kernel
theorem dX1_mostAlike_84 : decode cX1_mostAlike 84 = .ok (.iload_n 2, 1) := by decide +kernel
theorem dX1_mostAlike_85 : decode cX1_mostAlike 85 = .ok (.iload 4, 2) := by decide +kernel
theorem dX1_mostAlike_87 : decode cX1_mostAlike 87 = .ok (.invokestatic 70, 3) := by decide +kernel
theorem dX1_mostAlike_90 : decode cX1_mostAlike 90 = .ok (.istore_n 2, 1) := by decide +kernel
theorem dX1_mostAlike_91 : decode cX1_mostAlike 91 = .ok (.iinc 3 1, 3) := by decide +kernel
theorem dX1_mostAlike_94 : decode cX1_mostAlike 94 = .ok (.goto (-90), 3) := by decide +kernel
theorem dX1_mostAlike_97 : decode cX1_mostAlike 97 = .ok (.iload_n 2, 1) := by decide +kernel
theorem dX1_mostAlike_98 : decode cX1_mostAlike 98 = .ok (.ireturn, 1) := by decide +kernel
