theorem dX7_init_0 : decode cX7_init 0 = .ok (.aload_n 0, 1) := by decide +kernel
theorem dX7_init_1 : decode cX7_init 1 = .ok (.invokespecial 3, 3) := by decide +kernel
theorem dX7_init_4 : decode cX7_init 4 = .ok (.return_, 1) := by decide +kernel
theorem dX7_copyFrom_0 : decode cX7_copyFrom 0 = .ok (.aload_n 0, 1) := by decide +kernel
theorem dX7_copyFrom_1 : decode cX7_copyFrom 1 = .ok (.aload_n 1, 1) := by decide +kernel
theorem dX7_copyFrom_2 : decode cX7_copyFrom 2 = .ok (.getfield 9, 3) := by decide +kernel
theorem dX7_copyFrom_5 : decode cX7_copyFrom 5 = .ok (.putfield 9, 3) := by decide +kernel
theorem dX7_copyFrom_8 : decode cX7_copyFrom 8 = .ok (.aload_n 0, 1) := by decide +kernel
theorem dX7_copyFrom_9 : decode cX7_copyFrom 9 = .ok (.aload_n 1, 1) := by decide +kernel
theorem dX7_copyFrom_10 : decode cX7_copyFrom 10 = .ok (.getfield 15, 3) := by decide +kernel
theorem dX7_copyFrom_13 : decode cX7_copyFrom 13 = .ok (.putfield 15, 3) := by decide +kernel
theorem dX7_copyFrom_16 : decode cX7_copyFrom 16 = .ok (.aload_n 0, 1) := by decide +kernel
theorem dX7_copyFrom_17 : decode cX7_copyFrom 17 = .ok (.aload_n 1, 1) := by decide +kernel
theorem dX7_copyFrom_18 : decode cX7_copyFrom 18 = .ok (.getfield 18, 3) := by decide +kernel
theorem dX7_copyFrom_21 : decode cX7_copyFrom 21 = .ok (.putfield 18, 3) := by decide +kernel
theorem dX7_copyFrom_24 : decode cX7_copyFrom 24 = .ok (.aload_n 0, 1) := by decide +kernel
theorem dX7_copyFrom_25 : decode cX7_copyFrom 25 = .ok (.aload_n 1, 1) := by decide +kernel
theorem dX7_copyFrom_26 : decode cX7_copyFrom 26 = .ok (.getfield 21, 3) := by decide +kernel
theorem dX7_copyFrom_29 : decode cX7_copyFrom 29 = .ok (.putfield 21, 3) := by decide +kernel
theorem dX7_copyFrom_32 : decode cX7_copyFrom 32 = .ok (.aload_n 0, 1) := by decide +kernel
theorem dX7_copyFrom_33 : decode cX7_copyFrom 33 = .ok (.aload_n 1, 1) := by decide +kernel
theorem dX7_copyFrom_34 : decode cX7_copyFrom 34 = .ok (.getfield 24, 3) := by decide +kernel
theorem dX7_copyFrom_37 : decode cX7_copyFrom 37 = .ok (.putfield 24, 3) := by decide +kernel
theorem dX7_copyFrom_40 : decode cX7_copyFrom 40 = .ok (.aload_n 0, 1) := by decide +kernel
theorem dX7_copyFrom_41 : decode cX7_copyFrom 41 = .ok (.aload_n 1, 1) := by decide +kernel
theorem dX7_copyFrom_42 : decode cX7_copyFrom 42 = .ok (.getfield 27, 3) := by decide +kernel
theorem dX7_copyFrom_45 : decode cX7_copyFrom 45 = .ok (.putfield 27, 3) := by decide +kernel
theorem dX7_copyFrom_48 : decode cX7_copyFrom 48 = .ok (.aload_n 0, 1) := by decide +kernel
theorem dX7_copyFrom_49 : decode cX7_copyFrom 49 = .ok (.aload_n 1, 1) := by decide +kernel
theorem dX7_copyFrom_50 : decode cX7_copyFrom 50 = .ok (.getfield 31, 3) := by decide +kernel
theorem dX7_copyFrom_53 : decode cX7_copyFrom 53 = .ok (.putfield 31, 3) := by decide +kernel
theorem dX7_copyFrom_56 : decode cX7_copyFrom 56 = .ok (.return_, 1) := by decide +kernel
theorem dX7_detail_0 : decode cX7_detail 0 = .ok (.iload_n 1, 1) := by decide +kernel
theorem dX7_detail_1 : decode cX7_detail 1 = .ok (.tableswitch 90 0 7 #[47, 52, 57, 62, 67, 72, 90, 85], 47) := by decide +kernel
theorem dX7_detail_48 : decode cX7_detail 48 = .ok (.aload_n 0, 1) := by decide +kernel
theorem dX7_detail_49 : decode cX7_detail 49 = .ok (.getfield 9, 3) := by decide +kernel
theorem dX7_detail_52 : decode cX7_detail 52 = .ok (.ireturn, 1) := by decide +kernel
theorem dX7_detail_53 : decode cX7_detail 53 = .ok (.aload_n 0, 1) := by decide +kernel
theorem dX7_detail_54 : decode cX7_detail 54 = .ok (.getfield 15, 3) := by decide +kernel
theorem dX7_detail_57 : decode cX7_detail 57 = .ok (.ireturn, 1) := by decide +kernel
theorem dX7_detail_58 : decode cX7_detail 58 = .ok (.aload_n 0, 1) := by decide +kernel
theorem dX7_detail_59 : decode cX7_detail 59 = .ok (.getfield 18, 3) := by decide +kernel
theorem dX7_detail_62 : decode cX7_detail 62 = .ok (.ireturn, 1) := by decide +kernel
theorem dX7_detail_63 : decode cX7_detail 63 = .ok (.aload_n 0, 1) := by decide +kernel
theorem dX7_detail_64 : decode cX7_detail 64 = .ok (.getfield 21, 3) := by decide +kernel
theorem dX7_detail_67 : decode cX7_detail 67 = .ok (.ireturn, 1) := by decide +kernel
theorem dX7_detail_68 : decode cX7_detail 68 = .ok (.aload_n 0, 1) := by decide +kernel
theorem dX7_detail_69 : decode cX7_detail 69 = .ok (.getfield 24, 3) := by decide +kernel
theorem dX7_detail_72 : decode cX7_detail 72 = .ok (.ireturn, 1) := by decide +kernel
theorem dX7_detail_73 : decode cX7_detail 73 = .ok (.aload_n 0, 1) := by decide +kernel
theorem dX7_detail_74 : decode cX7_detail 74 = .ok (.getfield 27, 3) := by decide +kernel
theorem dX7_detail_77 : decode cX7_detail 77 = .ok (.ifCond .eq 7, 3) := by decide +kernel
theorem dX7_detail_80 : decode cX7_detail 80 = .ok (.iconst 1, 1) := by decide +kernel
theorem dX7_detail_81 : decode cX7_detail 81 = .ok (.goto 4, 3) := by decide +kernel
theorem dX7_detail_84 : decode cX7_detail 84 = .ok (.iconst 0, 1) := by decide +kernel
theorem dX7_detail_85 : decode cX7_detail 85 = .ok (.ireturn, 1) := by decide +kernel
theorem dX7_detail_86 : decode cX7_detail 86 = .ok (.aload_n 0, 1) := by decide +kernel
theorem dX7_detail_87 : decode cX7_detail 87 = .ok (.getfield 31, 3) := by decide +kernel
theorem dX7_detail_90 : decode cX7_detail 90 = .ok (.ireturn, 1) := by decide +kernel
theorem dX7_detail_91 : decode cX7_detail 91 = .ok (.iconst (-1), 1) := by decide +kernel
theorem dX7_detail_92 : decode cX7_detail 92 = .ok (.ireturn, 1) := by decide +kernel
theorem dX7_melted_0 : decode cX7_melted 0 = .ok (.iload_n 0, 1) := by decide +kernel
theorem dX7_melted_1 : decode cX7_melted 1 = .ok (.iload_n 0, 1) := by decide +kernel
theorem dX7_melted_2 : decode cX7_melted 2 = .ok (.iload_n 1, 1) := by decide +kernel
theorem dX7_melted_3 : decode cX7_melted 3 = .ok (.imul, 1) := by decide +kernel
theorem dX7_melted_4 : decode cX7_melted 4 = .ok (.bipush 99, 2) := by decide +kernel
theorem dX7_melted_6 : decode cX7_melted 6 = .ok (.iadd, 1) := by decide +kernel
theorem dX7_melted_7 : decode cX7_melted 7 = .ok (.bipush 100, 2) := by decide +kernel
theorem dX7_melted_9 : decode cX7_melted 9 = .ok (.idiv, 1) := by decide +kernel
theorem dX7_melted_10 : decode cX7_melted 10 = .ok (.isub, 1) := by decide +kernel
theorem dX7_melted_11 : decode cX7_melted 11 = .ok (.ireturn, 1) := by decide +kernel
theorem dX7_heatFor_0 : decode cX7_heatFor 0 = .ok (.iload_n 1, 1) := by decide +kernel
theorem dX7_heatFor_1 : decode cX7_heatFor 1 = .ok (.ifCond .eq 12, 3) := by decide +kernel
theorem dX7_heatFor_4 : decode cX7_heatFor 4 = .ok (.aload_n 0, 1) := by decide +kernel
theorem dX7_heatFor_5 : decode cX7_heatFor 5 = .ok (.getfield 15, 3) := by decide +kernel
theorem dX7_heatFor_8 : decode cX7_heatFor 8 = .ok (.iconst 4, 1) := by decide +kernel
theorem dX7_heatFor_9 : decode cX7_heatFor 9 = .ok (.idiv, 1) := by decide +kernel
theorem dX7_heatFor_10 : decode cX7_heatFor 10 = .ok (.goto 7, 3) := by decide +kernel
theorem dX7_heatFor_13 : decode cX7_heatFor 13 = .ok (.aload_n 0, 1) := by decide +kernel
theorem dX7_heatFor_14 : decode cX7_heatFor 14 = .ok (.getfield 15, 3) := by decide +kernel
theorem dX7_heatFor_17 : decode cX7_heatFor 17 = .ok (.ireturn, 1) := by decide +kernel
theorem dX7_arriving_0 : decode cX7_arriving 0 = .ok (.aload_n 0, 1) := by decide +kernel
theorem dX7_arriving_1 : decode cX7_arriving 1 = .ok (.iload_n 2, 1) := by decide +kernel
theorem dX7_arriving_2 : decode cX7_arriving 2 = .ok (.invokevirtual 34, 3) := by decide +kernel
theorem dX7_arriving_5 : decode cX7_arriving 5 = .ok (.istore_n 3, 1) := by decide +kernel
theorem dX7_arriving_6 : decode cX7_arriving 6 = .ok (.iload_n 1, 1) := by decide +kernel
theorem dX7_arriving_7 : decode cX7_arriving 7 = .ok (.istore 4, 2) := by decide +kernel
theorem dX7_arriving_9 : decode cX7_arriving 9 = .ok (.iconst 0, 1) := by decide +kernel
theorem dX7_arriving_10 : decode cX7_arriving 10 = .ok (.istore 5, 2) := by decide +kernel
theorem dX7_arriving_12 : decode cX7_arriving 12 = .ok (.iload 5, 2) := by decide +kernel
theorem dX7_arriving_14 : decode cX7_arriving 14 = .ok (.aload_n 0, 1) := by decide +kernel
theorem dX7_arriving_15 : decode cX7_arriving 15 = .ok (.getfield 9, 3) := by decide +kernel
theorem dX7_arriving_18 : decode cX7_arriving 18 = .ok (.if_icmp .ge 17, 3) := by decide +kernel
theorem dX7_arriving_21 : decode cX7_arriving 21 = .ok (.iload 4, 2) := by decide +kernel
theorem dX7_arriving_23 : decode cX7_arriving 23 = .ok (.iload_n 3, 1) := by decide +kernel
theorem dX7_arriving_24 : decode cX7_arriving 24 = .ok (.invokestatic 38, 3) := by decide +kernel
theorem dX7_arriving_27 : decode cX7_arriving 27 = .ok (.istore 4, 2) := by decide +kernel
theorem dX7_arriving_29 : decode cX7_arriving 29 = .ok (.iinc 5 1, 3) := by decide +kernel
theorem dX7_arriving_32 : decode cX7_arriving 32 = .ok (.goto (-20), 3) := by decide +kernel
theorem dX7_arriving_35 : decode cX7_arriving 35 = .ok (.iload 4, 2) := by decide +kernel
theorem dX7_arriving_37 : decode cX7_arriving 37 = .ok (.ireturn, 1) := by decide +kernel
theorem dX7_firstLoad_0 : decode cX7_firstLoad 0 = .ok (.iconst 0, 1) := by decide +kernel
theorem dX7_firstLoad_1 : decode cX7_firstLoad 1 = .ok (.istore_n 3, 1) := by decide +kernel
theorem dX7_firstLoad_2 : decode cX7_firstLoad 2 = .ok (.iload_n 3, 1) := by decide +kernel
theorem dX7_firstLoad_3 : decode cX7_firstLoad 3 = .ok (.sipush 999, 3) := by decide +kernel
theorem dX7_firstLoad_6 : decode cX7_firstLoad 6 = .ok (.if_icmp .gt 21, 3) := by decide +kernel
theorem dX7_firstLoad_9 : decode cX7_firstLoad 9 = .ok (.aload_n 0, 1) := by decide +kernel
theorem dX7_firstLoad_10 : decode cX7_firstLoad 10 = .ok (.iload_n 3, 1) := by decide +kernel
theorem dX7_firstLoad_11 : decode cX7_firstLoad 11 = .ok (.iload_n 2, 1) := by decide +kernel
theorem dX7_firstLoad_12 : decode cX7_firstLoad 12 = .ok (.invokevirtual 42, 3) := by decide +kernel
theorem dX7_firstLoad_15 : decode cX7_firstLoad 15 = .ok (.iload_n 1, 1) := by decide +kernel
theorem dX7_firstLoad_16 : decode cX7_firstLoad 16 = .ok (.if_icmp .lt 5, 3) := by decide +kernel
theorem dX7_firstLoad_19 : decode cX7_firstLoad 19 = .ok (.iload_n 3, 1) := by decide +kernel
theorem dX7_firstLoad_20 : decode cX7_firstLoad 20 = .ok (.ireturn, 1) := by decide +kernel
theorem dX7_firstLoad_21 : decode cX7_firstLoad 21 = .ok (.iinc 3 1, 3) := by decide +kernel
theorem dX7_firstLoad_24 : decode cX7_firstLoad 24 = .ok (.goto (-22), 3) := by decide +kernel
theorem dX7_firstLoad_27 : decode cX7_firstLoad 27 = .ok (.bipush (-2), 2) := by decide +kernel
theorem dX7_firstLoad_29 : decode cX7_firstLoad 29 = .ok (.ireturn, 1) := by decide +kernel
theorem dX7_giveAway_0 : decode cX7_giveAway 0 = .ok (.aload_n 0, 1) := by decide +kernel
theorem dX7_giveAway_1 : decode cX7_giveAway 1 = .ok (.dup, 1) := by decide +kernel
theorem dX7_giveAway_2 : decode cX7_giveAway 2 = .ok (.getfield 24, 3) := by decide +kernel
theorem dX7_giveAway_5 : decode cX7_giveAway 5 = .ok (.iload_n 1, 1) := by decide +kernel
theorem dX7_giveAway_6 : decode cX7_giveAway 6 = .ok (.isub, 1) := by decide +kernel
theorem dX7_giveAway_7 : decode cX7_giveAway 7 = .ok (.putfield 24, 3) := by decide +kernel
theorem dX7_giveAway_10 : decode cX7_giveAway 10 = .ok (.aload_n 0, 1) := by decide +kernel
theorem dX7_giveAway_11 : decode cX7_giveAway 11 = .ok (.bipush 99, 2) := by decide +kernel
theorem dX7_giveAway_13 : decode cX7_giveAway 13 = .ok (.aload_n 0, 1) := by decide +kernel
theorem dX7_giveAway_14 : decode cX7_giveAway 14 = .ok (.getfield 18, 3) := by decide +kernel
theorem dX7_giveAway_17 : decode cX7_giveAway 17 = .ok (.iload_n 1, 1) := by decide +kernel
theorem dX7_giveAway_18 : decode cX7_giveAway 18 = .ok (.iadd, 1) := by decide +kernel
theorem dX7_giveAway_19 : decode cX7_giveAway 19 = .ok (.invokestatic 46, 3) := by decide +kernel
theorem dX7_giveAway_22 : decode cX7_giveAway 22 = .ok (.putfield 18, 3) := by decide +kernel
theorem dX7_giveAway_25 : decode cX7_giveAway 25 = .ok (.return_, 1) := by decide +kernel
theorem dX7_setPrice_0 : decode cX7_setPrice 0 = .ok (.iload_n 1, 1) := by decide +kernel
theorem dX7_setPrice_1 : decode cX7_setPrice 1 = .ok (.ifCond .le 28, 3) := by decide +kernel
theorem dX7_setPrice_4 : decode cX7_setPrice 4 = .ok (.aload_n 0, 1) := by decide +kernel
theorem dX7_setPrice_5 : decode cX7_setPrice 5 = .ok (.bipush 99, 2) := by decide +kernel
theorem dX7_setPrice_7 : decode cX7_setPrice 7 = .ok (.aload_n 0, 1) := by decide +kernel
theorem dX7_setPrice_8 : decode cX7_setPrice 8 = .ok (.getfield 18, 3) := by decide +kernel
theorem dX7_setPrice_11 : decode cX7_setPrice 11 = .ok (.aload_n 0, 1) := by decide +kernel
theorem dX7_setPrice_12 : decode cX7_setPrice 12 = .ok (.getfield 21, 3) := by decide +kernel
theorem dX7_setPrice_15 : decode cX7_setPrice 15 = .ok (.imul, 1) := by decide +kernel
theorem dX7_setPrice_16 : decode cX7_setPrice 16 = .ok (.iload_n 1, 1) := by decide +kernel
theorem dX7_setPrice_17 : decode cX7_setPrice 17 = .ok (.idiv, 1) := by decide +kernel
theorem dX7_setPrice_18 : decode cX7_setPrice 18 = .ok (.invokestatic 46, 3) := by decide +kernel
theorem dX7_setPrice_21 : decode cX7_setPrice 21 = .ok (.putfield 18, 3) := by decide +kernel
theorem dX7_setPrice_24 : decode cX7_setPrice 24 = .ok (.aload_n 0, 1) := by decide +kernel
theorem dX7_setPrice_25 : decode cX7_setPrice 25 = .ok (.iload_n 1, 1) := by decide +kernel
theorem dX7_setPrice_26 : decode cX7_setPrice 26 = .ok (.putfield 21, 3) := by decide +kernel
theorem dX7_setPrice_29 : decode cX7_setPrice 29 = .ok (.return_, 1) := by decide +kernel
theorem dX7_sellMonth_0 : decode cX7_sellMonth 0 = .ok (.aload_n 0, 1) := by decide +kernel
theorem dX7_sellMonth_1 : decode cX7_sellMonth 1 = .ok (.getfield 24, 3) := by decide +kernel
theorem dX7_sellMonth_4 : decode cX7_sellMonth 4 = .ok (.istore_n 1, 1) := by decide +kernel
theorem dX7_sellMonth_5 : decode cX7_sellMonth 5 = .ok (.iload_n 1, 1) := by decide +kernel
theorem dX7_sellMonth_6 : decode cX7_sellMonth 6 = .ok (.aload_n 0, 1) := by decide +kernel
theorem dX7_sellMonth_7 : decode cX7_sellMonth 7 = .ok (.getfield 18, 3) := by decide +kernel
theorem dX7_sellMonth_10 : decode cX7_sellMonth 10 = .ok (.invokestatic 46, 3) := by decide +kernel
theorem dX7_sellMonth_13 : decode cX7_sellMonth 13 = .ok (.istore_n 2, 1) := by decide +kernel
theorem dX7_sellMonth_14 : decode cX7_sellMonth 14 = .ok (.aload_n 0, 1) := by decide +kernel
theorem dX7_sellMonth_15 : decode cX7_sellMonth 15 = .ok (.iload_n 1, 1) := by decide +kernel
theorem dX7_sellMonth_16 : decode cX7_sellMonth 16 = .ok (.iload_n 2, 1) := by decide +kernel
theorem dX7_sellMonth_17 : decode cX7_sellMonth 17 = .ok (.isub, 1) := by decide +kernel
theorem dX7_sellMonth_18 : decode cX7_sellMonth 18 = .ok (.aload_n 0, 1) := by decide +kernel
theorem dX7_sellMonth_19 : decode cX7_sellMonth 19 = .ok (.aload_n 0, 1) := by decide +kernel
theorem dX7_sellMonth_20 : decode cX7_sellMonth 20 = .ok (.getfield 27, 3) := by decide +kernel
theorem dX7_sellMonth_23 : decode cX7_sellMonth 23 = .ok (.invokevirtual 34, 3) := by decide +kernel
theorem dX7_sellMonth_26 : decode cX7_sellMonth 26 = .ok (.invokestatic 38, 3) := by decide +kernel
theorem dX7_sellMonth_29 : decode cX7_sellMonth 29 = .ok (.putfield 24, 3) := by decide +kernel
theorem dX7_sellMonth_32 : decode cX7_sellMonth 32 = .ok (.aload_n 0, 1) := by decide +kernel
theorem dX7_sellMonth_33 : decode cX7_sellMonth 33 = .ok (.dup, 1) := by decide +kernel
theorem dX7_sellMonth_34 : decode cX7_sellMonth 34 = .ok (.getfield 31, 3) := by decide +kernel
theorem dX7_sellMonth_37 : decode cX7_sellMonth 37 = .ok (.iload_n 2, 1) := by decide +kernel
theorem dX7_sellMonth_38 : decode cX7_sellMonth 38 = .ok (.iadd, 1) := by decide +kernel
theorem dX7_sellMonth_39 : decode cX7_sellMonth 39 = .ok (.putfield 31, 3) := by decide +kernel
theorem dX7_sellMonth_42 : decode cX7_sellMonth 42 = .ok (.aload_n 0, 1) := by decide +kernel
theorem dX7_sellMonth_43 : decode cX7_sellMonth 43 = .ok (.getfield 18, 3) := by decide +kernel
theorem dX7_sellMonth_46 : decode cX7_sellMonth 46 = .ok (.iconst 1, 1) := by decide +kernel
theorem dX7_sellMonth_47 : decode cX7_sellMonth 47 = .ok (.if_icmp .lt 29, 3) := by decide +kernel
theorem dX7_sellMonth_50 : decode cX7_sellMonth 50 = .ok (.iload_n 1, 1) := by decide +kernel
theorem dX7_sellMonth_51 : decode cX7_sellMonth 51 = .ok (.aload_n 0, 1) := by decide +kernel
theorem dX7_sellMonth_52 : decode cX7_sellMonth 52 = .ok (.getfield 18, 3) := by decide +kernel
theorem dX7_sellMonth_55 : decode cX7_sellMonth 55 = .ok (.if_icmp .lt 21, 3) := by decide +kernel
theorem dX7_sellMonth_58 : decode cX7_sellMonth 58 = .ok (.aload_n 0, 1) := by decide +kernel
theorem dX7_sellMonth_59 : decode cX7_sellMonth 59 = .ok (.bipush 99, 2) := by decide +kernel
theorem dX7_sellMonth_61 : decode cX7_sellMonth 61 = .ok (.aload_n 0, 1) := by decide +kernel
theorem dX7_sellMonth_62 : decode cX7_sellMonth 62 = .ok (.getfield 18, 3) := by decide +kernel
theorem dX7_sellMonth_65 : decode cX7_sellMonth 65 = .ok (.iconst 1, 1) := by decide +kernel
theorem dX7_sellMonth_66 : decode cX7_sellMonth 66 = .ok (.iadd, 1) := by decide +kernel
theorem dX7_sellMonth_67 : decode cX7_sellMonth 67 = .ok (.invokestatic 46, 3) := by decide +kernel
theorem dX7_sellMonth_70 : decode cX7_sellMonth 70 = .ok (.putfield 18, 3) := by decide +kernel
theorem dX7_sellMonth_73 : decode cX7_sellMonth 73 = .ok (.goto 21, 3) := by decide +kernel
theorem dX7_sellMonth_76 : decode cX7_sellMonth 76 = .ok (.iload_n 1, 1) := by decide +kernel
theorem dX7_sellMonth_77 : decode cX7_sellMonth 77 = .ok (.ifCond .ne 17, 3) := by decide +kernel
theorem dX7_sellMonth_80 : decode cX7_sellMonth 80 = .ok (.aload_n 0, 1) := by decide +kernel
theorem dX7_sellMonth_81 : decode cX7_sellMonth 81 = .ok (.iconst 0, 1) := by decide +kernel
theorem dX7_sellMonth_82 : decode cX7_sellMonth 82 = .ok (.aload_n 0, 1) := by decide +kernel
theorem dX7_sellMonth_83 : decode cX7_sellMonth 83 = .ok (.getfield 18, 3) := by decide +kernel
theorem dX7_sellMonth_86 : decode cX7_sellMonth 86 = .ok (.iconst 1, 1) := by decide +kernel
theorem dX7_sellMonth_87 : decode cX7_sellMonth 87 = .ok (.isub, 1) := by decide +kernel
theorem dX7_sellMonth_88 : decode cX7_sellMonth 88 = .ok (.invokestatic 51, 3) := by decide +kernel
theorem dX7_sellMonth_91 : decode cX7_sellMonth 91 = .ok (.putfield 18, 3) := by decide +kernel
theorem dX7_sellMonth_94 : decode cX7_sellMonth 94 = .ok (.iload_n 2, 1) := by decide +kernel
theorem dX7_sellMonth_95 : decode cX7_sellMonth 95 = .ok (.ireturn, 1) := by decide +kernel
