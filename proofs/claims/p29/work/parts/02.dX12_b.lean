theorem dX12_isInside_2 : decode cX12_isInside 2 = .ok (.iload_n 1, 1) := by decide +kernel
theorem dX12_isInside_3 : decode cX12_isInside 3 = .ok (.aload_n 0, 1) := by decide +kernel
theorem dX12_isInside_4 : decode cX12_isInside 4 = .ok (.getfield 151, 3) := by decide +kernel
theorem dX12_isInside_7 : decode cX12_isInside 7 = .ok (.if_icmp .ge 22, 3) := by decide +kernel
theorem dX12_isInside_10 : decode cX12_isInside 10 = .ok (.aload_n 0, 1) := by decide +kernel
theorem dX12_isInside_11 : decode cX12_isInside 11 = .ok (.getfield 29, 3) := by decide +kernel
theorem dX12_isInside_14 : decode cX12_isInside 14 = .ok (.iload_n 1, 1) := by decide +kernel
theorem dX12_isInside_15 : decode cX12_isInside 15 = .ok (.iaload, 1) := by decide +kernel
theorem dX12_isInside_16 : decode cX12_isInside 16 = .ok (.bipush 91, 2) := by decide +kernel
theorem dX12_isInside_18 : decode cX12_isInside 18 = .ok (.if_icmp .ne 5, 3) := by decide +kernel
theorem dX12_isInside_21 : decode cX12_isInside 21 = .ok (.iconst 1, 1) := by decide +kernel
theorem dX12_isInside_22 : decode cX12_isInside 22 = .ok (.ireturn, 1) := by decide +kernel
theorem dX12_isInside_23 : decode cX12_isInside 23 = .ok (.iinc 1 1, 3) := by decide +kernel
theorem dX12_isInside_26 : decode cX12_isInside 26 = .ok (.goto (-24), 3) := by decide +kernel
theorem dX12_isInside_29 : decode cX12_isInside 29 = .ok (.iconst 0, 1) := by decide +kernel
theorem dX12_isInside_30 : decode cX12_isInside 30 = .ok (.ireturn, 1) := by decide +kernel
theorem dX12_closes_0 : decode cX12_closes 0 = .ok (.aload_n 0, 1) := by decide +kernel
theorem dX12_closes_1 : decode cX12_closes 1 = .ok (.iconst 3, 1) := by decide +kernel
theorem dX12_closes_2 : decode cX12_closes 2 = .ok (.invokevirtual 190, 3) := by decide +kernel
theorem dX12_closes_5 : decode cX12_closes 5 = .ok (.aload_n 0, 1) := by decide +kernel
theorem dX12_closes_6 : decode cX12_closes 6 = .ok (.invokevirtual 87, 3) := by decide +kernel
theorem dX12_closes_9 : decode cX12_closes 9 = .ok (.bipush 93, 2) := by decide +kernel
theorem dX12_closes_11 : decode cX12_closes 11 = .ok (.if_icmp .ne 53, 3) := by decide +kernel
theorem dX12_closes_14 : decode cX12_closes 14 = .ok (.aload_n 0, 1) := by decide +kernel
theorem dX12_closes_15 : decode cX12_closes 15 = .ok (.invokevirtual 193, 3) := by decide +kernel
theorem dX12_closes_18 : decode cX12_closes 18 = .ok (.ifCond .eq 46, 3) := by decide +kernel
theorem dX12_closes_21 : decode cX12_closes 21 = .ok (.aload_n 0, 1) := by decide +kernel
theorem dX12_closes_22 : decode cX12_closes 22 = .ok (.iconst 1, 1) := by decide +kernel
theorem dX12_closes_23 : decode cX12_closes 23 = .ok (.invokevirtual 190, 3) := by decide +kernel
theorem dX12_closes_26 : decode cX12_closes 26 = .ok (.aload_n 0, 1) := by decide +kernel
theorem dX12_closes_27 : decode cX12_closes 27 = .ok (.dup, 1) := by decide +kernel
theorem dX12_closes_28 : decode cX12_closes 28 = .ok (.getfield 151, 3) := by decide +kernel
theorem dX12_closes_31 : decode cX12_closes 31 = .ok (.iconst 1, 1) := by decide +kernel
theorem dX12_closes_32 : decode cX12_closes 32 = .ok (.isub, 1) := by decide +kernel
theorem dX12_closes_33 : decode cX12_closes 33 = .ok (.putfield 151, 3) := by decide +kernel
theorem dX12_closes_36 : decode cX12_closes 36 = .ok (.aload_n 0, 1) := by decide +kernel
theorem dX12_closes_37 : decode cX12_closes 37 = .ok (.dup, 1) := by decide +kernel
theorem dX12_closes_38 : decode cX12_closes 38 = .ok (.getfield 148, 3) := by decide +kernel
theorem dX12_closes_41 : decode cX12_closes 41 = .ok (.iconst 1, 1) := by decide +kernel
theorem dX12_closes_42 : decode cX12_closes 42 = .ok (.isub, 1) := by decide +kernel
theorem dX12_closes_43 : decode cX12_closes 43 = .ok (.putfield 148, 3) := by decide +kernel
theorem dX12_closes_46 : decode cX12_closes 46 = .ok (.aload_n 0, 1) := by decide +kernel
theorem dX12_closes_47 : decode cX12_closes 47 = .ok (.dup, 1) := by decide +kernel
theorem dX12_closes_48 : decode cX12_closes 48 = .ok (.getfield 84, 3) := by decide +kernel
theorem dX12_closes_51 : decode cX12_closes 51 = .ok (.iconst 1, 1) := by decide +kernel
theorem dX12_closes_52 : decode cX12_closes 52 = .ok (.iadd, 1) := by decide +kernel
theorem dX12_closes_53 : decode cX12_closes 53 = .ok (.putfield 84, 3) := by decide +kernel
theorem dX12_closes_56 : decode cX12_closes 56 = .ok (.aload_n 0, 1) := by decide +kernel
theorem dX12_closes_57 : decode cX12_closes 57 = .ok (.iconst 3, 1) := by decide +kernel
theorem dX12_closes_58 : decode cX12_closes 58 = .ok (.invokevirtual 190, 3) := by decide +kernel
theorem dX12_closes_61 : decode cX12_closes 61 = .ok (.goto (-56), 3) := by decide +kernel
theorem dX12_closes_64 : decode cX12_closes 64 = .ok (.return_, 1) := by decide +kernel
theorem dX12_tested_0 : decode cX12_tested 0 = .ok (.aload_n 0, 1) := by decide +kernel
theorem dX12_tested_1 : decode cX12_tested 1 = .ok (.iconst 0, 1) := by decide +kernel
theorem dX12_tested_2 : decode cX12_tested 2 = .ok (.putfield 151, 3) := by decide +kernel
theorem dX12_tested_5 : decode cX12_tested 5 = .ok (.aload_n 0, 1) := by decide +kernel
theorem dX12_tested_6 : decode cX12_tested 6 = .ok (.iconst 0, 1) := by decide +kernel
theorem dX12_tested_7 : decode cX12_tested 7 = .ok (.putfield 148, 3) := by decide +kernel
theorem dX12_tested_10 : decode cX12_tested 10 = .ok (.iconst 1, 1) := by decide +kernel
theorem dX12_tested_11 : decode cX12_tested 11 = .ok (.istore_n 1, 1) := by decide +kernel
theorem dX12_tested_12 : decode cX12_tested 12 = .ok (.iload_n 1, 1) := by decide +kernel
theorem dX12_tested_13 : decode cX12_tested 13 = .ok (.ifCond .eq 99, 3) := by decide +kernel
theorem dX12_tested_16 : decode cX12_tested 16 = .ok (.aload_n 0, 1) := by decide +kernel
theorem dX12_tested_17 : decode cX12_tested 17 = .ok (.invokevirtual 196, 3) := by decide +kernel
theorem dX12_tested_20 : decode cX12_tested 20 = .ok (.ifCond .ne 5, 3) := by decide +kernel
theorem dX12_tested_23 : decode cX12_tested 23 = .ok (.iconst 0, 1) := by decide +kernel
theorem dX12_tested_24 : decode cX12_tested 24 = .ok (.ireturn, 1) := by decide +kernel
theorem dX12_tested_25 : decode cX12_tested 25 = .ok (.aload_n 0, 1) := by decide +kernel
theorem dX12_tested_26 : decode cX12_tested 26 = .ok (.invokevirtual 199, 3) := by decide +kernel
theorem dX12_tested_29 : decode cX12_tested 29 = .ok (.aload_n 0, 1) := by decide +kernel
theorem dX12_tested_30 : decode cX12_tested 30 = .ok (.ldc2_w 202, 3) := by decide +kernel
theorem dX12_tested_33 : decode cX12_tested 33 = .ok (.invokevirtual 95, 3) := by decide +kernel
theorem dX12_tested_36 : decode cX12_tested 36 = .ok (.ifCond .ne 13, 3) := by decide +kernel
theorem dX12_tested_39 : decode cX12_tested 39 = .ok (.aload_n 0, 1) := by decide +kernel
theorem dX12_tested_40 : decode cX12_tested 40 = .ok (.ldc2_w 204, 3) := by decide +kernel
theorem dX12_tested_43 : decode cX12_tested 43 = .ok (.invokevirtual 95, 3) := by decide +kernel
theorem dX12_tested_46 : decode cX12_tested 46 = .ok (.ifCond .eq 7, 3) := by decide +kernel
theorem dX12_tested_49 : decode cX12_tested 49 = .ok (.iconst 1, 1) := by decide +kernel
theorem dX12_tested_50 : decode cX12_tested 50 = .ok (.goto 4, 3) := by decide +kernel
theorem dX12_tested_53 : decode cX12_tested 53 = .ok (.iconst 0, 1) := by decide +kernel
theorem dX12_tested_54 : decode cX12_tested 54 = .ok (.istore_n 1, 1) := by decide +kernel
theorem dX12_tested_55 : decode cX12_tested 55 = .ok (.iload_n 1, 1) := by decide +kernel
theorem dX12_tested_56 : decode cX12_tested 56 = .ok (.ifCond .eq (-44), 3) := by decide +kernel
theorem dX12_tested_59 : decode cX12_tested 59 = .ok (.aload_n 0, 1) := by decide +kernel
theorem dX12_tested_60 : decode cX12_tested 60 = .ok (.ldc2_w 202, 3) := by decide +kernel
theorem dX12_tested_63 : decode cX12_tested 63 = .ok (.invokevirtual 95, 3) := by decide +kernel
theorem dX12_tested_66 : decode cX12_tested 66 = .ok (.ifCond .eq 8, 3) := by decide +kernel
theorem dX12_tested_69 : decode cX12_tested 69 = .ok (.bipush 12, 2) := by decide +kernel
theorem dX12_tested_71 : decode cX12_tested 71 = .ok (.goto 5, 3) := by decide +kernel
theorem dX12_tested_74 : decode cX12_tested 74 = .ok (.bipush 13, 2) := by decide +kernel
theorem dX12_tested_76 : decode cX12_tested 76 = .ok (.istore_n 2, 1) := by decide +kernel
theorem dX12_tested_77 : decode cX12_tested 77 = .ok (.aload_n 0, 1) := by decide +kernel
theorem dX12_tested_78 : decode cX12_tested 78 = .ok (.invokevirtual 99, 3) := by decide +kernel
theorem dX12_tested_81 : decode cX12_tested 81 = .ok (.aload_n 0, 1) := by decide +kernel
theorem dX12_tested_82 : decode cX12_tested 82 = .ok (.iload_n 2, 1) := by decide +kernel
theorem dX12_tested_83 : decode cX12_tested 83 = .ok (.invokestatic 154, 3) := by decide +kernel
theorem dX12_tested_86 : decode cX12_tested 86 = .ok (.invokevirtual 190, 3) := by decide +kernel
theorem dX12_tested_89 : decode cX12_tested 89 = .ok (.aload_n 0, 1) := by decide +kernel
theorem dX12_tested_90 : decode cX12_tested 90 = .ok (.getfield 29, 3) := by decide +kernel
theorem dX12_tested_93 : decode cX12_tested 93 = .ok (.aload_n 0, 1) := by decide +kernel
theorem dX12_tested_94 : decode cX12_tested 94 = .ok (.getfield 151, 3) := by decide +kernel
theorem dX12_tested_97 : decode cX12_tested 97 = .ok (.iload_n 2, 1) := by decide +kernel
theorem dX12_tested_98 : decode cX12_tested 98 = .ok (.iastore, 1) := by decide +kernel
theorem dX12_tested_99 : decode cX12_tested 99 = .ok (.aload_n 0, 1) := by decide +kernel
theorem dX12_tested_100 : decode cX12_tested 100 = .ok (.dup, 1) := by decide +kernel
theorem dX12_tested_101 : decode cX12_tested 101 = .ok (.getfield 151, 3) := by decide +kernel
theorem dX12_tested_104 : decode cX12_tested 104 = .ok (.iconst 1, 1) := by decide +kernel
theorem dX12_tested_105 : decode cX12_tested 105 = .ok (.iadd, 1) := by decide +kernel
theorem dX12_tested_106 : decode cX12_tested 106 = .ok (.putfield 151, 3) := by decide +kernel
theorem dX12_tested_109 : decode cX12_tested 109 = .ok (.goto (-97), 3) := by decide +kernel
theorem dX12_tested_112 : decode cX12_tested 112 = .ok (.aload_n 0, 1) := by decide +kernel
theorem dX12_tested_113 : decode cX12_tested 113 = .ok (.invokevirtual 193, 3) := by decide +kernel
theorem dX12_tested_116 : decode cX12_tested 116 = .ok (.ifCond .eq 18, 3) := by decide +kernel
theorem dX12_tested_119 : decode cX12_tested 119 = .ok (.aload_n 0, 1) := by decide +kernel
theorem dX12_tested_120 : decode cX12_tested 120 = .ok (.invokevirtual 87, 3) := by decide +kernel
theorem dX12_tested_123 : decode cX12_tested 123 = .ok (.pop, 1) := by decide +kernel
theorem dX12_tested_124 : decode cX12_tested 124 = .ok (.aload_n 0, 1) := by decide +kernel
theorem dX12_tested_125 : decode cX12_tested 125 = .ok (.iconst 0, 1) := by decide +kernel
theorem dX12_tested_126 : decode cX12_tested 126 = .ok (.aload_n 0, 1) := by decide +kernel
theorem dX12_tested_127 : decode cX12_tested 127 = .ok (.getfield 84, 3) := by decide +kernel
theorem dX12_tested_130 : decode cX12_tested 130 = .ok (.invokevirtual 105, 3) := by decide +kernel
theorem dX12_tested_133 : decode cX12_tested 133 = .ok (.ireturn, 1) := by decide +kernel
theorem dX12_tested_134 : decode cX12_tested 134 = .ok (.aload_n 0, 1) := by decide +kernel
theorem dX12_tested_135 : decode cX12_tested 135 = .ok (.iconst 1, 1) := by decide +kernel
theorem dX12_tested_136 : decode cX12_tested 136 = .ok (.invokevirtual 190, 3) := by decide +kernel
theorem dX12_tested_139 : decode cX12_tested 139 = .ok (.iconst 1, 1) := by decide +kernel
theorem dX12_tested_140 : decode cX12_tested 140 = .ok (.ireturn, 1) := by decide +kernel
theorem dX12_isSailHere_0 : decode cX12_isSailHere 0 = .ok (.aload_n 0, 1) := by decide +kernel
theorem dX12_isSailHere_1 : decode cX12_isSailHere 1 = .ok (.invokevirtual 99, 3) := by decide +kernel
theorem dX12_isSailHere_4 : decode cX12_isSailHere 4 = .ok (.bipush 48, 2) := by decide +kernel
theorem dX12_isSailHere_6 : decode cX12_isSailHere 6 = .ok (.aload_n 0, 1) := by decide +kernel
theorem dX12_isSailHere_7 : decode cX12_isSailHere 7 = .ok (.getfield 142, 3) := by decide +kernel
theorem dX12_isSailHere_10 : decode cX12_isSailHere 10 = .ok (.imul, 1) := by decide +kernel
theorem dX12_isSailHere_11 : decode cX12_isSailHere 11 = .ok (.iconst 4, 1) := by decide +kernel
theorem dX12_isSailHere_12 : decode cX12_isSailHere 12 = .ok (.aload_n 0, 1) := by decide +kernel
theorem dX12_isSailHere_13 : decode cX12_isSailHere 13 = .ok (.getfield 23, 3) := by decide +kernel
theorem dX12_isSailHere_16 : decode cX12_isSailHere 16 = .ok (.aload_n 0, 1) := by decide +kernel
theorem dX12_isSailHere_17 : decode cX12_isSailHere 17 = .ok (.getfield 142, 3) := by decide +kernel
theorem dX12_isSailHere_20 : decode cX12_isSailHere 20 = .ok (.iaload, 1) := by decide +kernel
theorem dX12_isSailHere_21 : decode cX12_isSailHere 21 = .ok (.imul, 1) := by decide +kernel
theorem dX12_isSailHere_22 : decode cX12_isSailHere 22 = .ok (.iadd, 1) := by decide +kernel
theorem dX12_isSailHere_23 : decode cX12_isSailHere 23 = .ok (.istore_n 1, 1) := by decide +kernel
theorem dX12_isSailHere_24 : decode cX12_isSailHere 24 = .ok (.aload_n 0, 1) := by decide +kernel
theorem dX12_isSailHere_25 : decode cX12_isSailHere 25 = .ok (.getfield 20, 3) := by decide +kernel
theorem dX12_isSailHere_28 : decode cX12_isSailHere 28 = .ok (.iload_n 1, 1) := by decide +kernel
theorem dX12_isSailHere_29 : decode cX12_isSailHere 29 = .ok (.aload_n 0, 1) := by decide +kernel
theorem dX12_isSailHere_30 : decode cX12_isSailHere 30 = .ok (.getfield 17, 3) := by decide +kernel
theorem dX12_isSailHere_33 : decode cX12_isSailHere 33 = .ok (.aload_n 0, 1) := by decide +kernel
theorem dX12_isSailHere_34 : decode cX12_isSailHere 34 = .ok (.getfield 142, 3) := by decide +kernel
theorem dX12_isSailHere_37 : decode cX12_isSailHere 37 = .ok (.iaload, 1) := by decide +kernel
theorem dX12_isSailHere_38 : decode cX12_isSailHere 38 = .ok (.iastore, 1) := by decide +kernel
theorem dX12_isSailHere_39 : decode cX12_isSailHere 39 = .ok (.aload_n 0, 1) := by decide +kernel
theorem dX12_isSailHere_40 : decode cX12_isSailHere 40 = .ok (.invokevirtual 179, 3) := by decide +kernel
theorem dX12_isSailHere_43 : decode cX12_isSailHere 43 = .ok (.ifCond .ne 5, 3) := by decide +kernel
theorem dX12_isSailHere_46 : decode cX12_isSailHere 46 = .ok (.iconst 0, 1) := by decide +kernel
theorem dX12_isSailHere_47 : decode cX12_isSailHere 47 = .ok (.ireturn, 1) := by decide +kernel
theorem dX12_isSailHere_48 : decode cX12_isSailHere 48 = .ok (.aload_n 0, 1) := by decide +kernel
theorem dX12_isSailHere_49 : decode cX12_isSailHere 49 = .ok (.getfield 20, 3) := by decide +kernel
theorem dX12_isSailHere_52 : decode cX12_isSailHere 52 = .ok (.iload_n 1, 1) := by decide +kernel
theorem dX12_isSailHere_53 : decode cX12_isSailHere 53 = .ok (.iconst 1, 1) := by decide +kernel
theorem dX12_isSailHere_54 : decode cX12_isSailHere 54 = .ok (.iadd, 1) := by decide +kernel
theorem dX12_isSailHere_55 : decode cX12_isSailHere 55 = .ok (.aload_n 0, 1) := by decide +kernel
theorem dX12_isSailHere_56 : decode cX12_isSailHere 56 = .ok (.getfield 17, 3) := by decide +kernel
theorem dX12_isSailHere_59 : decode cX12_isSailHere 59 = .ok (.aload_n 0, 1) := by decide +kernel
theorem dX12_isSailHere_60 : decode cX12_isSailHere 60 = .ok (.getfield 142, 3) := by decide +kernel
theorem dX12_isSailHere_63 : decode cX12_isSailHere 63 = .ok (.iaload, 1) := by decide +kernel
theorem dX12_isSailHere_64 : decode cX12_isSailHere 64 = .ok (.iastore, 1) := by decide +kernel
theorem dX12_isSailHere_65 : decode cX12_isSailHere 65 = .ok (.aload_n 0, 1) := by decide +kernel
theorem dX12_isSailHere_66 : decode cX12_isSailHere 66 = .ok (.getfield 20, 3) := by decide +kernel
theorem dX12_isSailHere_69 : decode cX12_isSailHere 69 = .ok (.iload_n 1, 1) := by decide +kernel
theorem dX12_isSailHere_70 : decode cX12_isSailHere 70 = .ok (.iconst 2, 1) := by decide +kernel
theorem dX12_isSailHere_71 : decode cX12_isSailHere 71 = .ok (.iadd, 1) := by decide +kernel
theorem dX12_isSailHere_72 : decode cX12_isSailHere 72 = .ok (.iconst (-1), 1) := by decide +kernel
theorem dX12_isSailHere_73 : decode cX12_isSailHere 73 = .ok (.iastore, 1) := by decide +kernel
theorem dX12_isSailHere_74 : decode cX12_isSailHere 74 = .ok (.aload_n 0, 1) := by decide +kernel
theorem dX12_isSailHere_75 : decode cX12_isSailHere 75 = .ok (.ldc2_w 206, 3) := by decide +kernel
theorem dX12_isSailHere_78 : decode cX12_isSailHere 78 = .ok (.invokevirtual 208, 3) := by decide +kernel
theorem dX12_isSailHere_81 : decode cX12_isSailHere 81 = .ok (.ifCond .eq 29, 3) := by decide +kernel
theorem dX12_isSailHere_84 : decode cX12_isSailHere 84 = .ok (.aload_n 0, 1) := by decide +kernel
theorem dX12_isSailHere_85 : decode cX12_isSailHere 85 = .ok (.getfield 20, 3) := by decide +kernel
theorem dX12_isSailHere_88 : decode cX12_isSailHere 88 = .ok (.iload_n 1, 1) := by decide +kernel
theorem dX12_isSailHere_89 : decode cX12_isSailHere 89 = .ok (.iconst 2, 1) := by decide +kernel
theorem dX12_isSailHere_90 : decode cX12_isSailHere 90 = .ok (.iadd, 1) := by decide +kernel
theorem dX12_isSailHere_91 : decode cX12_isSailHere 91 = .ok (.aload_n 0, 1) := by decide +kernel
theorem dX12_isSailHere_92 : decode cX12_isSailHere 92 = .ok (.getfield 17, 3) := by decide +kernel
theorem dX12_isSailHere_95 : decode cX12_isSailHere 95 = .ok (.aload_n 0, 1) := by decide +kernel
theorem dX12_isSailHere_96 : decode cX12_isSailHere 96 = .ok (.getfield 142, 3) := by decide +kernel
theorem dX12_isSailHere_99 : decode cX12_isSailHere 99 = .ok (.iaload, 1) := by decide +kernel
theorem dX12_isSailHere_100 : decode cX12_isSailHere 100 = .ok (.iastore, 1) := by decide +kernel
theorem dX12_isSailHere_101 : decode cX12_isSailHere 101 = .ok (.aload_n 0, 1) := by decide +kernel
theorem dX12_isSailHere_102 : decode cX12_isSailHere 102 = .ok (.invokevirtual 211, 3) := by decide +kernel
theorem dX12_isSailHere_105 : decode cX12_isSailHere 105 = .ok (.ifCond .ne 5, 3) := by decide +kernel
theorem dX12_isSailHere_108 : decode cX12_isSailHere 108 = .ok (.iconst 0, 1) := by decide +kernel
theorem dX12_isSailHere_109 : decode cX12_isSailHere 109 = .ok (.ireturn, 1) := by decide +kernel
theorem dX12_isSailHere_110 : decode cX12_isSailHere 110 = .ok (.aload_n 0, 1) := by decide +kernel
theorem dX12_isSailHere_111 : decode cX12_isSailHere 111 = .ok (.getfield 20, 3) := by decide +kernel
theorem dX12_isSailHere_114 : decode cX12_isSailHere 114 = .ok (.iload_n 1, 1) := by decide +kernel
theorem dX12_isSailHere_115 : decode cX12_isSailHere 115 = .ok (.iconst 3, 1) := by decide +kernel
theorem dX12_isSailHere_116 : decode cX12_isSailHere 116 = .ok (.iadd, 1) := by decide +kernel
theorem dX12_isSailHere_117 : decode cX12_isSailHere 117 = .ok (.aload_n 0, 1) := by decide +kernel
theorem dX12_isSailHere_118 : decode cX12_isSailHere 118 = .ok (.getfield 17, 3) := by decide +kernel
theorem dX12_isSailHere_121 : decode cX12_isSailHere 121 = .ok (.aload_n 0, 1) := by decide +kernel
theorem dX12_isSailHere_122 : decode cX12_isSailHere 122 = .ok (.getfield 142, 3) := by decide +kernel
theorem dX12_isSailHere_125 : decode cX12_isSailHere 125 = .ok (.iaload, 1) := by decide +kernel
theorem dX12_isSailHere_126 : decode cX12_isSailHere 126 = .ok (.iastore, 1) := by decide +kernel
theorem dX12_isSailHere_127 : decode cX12_isSailHere 127 = .ok (.aload_n 0, 1) := by decide +kernel
theorem dX12_isSailHere_128 : decode cX12_isSailHere 128 = .ok (.getfield 23, 3) := by decide +kernel
theorem dX12_isSailHere_131 : decode cX12_isSailHere 131 = .ok (.aload_n 0, 1) := by decide +kernel
theorem dX12_isSailHere_132 : decode cX12_isSailHere 132 = .ok (.getfield 142, 3) := by decide +kernel
theorem dX12_isSailHere_135 : decode cX12_isSailHere 135 = .ok (.dup2, 1) := by decide +kernel
theorem dX12_isSailHere_136 : decode cX12_isSailHere 136 = .ok (.iaload, 1) := by decide +kernel
theorem dX12_isSailHere_137 : decode cX12_isSailHere 137 = .ok (.iconst 1, 1) := by decide +kernel
theorem dX12_isSailHere_138 : decode cX12_isSailHere 138 = .ok (.iadd, 1) := by decide +kernel
theorem dX12_isSailHere_139 : decode cX12_isSailHere 139 = .ok (.iastore, 1) := by decide +kernel
theorem dX12_isSailHere_140 : decode cX12_isSailHere 140 = .ok (.iconst 1, 1) := by decide +kernel
theorem dX12_isSailHere_141 : decode cX12_isSailHere 141 = .ok (.ireturn, 1) := by decide +kernel
theorem dX12_cellHere_0 : decode cX12_cellHere 0 = .ok (.aload_n 0, 1) := by decide +kernel
theorem dX12_cellHere_1 : decode cX12_cellHere 1 = .ok (.iload_n 2, 1) := by decide +kernel
theorem dX12_cellHere_2 : decode cX12_cellHere 2 = .ok (.iload_n 3, 1) := by decide +kernel
theorem dX12_cellHere_3 : decode cX12_cellHere 3 = .ok (.invokevirtual 163, 3) := by decide +kernel
theorem dX12_cellHere_6 : decode cX12_cellHere 6 = .ok (.ifCond .ne 5, 3) := by decide +kernel
theorem dX12_cellHere_9 : decode cX12_cellHere 9 = .ok (.iconst 0, 1) := by decide +kernel
theorem dX12_cellHere_10 : decode cX12_cellHere 10 = .ok (.ireturn, 1) := by decide +kernel
theorem dX12_cellHere_11 : decode cX12_cellHere 11 = .ok (.aload_n 0, 1) := by decide +kernel
theorem dX12_cellHere_12 : decode cX12_cellHere 12 = .ok (.getfield 26, 3) := by decide +kernel
theorem dX12_cellHere_15 : decode cX12_cellHere 15 = .ok (.iload_n 1, 1) := by decide +kernel
theorem dX12_cellHere_16 : decode cX12_cellHere 16 = .ok (.aload_n 0, 1) := by decide +kernel
theorem dX12_cellHere_17 : decode cX12_cellHere 17 = .ok (.getfield 109, 3) := by decide +kernel
theorem dX12_cellHere_20 : decode cX12_cellHere 20 = .ok (.iastore, 1) := by decide +kernel
theorem dX12_cellHere_21 : decode cX12_cellHere 21 = .ok (.iconst 1, 1) := by decide +kernel
theorem dX12_cellHere_22 : decode cX12_cellHere 22 = .ok (.ireturn, 1) := by decide +kernel
theorem dX12_isTradeHere_0 : decode cX12_isTradeHere 0 = .ok (.aload_n 0, 1) := by decide +kernel
theorem dX12_isTradeHere_1 : decode cX12_isTradeHere 1 = .ok (.getfield 26, 3) := by decide +kernel
theorem dX12_isTradeHere_4 : decode cX12_isTradeHere 4 = .ok (.iconst 0, 1) := by decide +kernel
theorem dX12_isTradeHere_5 : decode cX12_isTradeHere 5 = .ok (.iaload, 1) := by decide +kernel
theorem dX12_isTradeHere_6 : decode cX12_isTradeHere 6 = .ok (.ifCond .le 10, 3) := by decide +kernel
theorem dX12_isTradeHere_9 : decode cX12_isTradeHere 9 = .ok (.aload_n 0, 1) := by decide +kernel
theorem dX12_isTradeHere_10 : decode cX12_isTradeHere 10 = .ok (.iconst 4, 1) := by decide +kernel
theorem dX12_isTradeHere_11 : decode cX12_isTradeHere 11 = .ok (.iload_n 1, 1) := by decide +kernel
theorem dX12_isTradeHere_12 : decode cX12_isTradeHere 12 = .ok (.invokevirtual 105, 3) := by decide +kernel
theorem dX12_isTradeHere_15 : decode cX12_isTradeHere 15 = .ok (.ireturn, 1) := by decide +kernel
theorem dX12_isTradeHere_16 : decode cX12_isTradeHere 16 = .ok (.aload_n 0, 1) := by decide +kernel
theorem dX12_isTradeHere_17 : decode cX12_isTradeHere 17 = .ok (.invokevirtual 99, 3) := by decide +kernel
theorem dX12_isTradeHere_20 : decode cX12_isTradeHere 20 = .ok (.aload_n 0, 1) := by decide +kernel
theorem dX12_isTradeHere_21 : decode cX12_isTradeHere 21 = .ok (.bipush 71, 2) := by decide +kernel
theorem dX12_isTradeHere_23 : decode cX12_isTradeHere 23 = .ok (.iconst 0, 1) := by decide +kernel
theorem dX12_isTradeHere_24 : decode cX12_isTradeHere 24 = .ok (.sipush 9999, 3) := by decide +kernel
theorem dX12_isTradeHere_27 : decode cX12_isTradeHere 27 = .ok (.invokevirtual 214, 3) := by decide +kernel
theorem dX12_isTradeHere_30 : decode cX12_isTradeHere 30 = .ok (.ifCond .eq 27, 3) := by decide +kernel
theorem dX12_isTradeHere_33 : decode cX12_isTradeHere 33 = .ok (.aload_n 0, 1) := by decide +kernel
theorem dX12_isTradeHere_34 : decode cX12_isTradeHere 34 = .ok (.iconst 1, 1) := by decide +kernel
theorem dX12_isTradeHere_35 : decode cX12_isTradeHere 35 = .ok (.iconst 0, 1) := by decide +kernel
theorem dX12_isTradeHere_36 : decode cX12_isTradeHere 36 = .ok (.bipush 20, 2) := by decide +kernel
theorem dX12_isTradeHere_38 : decode cX12_isTradeHere 38 = .ok (.invokevirtual 214, 3) := by decide +kernel
theorem dX12_isTradeHere_41 : decode cX12_isTradeHere 41 = .ok (.ifCond .eq 16, 3) := by decide +kernel
theorem dX12_isTradeHere_44 : decode cX12_isTradeHere 44 = .ok (.aload_n 0, 1) := by decide +kernel
theorem dX12_isTradeHere_45 : decode cX12_isTradeHere 45 = .ok (.bipush 72, 2) := by decide +kernel
theorem dX12_isTradeHere_47 : decode cX12_isTradeHere 47 = .ok (.iconst 0, 1) := by decide +kernel
theorem dX12_isTradeHere_48 : decode cX12_isTradeHere 48 = .ok (.sipush 999, 3) := by decide +kernel
theorem dX12_isTradeHere_51 : decode cX12_isTradeHere 51 = .ok (.invokevirtual 214, 3) := by decide +kernel
theorem dX12_isTradeHere_54 : decode cX12_isTradeHere 54 = .ok (.ifCond .ne 5, 3) := by decide +kernel
theorem dX12_isTradeHere_57 : decode cX12_isTradeHere 57 = .ok (.iconst 0, 1) := by decide +kernel
theorem dX12_isTradeHere_58 : decode cX12_isTradeHere 58 = .ok (.ireturn, 1) := by decide +kernel
theorem dX12_isTradeHere_59 : decode cX12_isTradeHere 59 = .ok (.aload_n 0, 1) := by decide +kernel
theorem dX12_isTradeHere_60 : decode cX12_isTradeHere 60 = .ok (.getfield 26, 3) := by decide +kernel
theorem dX12_isTradeHere_63 : decode cX12_isTradeHere 63 = .ok (.iconst 0, 1) := by decide +kernel
theorem dX12_isTradeHere_64 : decode cX12_isTradeHere 64 = .ok (.iconst 1, 1) := by decide +kernel
theorem dX12_isTradeHere_65 : decode cX12_isTradeHere 65 = .ok (.iastore, 1) := by decide +kernel
theorem dX12_isTradeHere_66 : decode cX12_isTradeHere 66 = .ok (.iconst 1, 1) := by decide +kernel
theorem dX12_isTradeHere_67 : decode cX12_isTradeHere 67 = .ok (.ireturn, 1) := by decide +kernel
theorem dX12_isFrostHere_0 : decode cX12_isFrostHere 0 = .ok (.aload_n 0, 1) := by decide +kernel
theorem dX12_isFrostHere_1 : decode cX12_isFrostHere 1 = .ok (.invokevirtual 99, 3) := by decide +kernel
theorem dX12_isFrostHere_4 : decode cX12_isFrostHere 4 = .ok (.aload_n 0, 1) := by decide +kernel
theorem dX12_isFrostHere_5 : decode cX12_isFrostHere 5 = .ok (.iconst 0, 1) := by decide +kernel
theorem dX12_isFrostHere_6 : decode cX12_isFrostHere 6 = .ok (.bipush 11, 2) := by decide +kernel
theorem dX12_isFrostHere_8 : decode cX12_isFrostHere 8 = .ok (.invokevirtual 163, 3) := by decide +kernel
theorem dX12_isFrostHere_11 : decode cX12_isFrostHere 11 = .ok (.ifCond .ne 5, 3) := by decide +kernel
theorem dX12_isFrostHere_14 : decode cX12_isFrostHere 14 = .ok (.iconst 0, 1) := by decide +kernel
theorem dX12_isFrostHere_15 : decode cX12_isFrostHere 15 = .ok (.ireturn, 1) := by decide +kernel
theorem dX12_isFrostHere_16 : decode cX12_isFrostHere 16 = .ok (.aload_n 0, 1) := by decide +kernel
theorem dX12_isFrostHere_17 : decode cX12_isFrostHere 17 = .ok (.bipush 45, 2) := by decide +kernel
theorem dX12_isFrostHere_19 : decode cX12_isFrostHere 19 = .ok (.aload_n 0, 1) := by decide +kernel
theorem dX12_isFrostHere_20 : decode cX12_isFrostHere 20 = .ok (.getfield 109, 3) := by decide +kernel
theorem dX12_isFrostHere_23 : decode cX12_isFrostHere 23 = .ok (.iadd, 1) := by decide +kernel
theorem dX12_isFrostHere_24 : decode cX12_isFrostHere 24 = .ok (.iconst 1, 1) := by decide +kernel
theorem dX12_isFrostHere_25 : decode cX12_isFrostHere 25 = .ok (.bipush 99, 2) := by decide +kernel
theorem dX12_isFrostHere_27 : decode cX12_isFrostHere 27 = .ok (.invokevirtual 214, 3) := by decide +kernel
theorem dX12_isFrostHere_30 : decode cX12_isFrostHere 30 = .ok (.ireturn, 1) := by decide +kernel
theorem dX12_isShipHere_0 : decode cX12_isShipHere 0 = .ok (.aload_n 0, 1) := by decide +kernel
theorem dX12_isShipHere_1 : decode cX12_isShipHere 1 = .ok (.getfield 26, 3) := by decide +kernel
theorem dX12_isShipHere_4 : decode cX12_isShipHere 4 = .ok (.iconst 2, 1) := by decide +kernel
theorem dX12_isShipHere_5 : decode cX12_isShipHere 5 = .ok (.iaload, 1) := by decide +kernel
theorem dX12_isShipHere_6 : decode cX12_isShipHere 6 = .ok (.iconst 3, 1) := by decide +kernel
theorem dX12_isShipHere_7 : decode cX12_isShipHere 7 = .ok (.if_icmp .ne 10, 3) := by decide +kernel
theorem dX12_isShipHere_10 : decode cX12_isShipHere 10 = .ok (.aload_n 0, 1) := by decide +kernel
theorem dX12_isShipHere_11 : decode cX12_isShipHere 11 = .ok (.iconst 4, 1) := by decide +kernel
theorem dX12_isShipHere_12 : decode cX12_isShipHere 12 = .ok (.iload_n 1, 1) := by decide +kernel
theorem dX12_isShipHere_13 : decode cX12_isShipHere 13 = .ok (.invokevirtual 105, 3) := by decide +kernel
theorem dX12_isShipHere_16 : decode cX12_isShipHere 16 = .ok (.ireturn, 1) := by decide +kernel
theorem dX12_isShipHere_17 : decode cX12_isShipHere 17 = .ok (.aload_n 0, 1) := by decide +kernel
theorem dX12_isShipHere_18 : decode cX12_isShipHere 18 = .ok (.invokevirtual 99, 3) := by decide +kernel
theorem dX12_isShipHere_21 : decode cX12_isShipHere 21 = .ok (.bipush 57, 2) := by decide +kernel
theorem dX12_isShipHere_23 : decode cX12_isShipHere 23 = .ok (.iconst 2, 1) := by decide +kernel
theorem dX12_isShipHere_24 : decode cX12_isShipHere 24 = .ok (.aload_n 0, 1) := by decide +kernel
theorem dX12_isShipHere_25 : decode cX12_isShipHere 25 = .ok (.getfield 26, 3) := by decide +kernel
theorem dX12_isShipHere_28 : decode cX12_isShipHere 28 = .ok (.iconst 2, 1) := by decide +kernel
theorem dX12_isShipHere_29 : decode cX12_isShipHere 29 = .ok (.iaload, 1) := by decide +kernel
theorem dX12_isShipHere_30 : decode cX12_isShipHere 30 = .ok (.imul, 1) := by decide +kernel
theorem dX12_isShipHere_31 : decode cX12_isShipHere 31 = .ok (.iadd, 1) := by decide +kernel
theorem dX12_isShipHere_32 : decode cX12_isShipHere 32 = .ok (.istore_n 2, 1) := by decide +kernel
theorem dX12_isShipHere_33 : decode cX12_isShipHere 33 = .ok (.aload_n 0, 1) := by decide +kernel
theorem dX12_isShipHere_34 : decode cX12_isShipHere 34 = .ok (.iload_n 2, 1) := by decide +kernel
theorem dX12_isShipHere_35 : decode cX12_isShipHere 35 = .ok (.iconst 1, 1) := by decide +kernel
theorem dX12_isShipHere_36 : decode cX12_isShipHere 36 = .ok (.bipush 99, 2) := by decide +kernel
theorem dX12_isShipHere_38 : decode cX12_isShipHere 38 = .ok (.invokevirtual 214, 3) := by decide +kernel
theorem dX12_isShipHere_41 : decode cX12_isShipHere 41 = .ok (.ifCond .eq 16, 3) := by decide +kernel
theorem dX12_isShipHere_44 : decode cX12_isShipHere 44 = .ok (.aload_n 0, 1) := by decide +kernel
theorem dX12_isShipHere_45 : decode cX12_isShipHere 45 = .ok (.iload_n 2, 1) := by decide +kernel
theorem dX12_isShipHere_46 : decode cX12_isShipHere 46 = .ok (.iconst 1, 1) := by decide +kernel
theorem dX12_isShipHere_47 : decode cX12_isShipHere 47 = .ok (.iadd, 1) := by decide +kernel
theorem dX12_isShipHere_48 : decode cX12_isShipHere 48 = .ok (.iconst 0, 1) := by decide +kernel
theorem dX12_isShipHere_49 : decode cX12_isShipHere 49 = .ok (.bipush 99, 2) := by decide +kernel
theorem dX12_isShipHere_51 : decode cX12_isShipHere 51 = .ok (.invokevirtual 214, 3) := by decide +kernel
theorem dX12_isShipHere_54 : decode cX12_isShipHere 54 = .ok (.ifCond .ne 5, 3) := by decide +kernel
theorem dX12_isShipHere_57 : decode cX12_isShipHere 57 = .ok (.iconst 0, 1) := by decide +kernel
theorem dX12_isShipHere_58 : decode cX12_isShipHere 58 = .ok (.ireturn, 1) := by decide +kernel
theorem dX12_isShipHere_59 : decode cX12_isShipHere 59 = .ok (.aload_n 0, 1) := by decide +kernel
theorem dX12_isShipHere_60 : decode cX12_isShipHere 60 = .ok (.getfield 26, 3) := by decide +kernel
theorem dX12_isShipHere_63 : decode cX12_isShipHere 63 = .ok (.iconst 2, 1) := by decide +kernel
theorem dX12_isShipHere_64 : decode cX12_isShipHere 64 = .ok (.dup2, 1) := by decide +kernel
theorem dX12_isShipHere_65 : decode cX12_isShipHere 65 = .ok (.iaload, 1) := by decide +kernel
theorem dX12_isShipHere_66 : decode cX12_isShipHere 66 = .ok (.iconst 1, 1) := by decide +kernel
theorem dX12_isShipHere_67 : decode cX12_isShipHere 67 = .ok (.iadd, 1) := by decide +kernel
theorem dX12_isShipHere_68 : decode cX12_isShipHere 68 = .ok (.iastore, 1) := by decide +kernel
theorem dX12_isShipHere_69 : decode cX12_isShipHere 69 = .ok (.iconst 1, 1) := by decide +kernel
theorem dX12_isShipHere_70 : decode cX12_isShipHere 70 = .ok (.ireturn, 1) := by decide +kernel
theorem dX12_isTownHere_0 : decode cX12_isTownHere 0 = .ok (.aload_n 0, 1) := by decide +kernel
theorem dX12_isTownHere_1 : decode cX12_isTownHere 1 = .ok (.getfield 26, 3) := by decide +kernel
theorem dX12_isTownHere_4 : decode cX12_isTownHere 4 = .ok (.iconst 3, 1) := by decide +kernel
theorem dX12_isTownHere_5 : decode cX12_isTownHere 5 = .ok (.iaload, 1) := by decide +kernel
theorem dX12_isTownHere_6 : decode cX12_isTownHere 6 = .ok (.iconst 4, 1) := by decide +kernel
theorem dX12_isTownHere_7 : decode cX12_isTownHere 7 = .ok (.if_icmp .ne 10, 3) := by decide +kernel
theorem dX12_isTownHere_10 : decode cX12_isTownHere 10 = .ok (.aload_n 0, 1) := by decide +kernel
theorem dX12_isTownHere_11 : decode cX12_isTownHere 11 = .ok (.iconst 4, 1) := by decide +kernel
theorem dX12_isTownHere_12 : decode cX12_isTownHere 12 = .ok (.iload_n 1, 1) := by decide +kernel
theorem dX12_isTownHere_13 : decode cX12_isTownHere 13 = .ok (.invokevirtual 105, 3) := by decide +kernel
theorem dX12_isTownHere_16 : decode cX12_isTownHere 16 = .ok (.ireturn, 1) := by decide +kernel
theorem dX12_isTownHere_17 : decode cX12_isTownHere 17 = .ok (.aload_n 0, 1) := by decide +kernel
theorem dX12_isTownHere_18 : decode cX12_isTownHere 18 = .ok (.invokevirtual 99, 3) := by decide +kernel
theorem dX12_isTownHere_21 : decode cX12_isTownHere 21 = .ok (.bipush 63, 2) := by decide +kernel
theorem dX12_isTownHere_23 : decode cX12_isTownHere 23 = .ok (.iconst 2, 1) := by decide +kernel
theorem dX12_isTownHere_24 : decode cX12_isTownHere 24 = .ok (.aload_n 0, 1) := by decide +kernel
theorem dX12_isTownHere_25 : decode cX12_isTownHere 25 = .ok (.getfield 26, 3) := by decide +kernel
theorem dX12_isTownHere_28 : decode cX12_isTownHere 28 = .ok (.iconst 3, 1) := by decide +kernel
theorem dX12_isTownHere_29 : decode cX12_isTownHere 29 = .ok (.iaload, 1) := by decide +kernel
theorem dX12_isTownHere_30 : decode cX12_isTownHere 30 = .ok (.imul, 1) := by decide +kernel
theorem dX12_isTownHere_31 : decode cX12_isTownHere 31 = .ok (.iadd, 1) := by decide +kernel
theorem dX12_isTownHere_32 : decode cX12_isTownHere 32 = .ok (.istore_n 2, 1) := by decide +kernel
theorem dX12_isTownHere_33 : decode cX12_isTownHere 33 = .ok (.bipush 73, 2) := by decide +kernel
theorem dX12_isTownHere_35 : decode cX12_isTownHere 35 = .ok (.iconst 3, 1) := by decide +kernel
theorem dX12_isTownHere_36 : decode cX12_isTownHere 36 = .ok (.aload_n 0, 1) := by decide +kernel
theorem dX12_isTownHere_37 : decode cX12_isTownHere 37 = .ok (.getfield 26, 3) := by decide +kernel
theorem dX12_isTownHere_40 : decode cX12_isTownHere 40 = .ok (.iconst 3, 1) := by decide +kernel
theorem dX12_isTownHere_41 : decode cX12_isTownHere 41 = .ok (.iaload, 1) := by decide +kernel
theorem dX12_isTownHere_42 : decode cX12_isTownHere 42 = .ok (.imul, 1) := by decide +kernel
theorem dX12_isTownHere_43 : decode cX12_isTownHere 43 = .ok (.iadd, 1) := by decide +kernel
theorem dX12_isTownHere_44 : decode cX12_isTownHere 44 = .ok (.istore_n 3, 1) := by decide +kernel
theorem dX12_isTownHere_45 : decode cX12_isTownHere 45 = .ok (.aload_n 0, 1) := by decide +kernel
theorem dX12_isTownHere_46 : decode cX12_isTownHere 46 = .ok (.iload_n 2, 1) := by decide +kernel
theorem dX12_isTownHere_47 : decode cX12_isTownHere 47 = .ok (.iconst 1, 1) := by decide +kernel
theorem dX12_isTownHere_48 : decode cX12_isTownHere 48 = .ok (.bipush 6, 2) := by decide +kernel
theorem dX12_isTownHere_50 : decode cX12_isTownHere 50 = .ok (.invokevirtual 214, 3) := by decide +kernel
theorem dX12_isTownHere_53 : decode cX12_isTownHere 53 = .ok (.ifCond .eq 40, 3) := by decide +kernel
theorem dX12_isTownHere_56 : decode cX12_isTownHere 56 = .ok (.aload_n 0, 1) := by decide +kernel
theorem dX12_isTownHere_57 : decode cX12_isTownHere 57 = .ok (.iload_n 2, 1) := by decide +kernel
theorem dX12_isTownHere_58 : decode cX12_isTownHere 58 = .ok (.iconst 1, 1) := by decide +kernel
theorem dX12_isTownHere_59 : decode cX12_isTownHere 59 = .ok (.iadd, 1) := by decide +kernel
theorem dX12_isTownHere_60 : decode cX12_isTownHere 60 = .ok (.iconst 0, 1) := by decide +kernel
theorem dX12_isTownHere_61 : decode cX12_isTownHere 61 = .ok (.bipush 60, 2) := by decide +kernel
theorem dX12_isTownHere_63 : decode cX12_isTownHere 63 = .ok (.invokevirtual 214, 3) := by decide +kernel
theorem dX12_isTownHere_66 : decode cX12_isTownHere 66 = .ok (.ifCond .eq 27, 3) := by decide +kernel
theorem dX12_isTownHere_69 : decode cX12_isTownHere 69 = .ok (.aload_n 0, 1) := by decide +kernel
theorem dX12_isTownHere_70 : decode cX12_isTownHere 70 = .ok (.iload_n 3, 1) := by decide +kernel
theorem dX12_isTownHere_71 : decode cX12_isTownHere 71 = .ok (.iconst 0, 1) := by decide +kernel
theorem dX12_isTownHere_72 : decode cX12_isTownHere 72 = .ok (.bipush 99, 2) := by decide +kernel
theorem dX12_isTownHere_74 : decode cX12_isTownHere 74 = .ok (.invokevirtual 214, 3) := by decide +kernel
theorem dX12_isTownHere_77 : decode cX12_isTownHere 77 = .ok (.ifCond .eq 16, 3) := by decide +kernel
theorem dX12_isTownHere_80 : decode cX12_isTownHere 80 = .ok (.aload_n 0, 1) := by decide +kernel
theorem dX12_isTownHere_81 : decode cX12_isTownHere 81 = .ok (.iload_n 3, 1) := by decide +kernel
theorem dX12_isTownHere_82 : decode cX12_isTownHere 82 = .ok (.iconst 1, 1) := by decide +kernel
theorem dX12_isTownHere_83 : decode cX12_isTownHere 83 = .ok (.iadd, 1) := by decide +kernel
theorem dX12_isTownHere_84 : decode cX12_isTownHere 84 = .ok (.iconst 1, 1) := by decide +kernel
theorem dX12_isTownHere_85 : decode cX12_isTownHere 85 = .ok (.bipush 99, 2) := by decide +kernel
theorem dX12_isTownHere_87 : decode cX12_isTownHere 87 = .ok (.invokevirtual 214, 3) := by decide +kernel
theorem dX12_isTownHere_90 : decode cX12_isTownHere 90 = .ok (.ifCond .ne 5, 3) := by decide +kernel
theorem dX12_isTownHere_93 : decode cX12_isTownHere 93 = .ok (.iconst 0, 1) := by decide +kernel
theorem dX12_isTownHere_94 : decode cX12_isTownHere 94 = .ok (.ireturn, 1) := by decide +kernel
theorem dX12_isTownHere_95 : decode cX12_isTownHere 95 = .ok (.aload_n 0, 1) := by decide +kernel
theorem dX12_isTownHere_96 : decode cX12_isTownHere 96 = .ok (.getfield 26, 3) := by decide +kernel
theorem dX12_isTownHere_99 : decode cX12_isTownHere 99 = .ok (.iload_n 3, 1) := by decide +kernel
theorem dX12_isTownHere_100 : decode cX12_isTownHere 100 = .ok (.iconst 2, 1) := by decide +kernel
theorem dX12_isTownHere_101 : decode cX12_isTownHere 101 = .ok (.iadd, 1) := by decide +kernel
theorem dX12_isTownHere_102 : decode cX12_isTownHere 102 = .ok (.iconst 0, 1) := by decide +kernel
theorem dX12_isTownHere_103 : decode cX12_isTownHere 103 = .ok (.iastore, 1) := by decide +kernel
theorem dX12_isTownHere_104 : decode cX12_isTownHere 104 = .ok (.aload_n 0, 1) := by decide +kernel
theorem dX12_isTownHere_105 : decode cX12_isTownHere 105 = .ok (.getfield 26, 3) := by decide +kernel
theorem dX12_isTownHere_108 : decode cX12_isTownHere 108 = .ok (.iconst 3, 1) := by decide +kernel
theorem dX12_isTownHere_109 : decode cX12_isTownHere 109 = .ok (.dup2, 1) := by decide +kernel
theorem dX12_isTownHere_110 : decode cX12_isTownHere 110 = .ok (.iaload, 1) := by decide +kernel
theorem dX12_isTownHere_111 : decode cX12_isTownHere 111 = .ok (.iconst 1, 1) := by decide +kernel
theorem dX12_isTownHere_112 : decode cX12_isTownHere 112 = .ok (.iadd, 1) := by decide +kernel
theorem dX12_isTownHere_113 : decode cX12_isTownHere 113 = .ok (.iastore, 1) := by decide +kernel
theorem dX12_isTownHere_114 : decode cX12_isTownHere 114 = .ok (.iconst 1, 1) := by decide +kernel
theorem dX12_isTownHere_115 : decode cX12_isTownHere 115 = .ok (.ireturn, 1) := by decide +kernel
theorem dX12_isHouseHere_0 : decode cX12_isHouseHere 0 = .ok (.aload_n 0, 1) := by decide +kernel
theorem dX12_isHouseHere_1 : decode cX12_isHouseHere 1 = .ok (.invokevirtual 99, 3) := by decide +kernel
theorem dX12_isHouseHere_4 : decode cX12_isHouseHere 4 = .ok (.aload_n 0, 1) := by decide +kernel
theorem dX12_isHouseHere_5 : decode cX12_isHouseHere 5 = .ok (.iconst 0, 1) := by decide +kernel
theorem dX12_isHouseHere_6 : decode cX12_isHouseHere 6 = .ok (.aload_n 0, 1) := by decide +kernel
theorem dX12_isHouseHere_7 : decode cX12_isHouseHere 7 = .ok (.getfield 26, 3) := by decide +kernel
theorem dX12_isHouseHere_10 : decode cX12_isHouseHere 10 = .ok (.iconst 3, 1) := by decide +kernel
theorem dX12_isHouseHere_11 : decode cX12_isHouseHere 11 = .ok (.iaload, 1) := by decide +kernel
theorem dX12_isHouseHere_12 : decode cX12_isHouseHere 12 = .ok (.iconst 1, 1) := by decide +kernel
theorem dX12_isHouseHere_13 : decode cX12_isHouseHere 13 = .ok (.isub, 1) := by decide +kernel
theorem dX12_isHouseHere_14 : decode cX12_isHouseHere 14 = .ok (.invokevirtual 163, 3) := by decide +kernel
theorem dX12_isHouseHere_17 : decode cX12_isHouseHere 17 = .ok (.ifCond .ne 5, 3) := by decide +kernel
theorem dX12_isHouseHere_20 : decode cX12_isHouseHere 20 = .ok (.iconst 0, 1) := by decide +kernel
theorem dX12_isHouseHere_21 : decode cX12_isHouseHere 21 = .ok (.ireturn, 1) := by decide +kernel
theorem dX12_isHouseHere_22 : decode cX12_isHouseHere 22 = .ok (.aload_n 0, 1) := by decide +kernel
theorem dX12_isHouseHere_23 : decode cX12_isHouseHere 23 = .ok (.getfield 26, 3) := by decide +kernel
theorem dX12_isHouseHere_26 : decode cX12_isHouseHere 26 = .ok (.bipush 73, 2) := by decide +kernel
theorem dX12_isHouseHere_28 : decode cX12_isHouseHere 28 = .ok (.iconst 3, 1) := by decide +kernel
theorem dX12_isHouseHere_29 : decode cX12_isHouseHere 29 = .ok (.aload_n 0, 1) := by decide +kernel
theorem dX12_isHouseHere_30 : decode cX12_isHouseHere 30 = .ok (.getfield 109, 3) := by decide +kernel
theorem dX12_isHouseHere_33 : decode cX12_isHouseHere 33 = .ok (.imul, 1) := by decide +kernel
theorem dX12_isHouseHere_34 : decode cX12_isHouseHere 34 = .ok (.iadd, 1) := by decide +kernel
theorem dX12_isHouseHere_35 : decode cX12_isHouseHere 35 = .ok (.iconst 2, 1) := by decide +kernel
theorem dX12_isHouseHere_36 : decode cX12_isHouseHere 36 = .ok (.iadd, 1) := by decide +kernel
theorem dX12_isHouseHere_37 : decode cX12_isHouseHere 37 = .ok (.iconst 1, 1) := by decide +kernel
theorem dX12_isHouseHere_38 : decode cX12_isHouseHere 38 = .ok (.iastore, 1) := by decide +kernel
theorem dX12_isHouseHere_39 : decode cX12_isHouseHere 39 = .ok (.iconst 1, 1) := by decide +kernel
theorem dX12_isHouseHere_40 : decode cX12_isHouseHere 40 = .ok (.ireturn, 1) := by decide +kernel
theorem dX12_tradeLineHere_0 : decode cX12_tradeLineHere 0 = .ok (.aload_n 0, 1) := by decide +kernel
theorem dX12_tradeLineHere_1 : decode cX12_tradeLineHere 1 = .ok (.ldc2_w 218, 3) := by decide +kernel
theorem dX12_tradeLineHere_4 : decode cX12_tradeLineHere 4 = .ok (.invokevirtual 95, 3) := by decide +kernel
theorem dX12_tradeLineHere_7 : decode cX12_tradeLineHere 7 = .ok (.ifCond .eq 9, 3) := by decide +kernel
theorem dX12_tradeLineHere_10 : decode cX12_tradeLineHere 10 = .ok (.aload_n 0, 1) := by decide +kernel
theorem dX12_tradeLineHere_11 : decode cX12_tradeLineHere 11 = .ok (.iload_n 1, 1) := by decide +kernel
theorem dX12_tradeLineHere_12 : decode cX12_tradeLineHere 12 = .ok (.invokevirtual 220, 3) := by decide +kernel
theorem dX12_tradeLineHere_15 : decode cX12_tradeLineHere 15 = .ok (.ireturn, 1) := by decide +kernel
theorem dX12_tradeLineHere_16 : decode cX12_tradeLineHere 16 = .ok (.aload_n 0, 1) := by decide +kernel
theorem dX12_tradeLineHere_17 : decode cX12_tradeLineHere 17 = .ok (.getfield 26, 3) := by decide +kernel
theorem dX12_tradeLineHere_20 : decode cX12_tradeLineHere 20 = .ok (.iconst 0, 1) := by decide +kernel
theorem dX12_tradeLineHere_21 : decode cX12_tradeLineHere 21 = .ok (.iaload, 1) := by decide +kernel
theorem dX12_tradeLineHere_22 : decode cX12_tradeLineHere 22 = .ok (.ifCond .ne 10, 3) := by decide +kernel
theorem dX12_tradeLineHere_25 : decode cX12_tradeLineHere 25 = .ok (.aload_n 0, 1) := by decide +kernel
theorem dX12_tradeLineHere_26 : decode cX12_tradeLineHere 26 = .ok (.iconst 4, 1) := by decide +kernel
theorem dX12_tradeLineHere_27 : decode cX12_tradeLineHere 27 = .ok (.iload_n 1, 1) := by decide +kernel
theorem dX12_tradeLineHere_28 : decode cX12_tradeLineHere 28 = .ok (.invokevirtual 105, 3) := by decide +kernel
theorem dX12_tradeLineHere_31 : decode cX12_tradeLineHere 31 = .ok (.ireturn, 1) := by decide +kernel
theorem dX12_tradeLineHere_32 : decode cX12_tradeLineHere 32 = .ok (.aload_n 0, 1) := by decide +kernel
theorem dX12_tradeLineHere_33 : decode cX12_tradeLineHere 33 = .ok (.ldc2_w 223, 3) := by decide +kernel
theorem dX12_tradeLineHere_36 : decode cX12_tradeLineHere 36 = .ok (.invokevirtual 95, 3) := by decide +kernel
theorem dX12_tradeLineHere_39 : decode cX12_tradeLineHere 39 = .ok (.ifCond .eq 8, 3) := by decide +kernel
theorem dX12_tradeLineHere_42 : decode cX12_tradeLineHere 42 = .ok (.aload_n 0, 1) := by decide +kernel
theorem dX12_tradeLineHere_43 : decode cX12_tradeLineHere 43 = .ok (.invokevirtual 225, 3) := by decide +kernel
theorem dX12_tradeLineHere_46 : decode cX12_tradeLineHere 46 = .ok (.ireturn, 1) := by decide +kernel
theorem dX12_tradeLineHere_47 : decode cX12_tradeLineHere 47 = .ok (.aload_n 0, 1) := by decide +kernel
theorem dX12_tradeLineHere_48 : decode cX12_tradeLineHere 48 = .ok (.ldc2_w 116, 3) := by decide +kernel
theorem dX12_tradeLineHere_51 : decode cX12_tradeLineHere 51 = .ok (.invokevirtual 95, 3) := by decide +kernel
theorem dX12_tradeLineHere_54 : decode cX12_tradeLineHere 54 = .ok (.ifCond .eq 9, 3) := by decide +kernel
theorem dX12_tradeLineHere_57 : decode cX12_tradeLineHere 57 = .ok (.aload_n 0, 1) := by decide +kernel
theorem dX12_tradeLineHere_58 : decode cX12_tradeLineHere 58 = .ok (.iload_n 1, 1) := by decide +kernel
theorem dX12_tradeLineHere_59 : decode cX12_tradeLineHere 59 = .ok (.invokevirtual 228, 3) := by decide +kernel
theorem dX12_tradeLineHere_62 : decode cX12_tradeLineHere 62 = .ok (.ireturn, 1) := by decide +kernel
theorem dX12_tradeLineHere_63 : decode cX12_tradeLineHere 63 = .ok (.aload_n 0, 1) := by decide +kernel
theorem dX12_tradeLineHere_64 : decode cX12_tradeLineHere 64 = .ok (.ldc2_w 118, 3) := by decide +kernel
theorem dX12_tradeLineHere_67 : decode cX12_tradeLineHere 67 = .ok (.invokevirtual 95, 3) := by decide +kernel
theorem dX12_tradeLineHere_70 : decode cX12_tradeLineHere 70 = .ok (.ifCond .eq 11, 3) := by decide +kernel
theorem dX12_tradeLineHere_73 : decode cX12_tradeLineHere 73 = .ok (.aload_n 0, 1) := by decide +kernel
theorem dX12_tradeLineHere_74 : decode cX12_tradeLineHere 74 = .ok (.iload_n 1, 1) := by decide +kernel
theorem dX12_tradeLineHere_75 : decode cX12_tradeLineHere 75 = .ok (.invokevirtual 231, 3) := by decide +kernel
theorem dX12_tradeLineHere_78 : decode cX12_tradeLineHere 78 = .ok (.goto 7, 3) := by decide +kernel
theorem dX12_tradeLineHere_81 : decode cX12_tradeLineHere 81 = .ok (.aload_n 0, 1) := by decide +kernel
theorem dX12_tradeLineHere_82 : decode cX12_tradeLineHere 82 = .ok (.invokevirtual 234, 3) := by decide +kernel
theorem dX12_tradeLineHere_85 : decode cX12_tradeLineHere 85 = .ok (.ireturn, 1) := by decide +kernel
theorem dX12_isTradeWord_0 : decode cX12_isTradeWord 0 = .ok (.aload_n 0, 1) := by decide +kernel
theorem dX12_isTradeWord_1 : decode cX12_isTradeWord 1 = .ok (.ldc2_w 218, 3) := by decide +kernel
theorem dX12_isTradeWord_4 : decode cX12_isTradeWord 4 = .ok (.invokevirtual 95, 3) := by decide +kernel
theorem dX12_isTradeWord_7 : decode cX12_isTradeWord 7 = .ok (.ifCond .ne 43, 3) := by decide +kernel
theorem dX12_isTradeWord_10 : decode cX12_isTradeWord 10 = .ok (.aload_n 0, 1) := by decide +kernel
theorem dX12_isTradeWord_11 : decode cX12_isTradeWord 11 = .ok (.ldc2_w 223, 3) := by decide +kernel
theorem dX12_isTradeWord_14 : decode cX12_isTradeWord 14 = .ok (.invokevirtual 95, 3) := by decide +kernel
theorem dX12_isTradeWord_17 : decode cX12_isTradeWord 17 = .ok (.ifCond .ne 33, 3) := by decide +kernel
theorem dX12_isTradeWord_20 : decode cX12_isTradeWord 20 = .ok (.aload_n 0, 1) := by decide +kernel
theorem dX12_isTradeWord_21 : decode cX12_isTradeWord 21 = .ok (.ldc2_w 116, 3) := by decide +kernel
theorem dX12_isTradeWord_24 : decode cX12_isTradeWord 24 = .ok (.invokevirtual 95, 3) := by decide +kernel
theorem dX12_isTradeWord_27 : decode cX12_isTradeWord 27 = .ok (.ifCond .ne 23, 3) := by decide +kernel
theorem dX12_isTradeWord_30 : decode cX12_isTradeWord 30 = .ok (.aload_n 0, 1) := by decide +kernel
theorem dX12_isTradeWord_31 : decode cX12_isTradeWord 31 = .ok (.ldc2_w 118, 3) := by decide +kernel
theorem dX12_isTradeWord_34 : decode cX12_isTradeWord 34 = .ok (.invokevirtual 95, 3) := by decide +kernel
theorem dX12_isTradeWord_37 : decode cX12_isTradeWord 37 = .ok (.ifCond .ne 13, 3) := by decide +kernel
theorem dX12_isTradeWord_40 : decode cX12_isTradeWord 40 = .ok (.aload_n 0, 1) := by decide +kernel
theorem dX12_isTradeWord_41 : decode cX12_isTradeWord 41 = .ok (.ldc2_w 140, 3) := by decide +kernel
theorem dX12_isTradeWord_44 : decode cX12_isTradeWord 44 = .ok (.invokevirtual 95, 3) := by decide +kernel
theorem dX12_isTradeWord_47 : decode cX12_isTradeWord 47 = .ok (.ifCond .eq 7, 3) := by decide +kernel
theorem dX12_isTradeWord_50 : decode cX12_isTradeWord 50 = .ok (.iconst 1, 1) := by decide +kernel
theorem dX12_isTradeWord_51 : decode cX12_isTradeWord 51 = .ok (.goto 4, 3) := by decide +kernel
theorem dX12_isTradeWord_54 : decode cX12_isTradeWord 54 = .ok (.iconst 0, 1) := by decide +kernel
theorem dX12_isTradeWord_55 : decode cX12_isTradeWord 55 = .ok (.ireturn, 1) := by decide +kernel
theorem dX12_clauseHere_0 : decode cX12_clauseHere 0 = .ok (.aload_n 0, 1) := by decide +kernel
theorem dX12_clauseHere_1 : decode cX12_clauseHere 1 = .ok (.invokevirtual 87, 3) := by decide +kernel
theorem dX12_clauseHere_4 : decode cX12_clauseHere 4 = .ok (.pop, 1) := by decide +kernel
theorem dX12_clauseHere_5 : decode cX12_clauseHere 5 = .ok (.aload_n 0, 1) := by decide +kernel
theorem dX12_clauseHere_6 : decode cX12_clauseHere 6 = .ok (.getfield 84, 3) := by decide +kernel
theorem dX12_clauseHere_9 : decode cX12_clauseHere 9 = .ok (.istore_n 1, 1) := by decide +kernel
theorem dX12_clauseHere_10 : decode cX12_clauseHere 10 = .ok (.aload_n 0, 1) := by decide +kernel
theorem dX12_clauseHere_11 : decode cX12_clauseHere 11 = .ok (.getfield 142, 3) := by decide +kernel
theorem dX12_clauseHere_14 : decode cX12_clauseHere 14 = .ok (.bipush 6, 2) := by decide +kernel
theorem dX12_clauseHere_16 : decode cX12_clauseHere 16 = .ok (.if_icmp .ne 7, 3) := by decide +kernel
theorem dX12_clauseHere_19 : decode cX12_clauseHere 19 = .ok (.iconst 1, 1) := by decide +kernel
theorem dX12_clauseHere_20 : decode cX12_clauseHere 20 = .ok (.goto 4, 3) := by decide +kernel
theorem dX12_clauseHere_23 : decode cX12_clauseHere 23 = .ok (.iconst 0, 1) := by decide +kernel
theorem dX12_clauseHere_24 : decode cX12_clauseHere 24 = .ok (.istore_n 2, 1) := by decide +kernel
theorem dX12_clauseHere_25 : decode cX12_clauseHere 25 = .ok (.iload_n 2, 1) := by decide +kernel
theorem dX12_clauseHere_26 : decode cX12_clauseHere 26 = .ok (.ifCond .eq 13, 3) := by decide +kernel
theorem dX12_clauseHere_29 : decode cX12_clauseHere 29 = .ok (.aload_n 0, 1) := by decide +kernel
theorem dX12_clauseHere_30 : decode cX12_clauseHere 30 = .ok (.invokevirtual 237, 3) := by decide +kernel
theorem dX12_clauseHere_33 : decode cX12_clauseHere 33 = .ok (.ifCond .ne 23, 3) := by decide +kernel
theorem dX12_clauseHere_36 : decode cX12_clauseHere 36 = .ok (.goto 13, 3) := by decide +kernel
theorem dX12_clauseHere_39 : decode cX12_clauseHere 39 = .ok (.aload_n 0, 1) := by decide +kernel
theorem dX12_clauseHere_40 : decode cX12_clauseHere 40 = .ok (.ldc2_w 240, 3) := by decide +kernel
theorem dX12_clauseHere_43 : decode cX12_clauseHere 43 = .ok (.invokevirtual 95, 3) := by decide +kernel
theorem dX12_clauseHere_46 : decode cX12_clauseHere 46 = .ok (.ifCond .ne 10, 3) := by decide +kernel
theorem dX12_clauseHere_49 : decode cX12_clauseHere 49 = .ok (.aload_n 0, 1) := by decide +kernel
theorem dX12_clauseHere_50 : decode cX12_clauseHere 50 = .ok (.iconst 0, 1) := by decide +kernel
theorem dX12_clauseHere_51 : decode cX12_clauseHere 51 = .ok (.iload_n 1, 1) := by decide +kernel
theorem dX12_clauseHere_52 : decode cX12_clauseHere 52 = .ok (.invokevirtual 105, 3) := by decide +kernel
theorem dX12_clauseHere_55 : decode cX12_clauseHere 55 = .ok (.ireturn, 1) := by decide +kernel
theorem dX12_clauseHere_56 : decode cX12_clauseHere 56 = .ok (.aload_n 0, 1) := by decide +kernel
theorem dX12_clauseHere_57 : decode cX12_clauseHere 57 = .ok (.getfield 242, 3) := by decide +kernel
theorem dX12_clauseHere_60 : decode cX12_clauseHere 60 = .ok (.iload_n 2, 1) := by decide +kernel
theorem dX12_clauseHere_61 : decode cX12_clauseHere 61 = .ok (.ifCond .eq 8, 3) := by decide +kernel
theorem dX12_clauseHere_64 : decode cX12_clauseHere 64 = .ok (.bipush 40, 2) := by decide +kernel
theorem dX12_clauseHere_66 : decode cX12_clauseHere 66 = .ok (.goto 5, 3) := by decide +kernel
theorem dX12_clauseHere_69 : decode cX12_clauseHere 69 = .ok (.bipush 12, 2) := by decide +kernel
theorem dX12_clauseHere_71 : decode cX12_clauseHere 71 = .ok (.if_icmp .ne 10, 3) := by decide +kernel
theorem dX12_clauseHere_74 : decode cX12_clauseHere 74 = .ok (.aload_n 0, 1) := by decide +kernel
theorem dX12_clauseHere_75 : decode cX12_clauseHere 75 = .ok (.iconst 4, 1) := by decide +kernel
theorem dX12_clauseHere_76 : decode cX12_clauseHere 76 = .ok (.iload_n 1, 1) := by decide +kernel
theorem dX12_clauseHere_77 : decode cX12_clauseHere 77 = .ok (.invokevirtual 105, 3) := by decide +kernel
theorem dX12_clauseHere_80 : decode cX12_clauseHere 80 = .ok (.ireturn, 1) := by decide +kernel
theorem dX12_clauseHere_81 : decode cX12_clauseHere 81 = .ok (.aload_n 0, 1) := by decide +kernel
theorem dX12_clauseHere_82 : decode cX12_clauseHere 82 = .ok (.dup, 1) := by decide +kernel
theorem dX12_clauseHere_83 : decode cX12_clauseHere 83 = .ok (.getfield 242, 3) := by decide +kernel
theorem dX12_clauseHere_86 : decode cX12_clauseHere 86 = .ok (.iconst 1, 1) := by decide +kernel
theorem dX12_clauseHere_87 : decode cX12_clauseHere 87 = .ok (.iadd, 1) := by decide +kernel
theorem dX12_clauseHere_88 : decode cX12_clauseHere 88 = .ok (.putfield 242, 3) := by decide +kernel
theorem dX12_clauseHere_91 : decode cX12_clauseHere 91 = .ok (.iload_n 2, 1) := by decide +kernel
theorem dX12_clauseHere_92 : decode cX12_clauseHere 92 = .ok (.ifCond .eq 11, 3) := by decide +kernel
theorem dX12_clauseHere_95 : decode cX12_clauseHere 95 = .ok (.aload_n 0, 1) := by decide +kernel
theorem dX12_clauseHere_96 : decode cX12_clauseHere 96 = .ok (.iload_n 1, 1) := by decide +kernel
theorem dX12_clauseHere_97 : decode cX12_clauseHere 97 = .ok (.invokevirtual 245, 3) := by decide +kernel
theorem dX12_clauseHere_100 : decode cX12_clauseHere 100 = .ok (.goto 7, 3) := by decide +kernel
theorem dX12_clauseHere_103 : decode cX12_clauseHere 103 = .ok (.aload_n 0, 1) := by decide +kernel
theorem dX12_clauseHere_104 : decode cX12_clauseHere 104 = .ok (.invokevirtual 248, 3) := by decide +kernel
theorem dX12_clauseHere_107 : decode cX12_clauseHere 107 = .ok (.ireturn, 1) := by decide +kernel
theorem dX12_readsAll_0 : decode cX12_readsAll 0 = .ok (.aload_n 0, 1) := by decide +kernel
theorem dX12_readsAll_1 : decode cX12_readsAll 1 = .ok (.getfield 17, 3) := by decide +kernel
theorem dX12_readsAll_4 : decode cX12_readsAll 4 = .ok (.aload_n 0, 1) := by decide +kernel
theorem dX12_readsAll_5 : decode cX12_readsAll 5 = .ok (.getfield 142, 3) := by decide +kernel
theorem dX12_readsAll_8 : decode cX12_readsAll 8 = .ok (.iconst 0, 1) := by decide +kernel
theorem dX12_readsAll_9 : decode cX12_readsAll 9 = .ok (.iastore, 1) := by decide +kernel
theorem dX12_readsAll_10 : decode cX12_readsAll 10 = .ok (.aload_n 0, 1) := by decide +kernel
theorem dX12_readsAll_11 : decode cX12_readsAll 11 = .ok (.iconst 0, 1) := by decide +kernel
theorem dX12_readsAll_12 : decode cX12_readsAll 12 = .ok (.putfield 242, 3) := by decide +kernel
theorem dX12_readsAll_15 : decode cX12_readsAll 15 = .ok (.aload_n 0, 1) := by decide +kernel
theorem dX12_readsAll_16 : decode cX12_readsAll 16 = .ok (.iconst 0, 1) := by decide +kernel
theorem dX12_readsAll_17 : decode cX12_readsAll 17 = .ok (.putfield 84, 3) := by decide +kernel
theorem dX12_readsAll_20 : decode cX12_readsAll 20 = .ok (.aload_n 0, 1) := by decide +kernel
theorem dX12_readsAll_21 : decode cX12_readsAll 21 = .ok (.iconst 0, 1) := by decide +kernel
theorem dX12_readsAll_22 : decode cX12_readsAll 22 = .ok (.putfield 81, 3) := by decide +kernel
theorem dX12_readsAll_25 : decode cX12_readsAll 25 = .ok (.aload_n 0, 1) := by decide +kernel
theorem dX12_readsAll_26 : decode cX12_readsAll 26 = .ok (.iconst 0, 1) := by decide +kernel
theorem dX12_readsAll_27 : decode cX12_readsAll 27 = .ok (.putfield 145, 3) := by decide +kernel
theorem dX12_readsAll_30 : decode cX12_readsAll 30 = .ok (.aload_n 0, 1) := by decide +kernel
theorem dX12_readsAll_31 : decode cX12_readsAll 31 = .ok (.invokevirtual 251, 3) := by decide +kernel
theorem dX12_readsAll_34 : decode cX12_readsAll 34 = .ok (.istore_n 1, 1) := by decide +kernel
theorem dX12_readsAll_35 : decode cX12_readsAll 35 = .ok (.iload_n 1, 1) := by decide +kernel
theorem dX12_readsAll_36 : decode cX12_readsAll 36 = .ok (.ifCond .eq 30, 3) := by decide +kernel
theorem dX12_readsAll_39 : decode cX12_readsAll 39 = .ok (.aload_n 0, 1) := by decide +kernel
theorem dX12_readsAll_40 : decode cX12_readsAll 40 = .ok (.invokevirtual 87, 3) := by decide +kernel
theorem dX12_readsAll_43 : decode cX12_readsAll 43 = .ok (.bipush 59, 2) := by decide +kernel
theorem dX12_readsAll_45 : decode cX12_readsAll 45 = .ok (.if_icmp .ne 21, 3) := by decide +kernel
theorem dX12_readsAll_48 : decode cX12_readsAll 48 = .ok (.aload_n 0, 1) := by decide +kernel
theorem dX12_readsAll_49 : decode cX12_readsAll 49 = .ok (.dup, 1) := by decide +kernel
theorem dX12_readsAll_50 : decode cX12_readsAll 50 = .ok (.getfield 84, 3) := by decide +kernel
theorem dX12_readsAll_53 : decode cX12_readsAll 53 = .ok (.iconst 1, 1) := by decide +kernel
theorem dX12_readsAll_54 : decode cX12_readsAll 54 = .ok (.iadd, 1) := by decide +kernel
theorem dX12_readsAll_55 : decode cX12_readsAll 55 = .ok (.putfield 84, 3) := by decide +kernel
theorem dX12_readsAll_58 : decode cX12_readsAll 58 = .ok (.aload_n 0, 1) := by decide +kernel
theorem dX12_readsAll_59 : decode cX12_readsAll 59 = .ok (.invokevirtual 251, 3) := by decide +kernel
theorem dX12_readsAll_62 : decode cX12_readsAll 62 = .ok (.istore_n 1, 1) := by decide +kernel
theorem dX12_readsAll_63 : decode cX12_readsAll 63 = .ok (.goto (-28), 3) := by decide +kernel
theorem dX12_readsAll_66 : decode cX12_readsAll 66 = .ok (.iload_n 1, 1) := by decide +kernel
theorem dX12_readsAll_67 : decode cX12_readsAll 67 = .ok (.ifCond .eq 21, 3) := by decide +kernel
theorem dX12_readsAll_70 : decode cX12_readsAll 70 = .ok (.aload_n 0, 1) := by decide +kernel
theorem dX12_readsAll_71 : decode cX12_readsAll 71 = .ok (.invokevirtual 87, 3) := by decide +kernel
theorem dX12_readsAll_74 : decode cX12_readsAll 74 = .ok (.iconst (-1), 1) := by decide +kernel
theorem dX12_readsAll_75 : decode cX12_readsAll 75 = .ok (.if_icmp .eq 13, 3) := by decide +kernel
theorem dX12_readsAll_78 : decode cX12_readsAll 78 = .ok (.aload_n 0, 1) := by decide +kernel
theorem dX12_readsAll_79 : decode cX12_readsAll 79 = .ok (.iconst 0, 1) := by decide +kernel
theorem dX12_readsAll_80 : decode cX12_readsAll 80 = .ok (.aload_n 0, 1) := by decide +kernel
theorem dX12_readsAll_81 : decode cX12_readsAll 81 = .ok (.getfield 84, 3) := by decide +kernel
theorem dX12_readsAll_84 : decode cX12_readsAll 84 = .ok (.invokevirtual 105, 3) := by decide +kernel
theorem dX12_readsAll_87 : decode cX12_readsAll 87 = .ok (.pop, 1) := by decide +kernel
theorem dX12_readsAll_88 : decode cX12_readsAll 88 = .ok (.aload_n 0, 1) := by decide +kernel
theorem dX12_readsAll_89 : decode cX12_readsAll 89 = .ok (.iconst 0, 1) := by decide +kernel
theorem dX12_readsAll_90 : decode cX12_readsAll 90 = .ok (.putfield 74, 3) := by decide +kernel
theorem dX12_readsAll_93 : decode cX12_readsAll 93 = .ok (.aload_n 0, 1) := by decide +kernel
theorem dX12_readsAll_94 : decode cX12_readsAll 94 = .ok (.getfield 81, 3) := by decide +kernel
theorem dX12_readsAll_97 : decode cX12_readsAll 97 = .ok (.ifCond .ne 7, 3) := by decide +kernel
theorem dX12_readsAll_100 : decode cX12_readsAll 100 = .ok (.iconst 1, 1) := by decide +kernel
theorem dX12_readsAll_101 : decode cX12_readsAll 101 = .ok (.goto 4, 3) := by decide +kernel
theorem dX12_readsAll_104 : decode cX12_readsAll 104 = .ok (.iconst 0, 1) := by decide +kernel
theorem dX12_readsAll_105 : decode cX12_readsAll 105 = .ok (.ireturn, 1) := by decide +kernel
theorem dX12_rule_0 : decode cX12_rule 0 = .ok (.aload_n 0, 1) := by decide +kernel
theorem dX12_rule_1 : decode cX12_rule 1 = .ok (.getfield 254, 3) := by decide +kernel
theorem dX12_rule_4 : decode cX12_rule 4 = .ok (.bipush 6, 2) := by decide +kernel
theorem dX12_rule_6 : decode cX12_rule 6 = .ok (.if_icmp .ne 5, 3) := by decide +kernel
theorem dX12_rule_9 : decode cX12_rule 9 = .ok (.iconst (-1), 1) := by decide +kernel
theorem dX12_rule_10 : decode cX12_rule 10 = .ok (.ireturn, 1) := by decide +kernel
theorem dX12_rule_11 : decode cX12_rule 11 = .ok (.aload_n 0, 1) := by decide +kernel
theorem dX12_rule_12 : decode cX12_rule 12 = .ok (.aload_n 0, 1) := by decide +kernel
theorem dX12_rule_13 : decode cX12_rule 13 = .ok (.getfield 254, 3) := by decide +kernel
theorem dX12_rule_16 : decode cX12_rule 16 = .ok (.putfield 142, 3) := by decide +kernel
theorem dX12_rule_19 : decode cX12_rule 19 = .ok (.aload_n 0, 1) := by decide +kernel
theorem dX12_rule_20 : decode cX12_rule 20 = .ok (.getfield 23, 3) := by decide +kernel
theorem dX12_rule_23 : decode cX12_rule 23 = .ok (.aload_n 0, 1) := by decide +kernel
theorem dX12_rule_24 : decode cX12_rule 24 = .ok (.getfield 142, 3) := by decide +kernel
theorem dX12_rule_27 : decode cX12_rule 27 = .ok (.iconst 0, 1) := by decide +kernel
theorem dX12_rule_28 : decode cX12_rule 28 = .ok (.iastore, 1) := by decide +kernel
theorem dX12_rule_29 : decode cX12_rule 29 = .ok (.aload_n 0, 1) := by decide +kernel
theorem dX12_rule_30 : decode cX12_rule 30 = .ok (.invokevirtual 257, 3) := by decide +kernel
theorem dX12_rule_33 : decode cX12_rule 33 = .ok (.ifCond .ne 11, 3) := by decide +kernel
theorem dX12_rule_36 : decode cX12_rule 36 = .ok (.bipush (-2), 2) := by decide +kernel
theorem dX12_rule_38 : decode cX12_rule 38 = .ok (.aload_n 0, 1) := by decide +kernel
theorem dX12_rule_39 : decode cX12_rule 39 = .ok (.getfield 81, 3) := by decide +kernel
theorem dX12_rule_42 : decode cX12_rule 42 = .ok (.isub, 1) := by decide +kernel
theorem dX12_rule_43 : decode cX12_rule 43 = .ok (.ireturn, 1) := by decide +kernel
theorem dX12_rule_44 : decode cX12_rule 44 = .ok (.aload_n 0, 1) := by decide +kernel
theorem dX12_rule_45 : decode cX12_rule 45 = .ok (.dup, 1) := by decide +kernel
theorem dX12_rule_46 : decode cX12_rule 46 = .ok (.getfield 254, 3) := by decide +kernel
theorem dX12_rule_49 : decode cX12_rule 49 = .ok (.iconst 1, 1) := by decide +kernel
theorem dX12_rule_50 : decode cX12_rule 50 = .ok (.iadd, 1) := by decide +kernel
theorem dX12_rule_51 : decode cX12_rule 51 = .ok (.putfield 254, 3) := by decide +kernel
theorem dX12_rule_54 : decode cX12_rule 54 = .ok (.aload_n 0, 1) := by decide +kernel
theorem dX12_rule_55 : decode cX12_rule 55 = .ok (.getfield 254, 3) := by decide +kernel
theorem dX12_rule_58 : decode cX12_rule 58 = .ok (.iconst 1, 1) := by decide +kernel
theorem dX12_rule_59 : decode cX12_rule 59 = .ok (.isub, 1) := by decide +kernel
theorem dX12_rule_60 : decode cX12_rule 60 = .ok (.ireturn, 1) := by decide +kernel
theorem dX12_trade_0 : decode cX12_trade 0 = .ok (.aload_n 0, 1) := by decide +kernel
theorem dX12_trade_1 : decode cX12_trade 1 = .ok (.bipush 6, 2) := by decide +kernel
theorem dX12_trade_3 : decode cX12_trade 3 = .ok (.putfield 142, 3) := by decide +kernel
theorem dX12_trade_6 : decode cX12_trade 6 = .ok (.iconst 0, 1) := by decide +kernel
theorem dX12_trade_7 : decode cX12_trade 7 = .ok (.istore_n 1, 1) := by decide +kernel
theorem dX12_trade_8 : decode cX12_trade 8 = .ok (.iload_n 1, 1) := by decide +kernel
theorem dX12_trade_9 : decode cX12_trade 9 = .ok (.bipush 85, 2) := by decide +kernel
theorem dX12_trade_11 : decode cX12_trade 11 = .ok (.if_icmp .ge 16, 3) := by decide +kernel
theorem dX12_trade_14 : decode cX12_trade 14 = .ok (.aload_n 0, 1) := by decide +kernel
theorem dX12_trade_15 : decode cX12_trade 15 = .ok (.getfield 26, 3) := by decide +kernel
theorem dX12_trade_18 : decode cX12_trade 18 = .ok (.iload_n 1, 1) := by decide +kernel
theorem dX12_trade_19 : decode cX12_trade 19 = .ok (.iconst 0, 1) := by decide +kernel
theorem dX12_trade_20 : decode cX12_trade 20 = .ok (.iastore, 1) := by decide +kernel
theorem dX12_trade_21 : decode cX12_trade 21 = .ok (.iinc 1 1, 3) := by decide +kernel
theorem dX12_trade_24 : decode cX12_trade 24 = .ok (.goto (-16), 3) := by decide +kernel
theorem dX12_trade_27 : decode cX12_trade 27 = .ok (.aload_n 0, 1) := by decide +kernel
theorem dX12_trade_28 : decode cX12_trade 28 = .ok (.invokevirtual 257, 3) := by decide +kernel
theorem dX12_trade_31 : decode cX12_trade 31 = .ok (.ifCond .ne 11, 3) := by decide +kernel
theorem dX12_trade_34 : decode cX12_trade 34 = .ok (.bipush (-2), 2) := by decide +kernel
theorem dX12_trade_36 : decode cX12_trade 36 = .ok (.aload_n 0, 1) := by decide +kernel
theorem dX12_trade_37 : decode cX12_trade 37 = .ok (.getfield 81, 3) := by decide +kernel
theorem dX12_trade_40 : decode cX12_trade 40 = .ok (.isub, 1) := by decide +kernel
theorem dX12_trade_41 : decode cX12_trade 41 = .ok (.ireturn, 1) := by decide +kernel
theorem dX12_trade_42 : decode cX12_trade 42 = .ok (.iconst 0, 1) := by decide +kernel
theorem dX12_trade_43 : decode cX12_trade 43 = .ok (.istore_n 1, 1) := by decide +kernel
theorem dX12_trade_44 : decode cX12_trade 44 = .ok (.iload_n 1, 1) := by decide +kernel
theorem dX12_trade_45 : decode cX12_trade 45 = .ok (.bipush 106, 2) := by decide +kernel
theorem dX12_trade_47 : decode cX12_trade 47 = .ok (.if_icmp .ge 31, 3) := by decide +kernel
theorem dX12_trade_50 : decode cX12_trade 50 = .ok (.aload_n 0, 1) := by decide +kernel
theorem dX12_trade_51 : decode cX12_trade 51 = .ok (.getfield 39, 3) := by decide +kernel
theorem dX12_trade_54 : decode cX12_trade 54 = .ok (.iload_n 1, 1) := by decide +kernel
theorem dX12_trade_55 : decode cX12_trade 55 = .ok (.iload_n 1, 1) := by decide +kernel
theorem dX12_trade_56 : decode cX12_trade 56 = .ok (.bipush 85, 2) := by decide +kernel
theorem dX12_trade_58 : decode cX12_trade 58 = .ok (.if_icmp .ge 12, 3) := by decide +kernel
theorem dX12_trade_61 : decode cX12_trade 61 = .ok (.aload_n 0, 1) := by decide +kernel
theorem dX12_trade_62 : decode cX12_trade 62 = .ok (.getfield 26, 3) := by decide +kernel
theorem dX12_trade_65 : decode cX12_trade 65 = .ok (.iload_n 1, 1) := by decide +kernel
theorem dX12_trade_66 : decode cX12_trade 66 = .ok (.iaload, 1) := by decide +kernel
theorem dX12_trade_67 : decode cX12_trade 67 = .ok (.goto 4, 3) := by decide +kernel
theorem dX12_trade_70 : decode cX12_trade 70 = .ok (.iconst 0, 1) := by decide +kernel
theorem dX12_trade_71 : decode cX12_trade 71 = .ok (.iastore, 1) := by decide +kernel
theorem dX12_trade_72 : decode cX12_trade 72 = .ok (.iinc 1 1, 3) := by decide +kernel
theorem dX12_trade_75 : decode cX12_trade 75 = .ok (.goto (-31), 3) := by decide +kernel
theorem dX12_trade_78 : decode cX12_trade 78 = .ok (.aload_n 0, 1) := by decide +kernel
theorem dX12_trade_79 : decode cX12_trade 79 = .ok (.invokevirtual 260, 3) := by decide +kernel
theorem dX12_trade_82 : decode cX12_trade 82 = .ok (.aload_n 0, 1) := by decide +kernel
theorem dX12_trade_83 : decode cX12_trade 83 = .ok (.iconst 0, 1) := by decide +kernel
theorem dX12_trade_84 : decode cX12_trade 84 = .ok (.putfield 263, 3) := by decide +kernel
theorem dX12_trade_87 : decode cX12_trade 87 = .ok (.aload_n 0, 1) := by decide +kernel
theorem dX12_trade_88 : decode cX12_trade 88 = .ok (.getfield 39, 3) := by decide +kernel
theorem dX12_trade_91 : decode cX12_trade 91 = .ok (.iconst 3, 1) := by decide +kernel
theorem dX12_trade_92 : decode cX12_trade 92 = .ok (.iaload, 1) := by decide +kernel
theorem dX12_trade_93 : decode cX12_trade 93 = .ok (.ireturn, 1) := by decide +kernel
theorem dX12_isRule_0 : decode cX12_isRule 0 = .ok (.iload_n 1, 1) := by decide +kernel
theorem dX12_isRule_1 : decode cX12_isRule 1 = .ok (.ifCond .lt 15, 3) := by decide +kernel
theorem dX12_isRule_4 : decode cX12_isRule 4 = .ok (.iload_n 1, 1) := by decide +kernel
theorem dX12_isRule_5 : decode cX12_isRule 5 = .ok (.aload_n 0, 1) := by decide +kernel
theorem dX12_isRule_6 : decode cX12_isRule 6 = .ok (.getfield 254, 3) := by decide +kernel
theorem dX12_isRule_9 : decode cX12_isRule 9 = .ok (.if_icmp .ge 7, 3) := by decide +kernel
theorem dX12_isRule_12 : decode cX12_isRule 12 = .ok (.iconst 1, 1) := by decide +kernel
theorem dX12_isRule_13 : decode cX12_isRule 13 = .ok (.goto 4, 3) := by decide +kernel
theorem dX12_isRule_16 : decode cX12_isRule 16 = .ok (.iconst 0, 1) := by decide +kernel
theorem dX12_isRule_17 : decode cX12_isRule 17 = .ok (.ireturn, 1) := by decide +kernel
theorem dX12_push_0 : decode cX12_push 0 = .ok (.aload_n 0, 1) := by decide +kernel
theorem dX12_push_1 : decode cX12_push 1 = .ok (.getfield 32, 3) := by decide +kernel
theorem dX12_push_4 : decode cX12_push 4 = .ok (.aload_n 0, 1) := by decide +kernel
theorem dX12_push_5 : decode cX12_push 5 = .ok (.getfield 266, 3) := by decide +kernel
theorem dX12_push_8 : decode cX12_push 8 = .ok (.lload_n 1, 1) := by decide +kernel
theorem dX12_push_9 : decode cX12_push 9 = .ok (.lastore, 1) := by decide +kernel
theorem dX12_push_10 : decode cX12_push 10 = .ok (.aload_n 0, 1) := by decide +kernel
theorem dX12_push_11 : decode cX12_push 11 = .ok (.dup, 1) := by decide +kernel
theorem dX12_push_12 : decode cX12_push 12 = .ok (.getfield 266, 3) := by decide +kernel
theorem dX12_push_15 : decode cX12_push 15 = .ok (.iconst 1, 1) := by decide +kernel
theorem dX12_push_16 : decode cX12_push 16 = .ok (.iadd, 1) := by decide +kernel
theorem dX12_push_17 : decode cX12_push 17 = .ok (.putfield 266, 3) := by decide +kernel
theorem dX12_push_20 : decode cX12_push 20 = .ok (.return_, 1) := by decide +kernel
theorem dX12_pop_0 : decode cX12_pop 0 = .ok (.aload_n 0, 1) := by decide +kernel
theorem dX12_pop_1 : decode cX12_pop 1 = .ok (.dup, 1) := by decide +kernel
theorem dX12_pop_2 : decode cX12_pop 2 = .ok (.getfield 266, 3) := by decide +kernel
theorem dX12_pop_5 : decode cX12_pop 5 = .ok (.iconst 1, 1) := by decide +kernel
theorem dX12_pop_6 : decode cX12_pop 6 = .ok (.isub, 1) := by decide +kernel
theorem dX12_pop_7 : decode cX12_pop 7 = .ok (.putfield 266, 3) := by decide +kernel
theorem dX12_pop_10 : decode cX12_pop 10 = .ok (.aload_n 0, 1) := by decide +kernel
theorem dX12_pop_11 : decode cX12_pop 11 = .ok (.getfield 32, 3) := by decide +kernel
theorem dX12_pop_14 : decode cX12_pop 14 = .ok (.aload_n 0, 1) := by decide +kernel
theorem dX12_pop_15 : decode cX12_pop 15 = .ok (.getfield 266, 3) := by decide +kernel
theorem dX12_pop_18 : decode cX12_pop 18 = .ok (.laload, 1) := by decide +kernel
theorem dX12_pop_19 : decode cX12_pop 19 = .ok (.lreturn, 1) := by decide +kernel
theorem dX12_one_0 : decode cX12_one 0 = .ok (.iload_n 0, 1) := by decide +kernel
theorem dX12_one_1 : decode cX12_one 1 = .ok (.tableswitch 171 2 14 #[67, 71, 75, 79, 107, 119, 131, 143, 155, 171, 167, 171, 93], 67) := by decide +kernel
theorem dX12_one_68 : decode cX12_one 68 = .ok (.lload_n 1, 1) := by decide +kernel
theorem dX12_one_69 : decode cX12_one 69 = .ok (.lload_n 3, 1) := by decide +kernel
theorem dX12_one_70 : decode cX12_one 70 = .ok (.ladd, 1) := by decide +kernel
theorem dX12_one_71 : decode cX12_one 71 = .ok (.lreturn, 1) := by decide +kernel
theorem dX12_one_72 : decode cX12_one 72 = .ok (.lload_n 1, 1) := by decide +kernel
theorem dX12_one_73 : decode cX12_one 73 = .ok (.lload_n 3, 1) := by decide +kernel
theorem dX12_one_74 : decode cX12_one 74 = .ok (.lsub, 1) := by decide +kernel
theorem dX12_one_75 : decode cX12_one 75 = .ok (.lreturn, 1) := by decide +kernel
theorem dX12_one_76 : decode cX12_one 76 = .ok (.lload_n 1, 1) := by decide +kernel
theorem dX12_one_77 : decode cX12_one 77 = .ok (.lload_n 3, 1) := by decide +kernel
theorem dX12_one_78 : decode cX12_one 78 = .ok (.lmul, 1) := by decide +kernel
theorem dX12_one_79 : decode cX12_one 79 = .ok (.lreturn, 1) := by decide +kernel
theorem dX12_one_80 : decode cX12_one 80 = .ok (.lload_n 3, 1) := by decide +kernel
theorem dX12_one_81 : decode cX12_one 81 = .ok (.lconst 0, 1) := by decide +kernel
theorem dX12_one_82 : decode cX12_one 82 = .ok (.lcmp, 1) := by decide +kernel
theorem dX12_one_83 : decode cX12_one 83 = .ok (.ifCond .ne 7, 3) := by decide +kernel
theorem dX12_one_86 : decode cX12_one 86 = .ok (.lconst 0, 1) := by decide +kernel
theorem dX12_one_87 : decode cX12_one 87 = .ok (.goto 6, 3) := by decide +kernel
theorem dX12_one_90 : decode cX12_one 90 = .ok (.lload_n 1, 1) := by decide +kernel
theorem dX12_one_91 : decode cX12_one 91 = .ok (.lload_n 3, 1) := by decide +kernel
theorem dX12_one_92 : decode cX12_one 92 = .ok (.ldiv, 1) := by decide +kernel
theorem dX12_one_93 : decode cX12_one 93 = .ok (.lreturn, 1) := by decide +kernel
theorem dX12_one_94 : decode cX12_one 94 = .ok (.lload_n 3, 1) := by decide +kernel
theorem dX12_one_95 : decode cX12_one 95 = .ok (.lconst 0, 1) := by decide +kernel
theorem dX12_one_96 : decode cX12_one 96 = .ok (.lcmp, 1) := by decide +kernel
theorem dX12_one_97 : decode cX12_one 97 = .ok (.ifCond .ne 7, 3) := by decide +kernel
theorem dX12_one_100 : decode cX12_one 100 = .ok (.lconst 0, 1) := by decide +kernel
theorem dX12_one_101 : decode cX12_one 101 = .ok (.goto 6, 3) := by decide +kernel
theorem dX12_one_104 : decode cX12_one 104 = .ok (.lload_n 1, 1) := by decide +kernel
theorem dX12_one_105 : decode cX12_one 105 = .ok (.lload_n 3, 1) := by decide +kernel
theorem dX12_one_106 : decode cX12_one 106 = .ok (.lrem, 1) := by decide +kernel
theorem dX12_one_107 : decode cX12_one 107 = .ok (.lreturn, 1) := by decide +kernel
theorem dX12_one_108 : decode cX12_one 108 = .ok (.lload_n 1, 1) := by decide +kernel
theorem dX12_one_109 : decode cX12_one 109 = .ok (.lload_n 3, 1) := by decide +kernel
theorem dX12_one_110 : decode cX12_one 110 = .ok (.lcmp, 1) := by decide +kernel
theorem dX12_one_111 : decode cX12_one 111 = .ok (.ifCond .ge 7, 3) := by decide +kernel
theorem dX12_one_114 : decode cX12_one 114 = .ok (.lconst 1, 1) := by decide +kernel
theorem dX12_one_115 : decode cX12_one 115 = .ok (.goto 4, 3) := by decide +kernel
theorem dX12_one_118 : decode cX12_one 118 = .ok (.lconst 0, 1) := by decide +kernel
theorem dX12_one_119 : decode cX12_one 119 = .ok (.lreturn, 1) := by decide +kernel
theorem dX12_one_120 : decode cX12_one 120 = .ok (.lload_n 1, 1) := by decide +kernel
theorem dX12_one_121 : decode cX12_one 121 = .ok (.lload_n 3, 1) := by decide +kernel
theorem dX12_one_122 : decode cX12_one 122 = .ok (.lcmp, 1) := by decide +kernel
theorem dX12_one_123 : decode cX12_one 123 = .ok (.ifCond .gt 7, 3) := by decide +kernel
theorem dX12_one_126 : decode cX12_one 126 = .ok (.lconst 1, 1) := by decide +kernel
theorem dX12_one_127 : decode cX12_one 127 = .ok (.goto 4, 3) := by decide +kernel
theorem dX12_one_130 : decode cX12_one 130 = .ok (.lconst 0, 1) := by decide +kernel
theorem dX12_one_131 : decode cX12_one 131 = .ok (.lreturn, 1) := by decide +kernel
theorem dX12_one_132 : decode cX12_one 132 = .ok (.lload_n 1, 1) := by decide +kernel
theorem dX12_one_133 : decode cX12_one 133 = .ok (.lload_n 3, 1) := by decide +kernel
theorem dX12_one_134 : decode cX12_one 134 = .ok (.lcmp, 1) := by decide +kernel
theorem dX12_one_135 : decode cX12_one 135 = .ok (.ifCond .ne 7, 3) := by decide +kernel
theorem dX12_one_138 : decode cX12_one 138 = .ok (.lconst 1, 1) := by decide +kernel
theorem dX12_one_139 : decode cX12_one 139 = .ok (.goto 4, 3) := by decide +kernel
theorem dX12_one_142 : decode cX12_one 142 = .ok (.lconst 0, 1) := by decide +kernel
theorem dX12_one_143 : decode cX12_one 143 = .ok (.lreturn, 1) := by decide +kernel
theorem dX12_one_144 : decode cX12_one 144 = .ok (.lload_n 1, 1) := by decide +kernel
theorem dX12_one_145 : decode cX12_one 145 = .ok (.lload_n 3, 1) := by decide +kernel
theorem dX12_one_146 : decode cX12_one 146 = .ok (.lcmp, 1) := by decide +kernel
theorem dX12_one_147 : decode cX12_one 147 = .ok (.ifCond .lt 7, 3) := by decide +kernel
theorem dX12_one_150 : decode cX12_one 150 = .ok (.lconst 1, 1) := by decide +kernel
theorem dX12_one_151 : decode cX12_one 151 = .ok (.goto 4, 3) := by decide +kernel
theorem dX12_one_154 : decode cX12_one 154 = .ok (.lconst 0, 1) := by decide +kernel
theorem dX12_one_155 : decode cX12_one 155 = .ok (.lreturn, 1) := by decide +kernel
theorem dX12_one_156 : decode cX12_one 156 = .ok (.lload_n 1, 1) := by decide +kernel
theorem dX12_one_157 : decode cX12_one 157 = .ok (.lload_n 3, 1) := by decide +kernel
theorem dX12_one_158 : decode cX12_one 158 = .ok (.lcmp, 1) := by decide +kernel
theorem dX12_one_159 : decode cX12_one 159 = .ok (.ifCond .le 7, 3) := by decide +kernel
theorem dX12_one_162 : decode cX12_one 162 = .ok (.lconst 1, 1) := by decide +kernel
theorem dX12_one_163 : decode cX12_one 163 = .ok (.goto 4, 3) := by decide +kernel
theorem dX12_one_166 : decode cX12_one 166 = .ok (.lconst 0, 1) := by decide +kernel
theorem dX12_one_167 : decode cX12_one 167 = .ok (.lreturn, 1) := by decide +kernel
theorem dX12_one_168 : decode cX12_one 168 = .ok (.lload_n 1, 1) := by decide +kernel
theorem dX12_one_169 : decode cX12_one 169 = .ok (.lload_n 3, 1) := by decide +kernel
theorem dX12_one_170 : decode cX12_one 170 = .ok (.land, 1) := by decide +kernel
theorem dX12_one_171 : decode cX12_one 171 = .ok (.lreturn, 1) := by decide +kernel
theorem dX12_one_172 : decode cX12_one 172 = .ok (.lload_n 1, 1) := by decide +kernel
theorem dX12_one_173 : decode cX12_one 173 = .ok (.lload_n 3, 1) := by decide +kernel
theorem dX12_one_174 : decode cX12_one 174 = .ok (.lor, 1) := by decide +kernel
theorem dX12_one_175 : decode cX12_one 175 = .ok (.lreturn, 1) := by decide +kernel
theorem dX12_reckons_0 : decode cX12_reckons 0 = .ok (.aload_n 0, 1) := by decide +kernel
theorem dX12_reckons_1 : decode cX12_reckons 1 = .ok (.iconst 0, 1) := by decide +kernel
theorem dX12_reckons_2 : decode cX12_reckons 2 = .ok (.putfield 266, 3) := by decide +kernel
theorem dX12_reckons_5 : decode cX12_reckons 5 = .ok (.iload_n 2, 1) := by decide +kernel
theorem dX12_reckons_6 : decode cX12_reckons 6 = .ok (.istore 4, 2) := by decide +kernel
theorem dX12_reckons_8 : decode cX12_reckons 8 = .ok (.iload 4, 2) := by decide +kernel
theorem dX12_reckons_10 : decode cX12_reckons 10 = .ok (.iload_n 3, 1) := by decide +kernel
theorem dX12_reckons_11 : decode cX12_reckons 11 = .ok (.if_icmp .ge 124, 3) := by decide +kernel
theorem dX12_reckons_14 : decode cX12_reckons 14 = .ok (.aload_n 0, 1) := by decide +kernel
theorem dX12_reckons_15 : decode cX12_reckons 15 = .ok (.getfield 13, 3) := by decide +kernel
theorem dX12_reckons_18 : decode cX12_reckons 18 = .ok (.sipush 400, 3) := by decide +kernel
theorem dX12_reckons_21 : decode cX12_reckons 21 = .ok (.iload_n 1, 1) := by decide +kernel
theorem dX12_reckons_22 : decode cX12_reckons 22 = .ok (.imul, 1) := by decide +kernel
theorem dX12_reckons_23 : decode cX12_reckons 23 = .ok (.iload 4, 2) := by decide +kernel
theorem dX12_reckons_25 : decode cX12_reckons 25 = .ok (.iadd, 1) := by decide +kernel
theorem dX12_reckons_26 : decode cX12_reckons 26 = .ok (.iaload, 1) := by decide +kernel
theorem dX12_reckons_27 : decode cX12_reckons 27 = .ok (.bipush 15, 2) := by decide +kernel
theorem dX12_reckons_29 : decode cX12_reckons 29 = .ok (.iand, 1) := by decide +kernel
theorem dX12_reckons_30 : decode cX12_reckons 30 = .ok (.istore 5, 2) := by decide +kernel
theorem dX12_reckons_32 : decode cX12_reckons 32 = .ok (.aload_n 0, 1) := by decide +kernel
theorem dX12_reckons_33 : decode cX12_reckons 33 = .ok (.getfield 13, 3) := by decide +kernel
theorem dX12_reckons_36 : decode cX12_reckons 36 = .ok (.sipush 400, 3) := by decide +kernel
theorem dX12_reckons_39 : decode cX12_reckons 39 = .ok (.iload_n 1, 1) := by decide +kernel
theorem dX12_reckons_40 : decode cX12_reckons 40 = .ok (.imul, 1) := by decide +kernel
theorem dX12_reckons_41 : decode cX12_reckons 41 = .ok (.iload 4, 2) := by decide +kernel
theorem dX12_reckons_43 : decode cX12_reckons 43 = .ok (.iadd, 1) := by decide +kernel
theorem dX12_reckons_44 : decode cX12_reckons 44 = .ok (.iaload, 1) := by decide +kernel
theorem dX12_reckons_45 : decode cX12_reckons 45 = .ok (.iconst 4, 1) := by decide +kernel
theorem dX12_reckons_46 : decode cX12_reckons 46 = .ok (.ishr, 1) := by decide +kernel
theorem dX12_reckons_47 : decode cX12_reckons 47 = .ok (.istore 6, 2) := by decide +kernel
theorem dX12_reckons_49 : decode cX12_reckons 49 = .ok (.iload 5, 2) := by decide +kernel
theorem dX12_reckons_51 : decode cX12_reckons 51 = .ok (.ifCond .ne 13, 3) := by decide +kernel
theorem dX12_reckons_54 : decode cX12_reckons 54 = .ok (.aload_n 0, 1) := by decide +kernel
theorem dX12_reckons_55 : decode cX12_reckons 55 = .ok (.iload 6, 2) := by decide +kernel
theorem dX12_reckons_57 : decode cX12_reckons 57 = .ok (.i2l, 1) := by decide +kernel
theorem dX12_reckons_58 : decode cX12_reckons 58 = .ok (.invokevirtual 269, 3) := by decide +kernel
theorem dX12_reckons_61 : decode cX12_reckons 61 = .ok (.goto 68, 3) := by decide +kernel
theorem dX12_reckons_64 : decode cX12_reckons 64 = .ok (.iload 5, 2) := by decide +kernel
theorem dX12_reckons_66 : decode cX12_reckons 66 = .ok (.iconst 1, 1) := by decide +kernel
theorem dX12_reckons_67 : decode cX12_reckons 67 = .ok (.if_icmp .ne 17, 3) := by decide +kernel
theorem dX12_reckons_70 : decode cX12_reckons 70 = .ok (.aload_n 0, 1) := by decide +kernel
theorem dX12_reckons_71 : decode cX12_reckons 71 = .ok (.aload_n 0, 1) := by decide +kernel
theorem dX12_reckons_72 : decode cX12_reckons 72 = .ok (.getfield 36, 3) := by decide +kernel
theorem dX12_reckons_75 : decode cX12_reckons 75 = .ok (.iload 6, 2) := by decide +kernel
theorem dX12_reckons_77 : decode cX12_reckons 77 = .ok (.laload, 1) := by decide +kernel
theorem dX12_reckons_78 : decode cX12_reckons 78 = .ok (.invokevirtual 269, 3) := by decide +kernel
theorem dX12_reckons_81 : decode cX12_reckons 81 = .ok (.goto 48, 3) := by decide +kernel
theorem dX12_reckons_84 : decode cX12_reckons 84 = .ok (.iload 5, 2) := by decide +kernel
theorem dX12_reckons_86 : decode cX12_reckons 86 = .ok (.bipush 11, 2) := by decide +kernel
theorem dX12_reckons_88 : decode cX12_reckons 88 = .ok (.if_icmp .ne 16, 3) := by decide +kernel
theorem dX12_reckons_91 : decode cX12_reckons 91 = .ok (.aload_n 0, 1) := by decide +kernel
theorem dX12_reckons_92 : decode cX12_reckons 92 = .ok (.lconst 1, 1) := by decide +kernel
theorem dX12_reckons_93 : decode cX12_reckons 93 = .ok (.aload_n 0, 1) := by decide +kernel
theorem dX12_reckons_94 : decode cX12_reckons 94 = .ok (.invokevirtual 273, 3) := by decide +kernel
theorem dX12_reckons_97 : decode cX12_reckons 97 = .ok (.lsub, 1) := by decide +kernel
theorem dX12_reckons_98 : decode cX12_reckons 98 = .ok (.invokevirtual 269, 3) := by decide +kernel
theorem dX12_reckons_101 : decode cX12_reckons 101 = .ok (.goto 28, 3) := by decide +kernel
theorem dX12_reckons_104 : decode cX12_reckons 104 = .ok (.aload_n 0, 1) := by decide +kernel
theorem dX12_reckons_105 : decode cX12_reckons 105 = .ok (.invokevirtual 273, 3) := by decide +kernel
theorem dX12_reckons_108 : decode cX12_reckons 108 = .ok (.lstore 7, 2) := by decide +kernel
theorem dX12_reckons_110 : decode cX12_reckons 110 = .ok (.aload_n 0, 1) := by decide +kernel
theorem dX12_reckons_111 : decode cX12_reckons 111 = .ok (.invokevirtual 273, 3) := by decide +kernel
theorem dX12_reckons_114 : decode cX12_reckons 114 = .ok (.lstore 9, 2) := by decide +kernel
theorem dX12_reckons_116 : decode cX12_reckons 116 = .ok (.aload_n 0, 1) := by decide +kernel
theorem dX12_reckons_117 : decode cX12_reckons 117 = .ok (.iload 5, 2) := by decide +kernel
theorem dX12_reckons_119 : decode cX12_reckons 119 = .ok (.lload 9, 2) := by decide +kernel
theorem dX12_reckons_121 : decode cX12_reckons 121 = .ok (.lload 7, 2) := by decide +kernel
theorem dX12_reckons_123 : decode cX12_reckons 123 = .ok (.invokestatic 277, 3) := by decide +kernel
theorem dX12_reckons_126 : decode cX12_reckons 126 = .ok (.invokevirtual 269, 3) := by decide +kernel
