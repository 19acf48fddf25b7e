theorem dX12_sells_36 : decode cX12_sells 36 = .ok (.istore 5, 2) := by decide +kernel
theorem dX12_sells_38 : decode cX12_sells 38 = .ok (.aload_n 0, 1) := by decide +kernel
theorem dX12_sells_39 : decode cX12_sells 39 = .ok (.getfield 39, 3) := by decide +kernel
theorem dX12_sells_42 : decode cX12_sells 42 = .ok (.bipush 10, 2) := by decide +kernel
theorem dX12_sells_44 : decode cX12_sells 44 = .ok (.aload_n 0, 1) := by decide +kernel
theorem dX12_sells_45 : decode cX12_sells 45 = .ok (.getfield 39, 3) := by decide +kernel
theorem dX12_sells_48 : decode cX12_sells 48 = .ok (.bipush 10, 2) := by decide +kernel
theorem dX12_sells_50 : decode cX12_sells 50 = .ok (.iaload, 1) := by decide +kernel
theorem dX12_sells_51 : decode cX12_sells 51 = .ok (.iload 5, 2) := by decide +kernel
theorem dX12_sells_53 : decode cX12_sells 53 = .ok (.aload_n 0, 1) := by decide +kernel
theorem dX12_sells_54 : decode cX12_sells 54 = .ok (.getfield 39, 3) := by decide +kernel
theorem dX12_sells_57 : decode cX12_sells 57 = .ok (.iload_n 2, 1) := by decide +kernel
theorem dX12_sells_58 : decode cX12_sells 58 = .ok (.iconst 1, 1) := by decide +kernel
theorem dX12_sells_59 : decode cX12_sells 59 = .ok (.iadd, 1) := by decide +kernel
theorem dX12_sells_60 : decode cX12_sells 60 = .ok (.iaload, 1) := by decide +kernel
theorem dX12_sells_61 : decode cX12_sells 61 = .ok (.imul, 1) := by decide +kernel
theorem dX12_sells_62 : decode cX12_sells 62 = .ok (.iadd, 1) := by decide +kernel
theorem dX12_sells_63 : decode cX12_sells 63 = .ok (.ldc 162, 2) := by decide +kernel
theorem dX12_sells_65 : decode cX12_sells 65 = .ok (.invokestatic 321, 3) := by decide +kernel
theorem dX12_sells_68 : decode cX12_sells 68 = .ok (.iastore, 1) := by decide +kernel
theorem dX12_sells_69 : decode cX12_sells 69 = .ok (.aload_n 0, 1) := by decide +kernel
theorem dX12_sells_70 : decode cX12_sells 70 = .ok (.getfield 39, 3) := by decide +kernel
theorem dX12_sells_73 : decode cX12_sells 73 = .ok (.iload_n 2, 1) := by decide +kernel
theorem dX12_sells_74 : decode cX12_sells 74 = .ok (.iconst 4, 1) := by decide +kernel
theorem dX12_sells_75 : decode cX12_sells 75 = .ok (.iadd, 1) := by decide +kernel
theorem dX12_sells_76 : decode cX12_sells 76 = .ok (.dup2, 1) := by decide +kernel
theorem dX12_sells_77 : decode cX12_sells 77 = .ok (.iaload, 1) := by decide +kernel
theorem dX12_sells_78 : decode cX12_sells 78 = .ok (.iload 5, 2) := by decide +kernel
theorem dX12_sells_80 : decode cX12_sells 80 = .ok (.iadd, 1) := by decide +kernel
theorem dX12_sells_81 : decode cX12_sells 81 = .ok (.iastore, 1) := by decide +kernel
theorem dX12_sells_82 : decode cX12_sells 82 = .ok (.aload_n 0, 1) := by decide +kernel
theorem dX12_sells_83 : decode cX12_sells 83 = .ok (.getfield 39, 3) := by decide +kernel
theorem dX12_sells_86 : decode cX12_sells 86 = .ok (.iload_n 2, 1) := by decide +kernel
theorem dX12_sells_87 : decode cX12_sells 87 = .ok (.iconst 2, 1) := by decide +kernel
theorem dX12_sells_88 : decode cX12_sells 88 = .ok (.iadd, 1) := by decide +kernel
theorem dX12_sells_89 : decode cX12_sells 89 = .ok (.iload_n 3, 1) := by decide +kernel
theorem dX12_sells_90 : decode cX12_sells 90 = .ok (.iload 5, 2) := by decide +kernel
theorem dX12_sells_92 : decode cX12_sells 92 = .ok (.isub, 1) := by decide +kernel
theorem dX12_sells_93 : decode cX12_sells 93 = .ok (.aload_n 0, 1) := by decide +kernel
theorem dX12_sells_94 : decode cX12_sells 94 = .ok (.getfield 39, 3) := by decide +kernel
theorem dX12_sells_97 : decode cX12_sells 97 = .ok (.iload_n 2, 1) := by decide +kernel
theorem dX12_sells_98 : decode cX12_sells 98 = .ok (.iconst 3, 1) := by decide +kernel
theorem dX12_sells_99 : decode cX12_sells 99 = .ok (.iadd, 1) := by decide +kernel
theorem dX12_sells_100 : decode cX12_sells 100 = .ok (.iaload, 1) := by decide +kernel
theorem dX12_sells_101 : decode cX12_sells 101 = .ok (.iconst 1, 1) := by decide +kernel
theorem dX12_sells_102 : decode cX12_sells 102 = .ok (.if_icmp .ne 13, 3) := by decide +kernel
theorem dX12_sells_105 : decode cX12_sells 105 = .ok (.aload_n 0, 1) := by decide +kernel
theorem dX12_sells_106 : decode cX12_sells 106 = .ok (.iload_n 1, 1) := by decide +kernel
theorem dX12_sells_107 : decode cX12_sells 107 = .ok (.invokevirtual 305, 3) := by decide +kernel
theorem dX12_sells_110 : decode cX12_sells 110 = .ok (.iconst 4, 1) := by decide +kernel
theorem dX12_sells_111 : decode cX12_sells 111 = .ok (.idiv, 1) := by decide +kernel
theorem dX12_sells_112 : decode cX12_sells 112 = .ok (.goto 8, 3) := by decide +kernel
theorem dX12_sells_115 : decode cX12_sells 115 = .ok (.aload_n 0, 1) := by decide +kernel
theorem dX12_sells_116 : decode cX12_sells 116 = .ok (.iload_n 1, 1) := by decide +kernel
theorem dX12_sells_117 : decode cX12_sells 117 = .ok (.invokevirtual 305, 3) := by decide +kernel
theorem dX12_sells_120 : decode cX12_sells 120 = .ok (.invokestatic 314, 3) := by decide +kernel
theorem dX12_sells_123 : decode cX12_sells 123 = .ok (.iastore, 1) := by decide +kernel
theorem dX12_sells_124 : decode cX12_sells 124 = .ok (.iload_n 3, 1) := by decide +kernel
theorem dX12_sells_125 : decode cX12_sells 125 = .ok (.iload 4, 2) := by decide +kernel
theorem dX12_sells_127 : decode cX12_sells 127 = .ok (.if_icmp .lt 23, 3) := by decide +kernel
theorem dX12_sells_130 : decode cX12_sells 130 = .ok (.iload 4, 2) := by decide +kernel
theorem dX12_sells_132 : decode cX12_sells 132 = .ok (.ifCond .le 18, 3) := by decide +kernel
theorem dX12_sells_135 : decode cX12_sells 135 = .ok (.aload_n 0, 1) := by decide +kernel
theorem dX12_sells_136 : decode cX12_sells 136 = .ok (.getfield 39, 3) := by decide +kernel
theorem dX12_sells_139 : decode cX12_sells 139 = .ok (.iload_n 2, 1) := by decide +kernel
theorem dX12_sells_140 : decode cX12_sells 140 = .ok (.iload 4, 2) := by decide +kernel
theorem dX12_sells_142 : decode cX12_sells 142 = .ok (.iconst 1, 1) := by decide +kernel
theorem dX12_sells_143 : decode cX12_sells 143 = .ok (.iadd, 1) := by decide +kernel
theorem dX12_sells_144 : decode cX12_sells 144 = .ok (.bipush 99, 2) := by decide +kernel
theorem dX12_sells_146 : decode cX12_sells 146 = .ok (.invokestatic 321, 3) := by decide +kernel
theorem dX12_sells_149 : decode cX12_sells 149 = .ok (.iastore, 1) := by decide +kernel
theorem dX12_sells_150 : decode cX12_sells 150 = .ok (.iload_n 3, 1) := by decide +kernel
theorem dX12_sells_151 : decode cX12_sells 151 = .ok (.ifCond .ne 18, 3) := by decide +kernel
theorem dX12_sells_154 : decode cX12_sells 154 = .ok (.iload 4, 2) := by decide +kernel
theorem dX12_sells_156 : decode cX12_sells 156 = .ok (.ifCond .le 13, 3) := by decide +kernel
theorem dX12_sells_159 : decode cX12_sells 159 = .ok (.aload_n 0, 1) := by decide +kernel
theorem dX12_sells_160 : decode cX12_sells 160 = .ok (.getfield 39, 3) := by decide +kernel
theorem dX12_sells_163 : decode cX12_sells 163 = .ok (.iload_n 2, 1) := by decide +kernel
theorem dX12_sells_164 : decode cX12_sells 164 = .ok (.dup2, 1) := by decide +kernel
theorem dX12_sells_165 : decode cX12_sells 165 = .ok (.iaload, 1) := by decide +kernel
theorem dX12_sells_166 : decode cX12_sells 166 = .ok (.iconst 1, 1) := by decide +kernel
theorem dX12_sells_167 : decode cX12_sells 167 = .ok (.isub, 1) := by decide +kernel
theorem dX12_sells_168 : decode cX12_sells 168 = .ok (.iastore, 1) := by decide +kernel
theorem dX12_sells_169 : decode cX12_sells 169 = .ok (.iload 5, 2) := by decide +kernel
theorem dX12_sells_171 : decode cX12_sells 171 = .ok (.ireturn, 1) := by decide +kernel
theorem dX12_passes_0 : decode cX12_passes 0 = .ok (.iconst 0, 1) := by decide +kernel
theorem dX12_passes_1 : decode cX12_passes 1 = .ok (.istore_n 1, 1) := by decide +kernel
theorem dX12_passes_2 : decode cX12_passes 2 = .ok (.iconst 0, 1) := by decide +kernel
theorem dX12_passes_3 : decode cX12_passes 3 = .ok (.istore_n 2, 1) := by decide +kernel
theorem dX12_passes_4 : decode cX12_passes 4 = .ok (.iload_n 2, 1) := by decide +kernel
theorem dX12_passes_5 : decode cX12_passes 5 = .ok (.aload_n 0, 1) := by decide +kernel
theorem dX12_passes_6 : decode cX12_passes 6 = .ok (.getfield 39, 3) := by decide +kernel
theorem dX12_passes_9 : decode cX12_passes 9 = .ok (.iconst 2, 1) := by decide +kernel
theorem dX12_passes_10 : decode cX12_passes 10 = .ok (.iaload, 1) := by decide +kernel
theorem dX12_passes_11 : decode cX12_passes 11 = .ok (.if_icmp .ge 29, 3) := by decide +kernel
theorem dX12_passes_14 : decode cX12_passes 14 = .ok (.aload_n 0, 1) := by decide +kernel
theorem dX12_passes_15 : decode cX12_passes 15 = .ok (.getfield 42, 3) := by decide +kernel
theorem dX12_passes_18 : decode cX12_passes 18 = .ok (.ifCond .lt 22, 3) := by decide +kernel
theorem dX12_passes_21 : decode cX12_passes 21 = .ok (.aload_n 0, 1) := by decide +kernel
theorem dX12_passes_22 : decode cX12_passes 22 = .ok (.iload_n 2, 1) := by decide +kernel
theorem dX12_passes_23 : decode cX12_passes 23 = .ok (.invokevirtual 342, 3) := by decide +kernel
theorem dX12_passes_26 : decode cX12_passes 26 = .ok (.ifCond .eq 8, 3) := by decide +kernel
theorem dX12_passes_29 : decode cX12_passes 29 = .ok (.aload_n 0, 1) := by decide +kernel
theorem dX12_passes_30 : decode cX12_passes 30 = .ok (.iload_n 2, 1) := by decide +kernel
theorem dX12_passes_31 : decode cX12_passes 31 = .ok (.invokevirtual 345, 3) := by decide +kernel
theorem dX12_passes_34 : decode cX12_passes 34 = .ok (.iinc 2 1, 3) := by decide +kernel
theorem dX12_passes_37 : decode cX12_passes 37 = .ok (.goto (-33), 3) := by decide +kernel
theorem dX12_passes_40 : decode cX12_passes 40 = .ok (.aload_n 0, 1) := by decide +kernel
theorem dX12_passes_41 : decode cX12_passes 41 = .ok (.invokevirtual 348, 3) := by decide +kernel
theorem dX12_passes_44 : decode cX12_passes 44 = .ok (.iconst 0, 1) := by decide +kernel
theorem dX12_passes_45 : decode cX12_passes 45 = .ok (.istore_n 2, 1) := by decide +kernel
theorem dX12_passes_46 : decode cX12_passes 46 = .ok (.iload_n 2, 1) := by decide +kernel
theorem dX12_passes_47 : decode cX12_passes 47 = .ok (.aload_n 0, 1) := by decide +kernel
theorem dX12_passes_48 : decode cX12_passes 48 = .ok (.getfield 39, 3) := by decide +kernel
theorem dX12_passes_51 : decode cX12_passes 51 = .ok (.iconst 2, 1) := by decide +kernel
theorem dX12_passes_52 : decode cX12_passes 52 = .ok (.iaload, 1) := by decide +kernel
theorem dX12_passes_53 : decode cX12_passes 53 = .ok (.if_icmp .ge 14, 3) := by decide +kernel
theorem dX12_passes_56 : decode cX12_passes 56 = .ok (.aload_n 0, 1) := by decide +kernel
theorem dX12_passes_57 : decode cX12_passes 57 = .ok (.iload_n 2, 1) := by decide +kernel
theorem dX12_passes_58 : decode cX12_passes 58 = .ok (.invokevirtual 351, 3) := by decide +kernel
theorem dX12_passes_61 : decode cX12_passes 61 = .ok (.iinc 2 1, 3) := by decide +kernel
theorem dX12_passes_64 : decode cX12_passes 64 = .ok (.goto (-18), 3) := by decide +kernel
theorem dX12_passes_67 : decode cX12_passes 67 = .ok (.iconst 0, 1) := by decide +kernel
theorem dX12_passes_68 : decode cX12_passes 68 = .ok (.istore_n 2, 1) := by decide +kernel
theorem dX12_passes_69 : decode cX12_passes 69 = .ok (.iload_n 2, 1) := by decide +kernel
theorem dX12_passes_70 : decode cX12_passes 70 = .ok (.aload_n 0, 1) := by decide +kernel
theorem dX12_passes_71 : decode cX12_passes 71 = .ok (.getfield 39, 3) := by decide +kernel
theorem dX12_passes_74 : decode cX12_passes 74 = .ok (.iconst 3, 1) := by decide +kernel
theorem dX12_passes_75 : decode cX12_passes 75 = .ok (.iaload, 1) := by decide +kernel
theorem dX12_passes_76 : decode cX12_passes 76 = .ok (.if_icmp .ge 17, 3) := by decide +kernel
theorem dX12_passes_79 : decode cX12_passes 79 = .ok (.iload_n 1, 1) := by decide +kernel
theorem dX12_passes_80 : decode cX12_passes 80 = .ok (.aload_n 0, 1) := by decide +kernel
theorem dX12_passes_81 : decode cX12_passes 81 = .ok (.iload_n 2, 1) := by decide +kernel
theorem dX12_passes_82 : decode cX12_passes 82 = .ok (.invokevirtual 354, 3) := by decide +kernel
theorem dX12_passes_85 : decode cX12_passes 85 = .ok (.iadd, 1) := by decide +kernel
theorem dX12_passes_86 : decode cX12_passes 86 = .ok (.istore_n 1, 1) := by decide +kernel
theorem dX12_passes_87 : decode cX12_passes 87 = .ok (.iinc 2 1, 3) := by decide +kernel
theorem dX12_passes_90 : decode cX12_passes 90 = .ok (.goto (-21), 3) := by decide +kernel
theorem dX12_passes_93 : decode cX12_passes 93 = .ok (.aload_n 0, 1) := by decide +kernel
theorem dX12_passes_94 : decode cX12_passes 94 = .ok (.getfield 39, 3) := by decide +kernel
theorem dX12_passes_97 : decode cX12_passes 97 = .ok (.bipush 12, 2) := by decide +kernel
theorem dX12_passes_99 : decode cX12_passes 99 = .ok (.dup2, 1) := by decide +kernel
theorem dX12_passes_100 : decode cX12_passes 100 = .ok (.iaload, 1) := by decide +kernel
theorem dX12_passes_101 : decode cX12_passes 101 = .ok (.iconst 1, 1) := by decide +kernel
theorem dX12_passes_102 : decode cX12_passes 102 = .ok (.iadd, 1) := by decide +kernel
theorem dX12_passes_103 : decode cX12_passes 103 = .ok (.iastore, 1) := by decide +kernel
theorem dX12_passes_104 : decode cX12_passes 104 = .ok (.iload_n 1, 1) := by decide +kernel
theorem dX12_passes_105 : decode cX12_passes 105 = .ok (.ireturn, 1) := by decide +kernel
theorem dX12_keepsAct_0 : decode cX12_keepsAct 0 = .ok (.aload_n 0, 1) := by decide +kernel
theorem dX12_keepsAct_1 : decode cX12_keepsAct 1 = .ok (.getfield 263, 3) := by decide +kernel
theorem dX12_keepsAct_4 : decode cX12_keepsAct 4 = .ok (.bipush 20, 2) := by decide +kernel
theorem dX12_keepsAct_6 : decode cX12_keepsAct 6 = .ok (.if_icmp .ne 44, 3) := by decide +kernel
theorem dX12_keepsAct_9 : decode cX12_keepsAct 9 = .ok (.bipush 35, 2) := by decide +kernel
theorem dX12_keepsAct_11 : decode cX12_keepsAct 11 = .ok (.istore_n 1, 1) := by decide +kernel
theorem dX12_keepsAct_12 : decode cX12_keepsAct 12 = .ok (.iload_n 1, 1) := by decide +kernel
theorem dX12_keepsAct_13 : decode cX12_keepsAct 13 = .ok (.sipush 700, 3) := by decide +kernel
theorem dX12_keepsAct_16 : decode cX12_keepsAct 16 = .ok (.if_icmp .ge 24, 3) := by decide +kernel
theorem dX12_keepsAct_19 : decode cX12_keepsAct 19 = .ok (.aload_n 0, 1) := by decide +kernel
theorem dX12_keepsAct_20 : decode cX12_keepsAct 20 = .ok (.getfield 49, 3) := by decide +kernel
theorem dX12_keepsAct_23 : decode cX12_keepsAct 23 = .ok (.iload_n 1, 1) := by decide +kernel
theorem dX12_keepsAct_24 : decode cX12_keepsAct 24 = .ok (.bipush 35, 2) := by decide +kernel
theorem dX12_keepsAct_26 : decode cX12_keepsAct 26 = .ok (.isub, 1) := by decide +kernel
theorem dX12_keepsAct_27 : decode cX12_keepsAct 27 = .ok (.aload_n 0, 1) := by decide +kernel
theorem dX12_keepsAct_28 : decode cX12_keepsAct 28 = .ok (.getfield 49, 3) := by decide +kernel
theorem dX12_keepsAct_31 : decode cX12_keepsAct 31 = .ok (.iload_n 1, 1) := by decide +kernel
theorem dX12_keepsAct_32 : decode cX12_keepsAct 32 = .ok (.iaload, 1) := by decide +kernel
theorem dX12_keepsAct_33 : decode cX12_keepsAct 33 = .ok (.iastore, 1) := by decide +kernel
theorem dX12_keepsAct_34 : decode cX12_keepsAct 34 = .ok (.iinc 1 1, 3) := by decide +kernel
theorem dX12_keepsAct_37 : decode cX12_keepsAct 37 = .ok (.goto (-25), 3) := by decide +kernel
theorem dX12_keepsAct_40 : decode cX12_keepsAct 40 = .ok (.aload_n 0, 1) := by decide +kernel
theorem dX12_keepsAct_41 : decode cX12_keepsAct 41 = .ok (.dup, 1) := by decide +kernel
theorem dX12_keepsAct_42 : decode cX12_keepsAct 42 = .ok (.getfield 263, 3) := by decide +kernel
theorem dX12_keepsAct_45 : decode cX12_keepsAct 45 = .ok (.iconst 1, 1) := by decide +kernel
theorem dX12_keepsAct_46 : decode cX12_keepsAct 46 = .ok (.isub, 1) := by decide +kernel
theorem dX12_keepsAct_47 : decode cX12_keepsAct 47 = .ok (.putfield 263, 3) := by decide +kernel
theorem dX12_keepsAct_50 : decode cX12_keepsAct 50 = .ok (.iconst 0, 1) := by decide +kernel
theorem dX12_keepsAct_51 : decode cX12_keepsAct 51 = .ok (.istore_n 1, 1) := by decide +kernel
theorem dX12_keepsAct_52 : decode cX12_keepsAct 52 = .ok (.iload_n 1, 1) := by decide +kernel
theorem dX12_keepsAct_53 : decode cX12_keepsAct 53 = .ok (.bipush 35, 2) := by decide +kernel
theorem dX12_keepsAct_55 : decode cX12_keepsAct 55 = .ok (.if_icmp .ge 32, 3) := by decide +kernel
theorem dX12_keepsAct_58 : decode cX12_keepsAct 58 = .ok (.aload_n 0, 1) := by decide +kernel
theorem dX12_keepsAct_59 : decode cX12_keepsAct 59 = .ok (.getfield 49, 3) := by decide +kernel
theorem dX12_keepsAct_62 : decode cX12_keepsAct 62 = .ok (.bipush 35, 2) := by decide +kernel
theorem dX12_keepsAct_64 : decode cX12_keepsAct 64 = .ok (.aload_n 0, 1) := by decide +kernel
theorem dX12_keepsAct_65 : decode cX12_keepsAct 65 = .ok (.getfield 263, 3) := by decide +kernel
theorem dX12_keepsAct_68 : decode cX12_keepsAct 68 = .ok (.imul, 1) := by decide +kernel
theorem dX12_keepsAct_69 : decode cX12_keepsAct 69 = .ok (.iload_n 1, 1) := by decide +kernel
theorem dX12_keepsAct_70 : decode cX12_keepsAct 70 = .ok (.iadd, 1) := by decide +kernel
theorem dX12_keepsAct_71 : decode cX12_keepsAct 71 = .ok (.aload_n 0, 1) := by decide +kernel
theorem dX12_keepsAct_72 : decode cX12_keepsAct 72 = .ok (.getfield 39, 3) := by decide +kernel
theorem dX12_keepsAct_75 : decode cX12_keepsAct 75 = .ok (.bipush 10, 2) := by decide +kernel
theorem dX12_keepsAct_77 : decode cX12_keepsAct 77 = .ok (.iload_n 1, 1) := by decide +kernel
theorem dX12_keepsAct_78 : decode cX12_keepsAct 78 = .ok (.iadd, 1) := by decide +kernel
theorem dX12_keepsAct_79 : decode cX12_keepsAct 79 = .ok (.iaload, 1) := by decide +kernel
theorem dX12_keepsAct_80 : decode cX12_keepsAct 80 = .ok (.iastore, 1) := by decide +kernel
theorem dX12_keepsAct_81 : decode cX12_keepsAct 81 = .ok (.iinc 1 1, 3) := by decide +kernel
theorem dX12_keepsAct_84 : decode cX12_keepsAct 84 = .ok (.goto (-32), 3) := by decide +kernel
theorem dX12_keepsAct_87 : decode cX12_keepsAct 87 = .ok (.aload_n 0, 1) := by decide +kernel
theorem dX12_keepsAct_88 : decode cX12_keepsAct 88 = .ok (.dup, 1) := by decide +kernel
theorem dX12_keepsAct_89 : decode cX12_keepsAct 89 = .ok (.getfield 263, 3) := by decide +kernel
theorem dX12_keepsAct_92 : decode cX12_keepsAct 92 = .ok (.iconst 1, 1) := by decide +kernel
theorem dX12_keepsAct_93 : decode cX12_keepsAct 93 = .ok (.iadd, 1) := by decide +kernel
theorem dX12_keepsAct_94 : decode cX12_keepsAct 94 = .ok (.putfield 263, 3) := by decide +kernel
theorem dX12_keepsAct_97 : decode cX12_keepsAct 97 = .ok (.return_, 1) := by decide +kernel
theorem dX12_undo_0 : decode cX12_undo 0 = .ok (.aload_n 0, 1) := by decide +kernel
theorem dX12_undo_1 : decode cX12_undo 1 = .ok (.getfield 263, 3) := by decide +kernel
theorem dX12_undo_4 : decode cX12_undo 4 = .ok (.ifCond .ne 5, 3) := by decide +kernel
theorem dX12_undo_7 : decode cX12_undo 7 = .ok (.iconst (-1), 1) := by decide +kernel
theorem dX12_undo_8 : decode cX12_undo 8 = .ok (.ireturn, 1) := by decide +kernel
theorem dX12_undo_9 : decode cX12_undo 9 = .ok (.aload_n 0, 1) := by decide +kernel
theorem dX12_undo_10 : decode cX12_undo 10 = .ok (.dup, 1) := by decide +kernel
theorem dX12_undo_11 : decode cX12_undo 11 = .ok (.getfield 263, 3) := by decide +kernel
theorem dX12_undo_14 : decode cX12_undo 14 = .ok (.iconst 1, 1) := by decide +kernel
theorem dX12_undo_15 : decode cX12_undo 15 = .ok (.isub, 1) := by decide +kernel
theorem dX12_undo_16 : decode cX12_undo 16 = .ok (.putfield 263, 3) := by decide +kernel
theorem dX12_undo_19 : decode cX12_undo 19 = .ok (.iconst 0, 1) := by decide +kernel
theorem dX12_undo_20 : decode cX12_undo 20 = .ok (.istore_n 1, 1) := by decide +kernel
theorem dX12_undo_21 : decode cX12_undo 21 = .ok (.iload_n 1, 1) := by decide +kernel
theorem dX12_undo_22 : decode cX12_undo 22 = .ok (.bipush 35, 2) := by decide +kernel
theorem dX12_undo_24 : decode cX12_undo 24 = .ok (.if_icmp .ge 32, 3) := by decide +kernel
theorem dX12_undo_27 : decode cX12_undo 27 = .ok (.aload_n 0, 1) := by decide +kernel
theorem dX12_undo_28 : decode cX12_undo 28 = .ok (.getfield 39, 3) := by decide +kernel
theorem dX12_undo_31 : decode cX12_undo 31 = .ok (.bipush 10, 2) := by decide +kernel
theorem dX12_undo_33 : decode cX12_undo 33 = .ok (.iload_n 1, 1) := by decide +kernel
theorem dX12_undo_34 : decode cX12_undo 34 = .ok (.iadd, 1) := by decide +kernel
theorem dX12_undo_35 : decode cX12_undo 35 = .ok (.aload_n 0, 1) := by decide +kernel
theorem dX12_undo_36 : decode cX12_undo 36 = .ok (.getfield 49, 3) := by decide +kernel
theorem dX12_undo_39 : decode cX12_undo 39 = .ok (.bipush 35, 2) := by decide +kernel
theorem dX12_undo_41 : decode cX12_undo 41 = .ok (.aload_n 0, 1) := by decide +kernel
theorem dX12_undo_42 : decode cX12_undo 42 = .ok (.getfield 263, 3) := by decide +kernel
theorem dX12_undo_45 : decode cX12_undo 45 = .ok (.imul, 1) := by decide +kernel
theorem dX12_undo_46 : decode cX12_undo 46 = .ok (.iload_n 1, 1) := by decide +kernel
theorem dX12_undo_47 : decode cX12_undo 47 = .ok (.iadd, 1) := by decide +kernel
theorem dX12_undo_48 : decode cX12_undo 48 = .ok (.iaload, 1) := by decide +kernel
theorem dX12_undo_49 : decode cX12_undo 49 = .ok (.iastore, 1) := by decide +kernel
theorem dX12_undo_50 : decode cX12_undo 50 = .ok (.iinc 1 1, 3) := by decide +kernel
theorem dX12_undo_53 : decode cX12_undo 53 = .ok (.goto (-32), 3) := by decide +kernel
theorem dX12_undo_56 : decode cX12_undo 56 = .ok (.aload_n 0, 1) := by decide +kernel
theorem dX12_undo_57 : decode cX12_undo 57 = .ok (.getfield 263, 3) := by decide +kernel
theorem dX12_undo_60 : decode cX12_undo 60 = .ok (.ireturn, 1) := by decide +kernel
theorem dX12_month_0 : decode cX12_month 0 = .ok (.aload_n 0, 1) := by decide +kernel
theorem dX12_month_1 : decode cX12_month 1 = .ok (.invokevirtual 357, 3) := by decide +kernel
theorem dX12_month_4 : decode cX12_month 4 = .ok (.ifCond .eq 16, 3) := by decide +kernel
theorem dX12_month_7 : decode cX12_month 7 = .ok (.aload_n 0, 1) := by decide +kernel
theorem dX12_month_8 : decode cX12_month 8 = .ok (.getfield 39, 3) := by decide +kernel
theorem dX12_month_11 : decode cX12_month 11 = .ok (.bipush 12, 2) := by decide +kernel
theorem dX12_month_13 : decode cX12_month 13 = .ok (.iaload, 1) := by decide +kernel
theorem dX12_month_14 : decode cX12_month 14 = .ok (.sipush 999, 3) := by decide +kernel
theorem dX12_month_17 : decode cX12_month 17 = .ok (.if_icmp .ne 5, 3) := by decide +kernel
theorem dX12_month_20 : decode cX12_month 20 = .ok (.iconst (-1), 1) := by decide +kernel
theorem dX12_month_21 : decode cX12_month 21 = .ok (.ireturn, 1) := by decide +kernel
theorem dX12_month_22 : decode cX12_month 22 = .ok (.aload_n 0, 1) := by decide +kernel
theorem dX12_month_23 : decode cX12_month 23 = .ok (.invokevirtual 360, 3) := by decide +kernel
theorem dX12_month_26 : decode cX12_month 26 = .ok (.aload_n 0, 1) := by decide +kernel
theorem dX12_month_27 : decode cX12_month 27 = .ok (.invokevirtual 363, 3) := by decide +kernel
theorem dX12_month_30 : decode cX12_month 30 = .ok (.ireturn, 1) := by decide +kernel
theorem dX12_canSail_0 : decode cX12_canSail 0 = .ok (.aload_n 0, 1) := by decide +kernel
theorem dX12_canSail_1 : decode cX12_canSail 1 = .ok (.iload_n 1, 1) := by decide +kernel
theorem dX12_canSail_2 : decode cX12_canSail 2 = .ok (.invokevirtual 296, 3) := by decide +kernel
theorem dX12_canSail_5 : decode cX12_canSail 5 = .ok (.aload_n 0, 1) := by decide +kernel
theorem dX12_canSail_6 : decode cX12_canSail 6 = .ok (.getfield 39, 3) := by decide +kernel
theorem dX12_canSail_9 : decode cX12_canSail 9 = .ok (.iconst 1, 1) := by decide +kernel
theorem dX12_canSail_10 : decode cX12_canSail 10 = .ok (.iaload, 1) := by decide +kernel
theorem dX12_canSail_11 : decode cX12_canSail 11 = .ok (.iload_n 2, 1) := by decide +kernel
theorem dX12_canSail_12 : decode cX12_canSail 12 = .ok (.imul, 1) := by decide +kernel
theorem dX12_canSail_13 : decode cX12_canSail 13 = .ok (.iadd, 1) := by decide +kernel
theorem dX12_canSail_14 : decode cX12_canSail 14 = .ok (.iload_n 3, 1) := by decide +kernel
theorem dX12_canSail_15 : decode cX12_canSail 15 = .ok (.ifCond .eq 7, 3) := by decide +kernel
theorem dX12_canSail_18 : decode cX12_canSail 18 = .ok (.iload_n 2, 1) := by decide +kernel
theorem dX12_canSail_19 : decode cX12_canSail 19 = .ok (.goto 4, 3) := by decide +kernel
theorem dX12_canSail_22 : decode cX12_canSail 22 = .ok (.iconst 0, 1) := by decide +kernel
theorem dX12_canSail_23 : decode cX12_canSail 23 = .ok (.iadd, 1) := by decide +kernel
theorem dX12_canSail_24 : decode cX12_canSail 24 = .ok (.istore 4, 2) := by decide +kernel
theorem dX12_canSail_26 : decode cX12_canSail 26 = .ok (.aload_n 0, 1) := by decide +kernel
theorem dX12_canSail_27 : decode cX12_canSail 27 = .ok (.iload_n 1, 1) := by decide +kernel
theorem dX12_canSail_28 : decode cX12_canSail 28 = .ok (.invokevirtual 342, 3) := by decide +kernel
theorem dX12_canSail_31 : decode cX12_canSail 31 = .ok (.ifCond .eq 45, 3) := by decide +kernel
theorem dX12_canSail_34 : decode cX12_canSail 34 = .ok (.iload_n 2, 1) := by decide +kernel
theorem dX12_canSail_35 : decode cX12_canSail 35 = .ok (.i2l, 1) := by decide +kernel
theorem dX12_canSail_36 : decode cX12_canSail 36 = .ok (.lconst 1, 1) := by decide +kernel
theorem dX12_canSail_37 : decode cX12_canSail 37 = .ok (.aload_n 0, 1) := by decide +kernel
theorem dX12_canSail_38 : decode cX12_canSail 38 = .ok (.iload_n 1, 1) := by decide +kernel
theorem dX12_canSail_39 : decode cX12_canSail 39 = .ok (.invokevirtual 293, 3) := by decide +kernel
theorem dX12_canSail_42 : decode cX12_canSail 42 = .ok (.i2l, 1) := by decide +kernel
theorem dX12_canSail_43 : decode cX12_canSail 43 = .ok (.invokestatic 112, 3) := by decide +kernel
theorem dX12_canSail_46 : decode cX12_canSail 46 = .ok (.ifCond .eq 30, 3) := by decide +kernel
theorem dX12_canSail_49 : decode cX12_canSail 49 = .ok (.iload_n 2, 1) := by decide +kernel
theorem dX12_canSail_50 : decode cX12_canSail 50 = .ok (.aload_n 0, 1) := by decide +kernel
theorem dX12_canSail_51 : decode cX12_canSail 51 = .ok (.getfield 39, 3) := by decide +kernel
theorem dX12_canSail_54 : decode cX12_canSail 54 = .ok (.bipush 11, 2) := by decide +kernel
theorem dX12_canSail_56 : decode cX12_canSail 56 = .ok (.iaload, 1) := by decide +kernel
theorem dX12_canSail_57 : decode cX12_canSail 57 = .ok (.if_icmp .gt 19, 3) := by decide +kernel
theorem dX12_canSail_60 : decode cX12_canSail 60 = .ok (.iload 4, 2) := by decide +kernel
theorem dX12_canSail_62 : decode cX12_canSail 62 = .ok (.aload_n 0, 1) := by decide +kernel
theorem dX12_canSail_63 : decode cX12_canSail 63 = .ok (.getfield 39, 3) := by decide +kernel
theorem dX12_canSail_66 : decode cX12_canSail 66 = .ok (.bipush 10, 2) := by decide +kernel
theorem dX12_canSail_68 : decode cX12_canSail 68 = .ok (.iaload, 1) := by decide +kernel
theorem dX12_canSail_69 : decode cX12_canSail 69 = .ok (.if_icmp .gt 7, 3) := by decide +kernel
theorem dX12_canSail_72 : decode cX12_canSail 72 = .ok (.iconst 1, 1) := by decide +kernel
theorem dX12_canSail_73 : decode cX12_canSail 73 = .ok (.goto 4, 3) := by decide +kernel
theorem dX12_canSail_76 : decode cX12_canSail 76 = .ok (.iconst 0, 1) := by decide +kernel
theorem dX12_canSail_77 : decode cX12_canSail 77 = .ok (.ireturn, 1) := by decide +kernel
theorem dX12_sail_0 : decode cX12_sail 0 = .ok (.aload_n 0, 1) := by decide +kernel
theorem dX12_sail_1 : decode cX12_sail 1 = .ok (.iload_n 1, 1) := by decide +kernel
theorem dX12_sail_2 : decode cX12_sail 2 = .ok (.invokevirtual 288, 3) := by decide +kernel
theorem dX12_sail_5 : decode cX12_sail 5 = .ok (.ifCond .eq 34, 3) := by decide +kernel
theorem dX12_sail_8 : decode cX12_sail 8 = .ok (.aload_n 0, 1) := by decide +kernel
theorem dX12_sail_9 : decode cX12_sail 9 = .ok (.iload_n 2, 1) := by decide +kernel
theorem dX12_sail_10 : decode cX12_sail 10 = .ok (.invokevirtual 299, 3) := by decide +kernel
theorem dX12_sail_13 : decode cX12_sail 13 = .ok (.ifCond .eq 26, 3) := by decide +kernel
theorem dX12_sail_16 : decode cX12_sail 16 = .ok (.iload_n 3, 1) := by decide +kernel
theorem dX12_sail_17 : decode cX12_sail 17 = .ok (.i2l, 1) := by decide +kernel
theorem dX12_sail_18 : decode cX12_sail 18 = .ok (.lconst 1, 1) := by decide +kernel
theorem dX12_sail_19 : decode cX12_sail 19 = .ok (.ldc2_w 366, 3) := by decide +kernel
theorem dX12_sail_22 : decode cX12_sail 22 = .ok (.invokestatic 112, 3) := by decide +kernel
theorem dX12_sail_25 : decode cX12_sail 25 = .ok (.ifCond .eq 14, 3) := by decide +kernel
theorem dX12_sail_28 : decode cX12_sail 28 = .ok (.aload_n 0, 1) := by decide +kernel
theorem dX12_sail_29 : decode cX12_sail 29 = .ok (.iload_n 1, 1) := by decide +kernel
theorem dX12_sail_30 : decode cX12_sail 30 = .ok (.iload_n 3, 1) := by decide +kernel
theorem dX12_sail_31 : decode cX12_sail 31 = .ok (.iload 4, 2) := by decide +kernel
theorem dX12_sail_33 : decode cX12_sail 33 = .ok (.invokevirtual 368, 3) := by decide +kernel
theorem dX12_sail_36 : decode cX12_sail 36 = .ok (.ifCond .ne 5, 3) := by decide +kernel
theorem dX12_sail_39 : decode cX12_sail 39 = .ok (.iconst (-1), 1) := by decide +kernel
theorem dX12_sail_40 : decode cX12_sail 40 = .ok (.ireturn, 1) := by decide +kernel
theorem dX12_sail_41 : decode cX12_sail 41 = .ok (.aload_n 0, 1) := by decide +kernel
theorem dX12_sail_42 : decode cX12_sail 42 = .ok (.invokevirtual 360, 3) := by decide +kernel
theorem dX12_sail_45 : decode cX12_sail 45 = .ok (.aload_n 0, 1) := by decide +kernel
theorem dX12_sail_46 : decode cX12_sail 46 = .ok (.iload_n 1, 1) := by decide +kernel
theorem dX12_sail_47 : decode cX12_sail 47 = .ok (.iload_n 2, 1) := by decide +kernel
theorem dX12_sail_48 : decode cX12_sail 48 = .ok (.iload_n 3, 1) := by decide +kernel
theorem dX12_sail_49 : decode cX12_sail 49 = .ok (.iload 4, 2) := by decide +kernel
theorem dX12_sail_51 : decode cX12_sail 51 = .ok (.invokevirtual 334, 3) := by decide +kernel
theorem dX12_sail_54 : decode cX12_sail 54 = .ok (.aload_n 0, 1) := by decide +kernel
theorem dX12_sail_55 : decode cX12_sail 55 = .ok (.getfield 39, 3) := by decide +kernel
theorem dX12_sail_58 : decode cX12_sail 58 = .ok (.bipush 10, 2) := by decide +kernel
theorem dX12_sail_60 : decode cX12_sail 60 = .ok (.iaload, 1) := by decide +kernel
theorem dX12_sail_61 : decode cX12_sail 61 = .ok (.ireturn, 1) := by decide +kernel
theorem dX12_teaches_0 : decode cX12_teaches 0 = .ok (.aload_n 0, 1) := by decide +kernel
theorem dX12_teaches_1 : decode cX12_teaches 1 = .ok (.getfield 39, 3) := by decide +kernel
theorem dX12_teaches_4 : decode cX12_teaches 4 = .ok (.bipush 25, 2) := by decide +kernel
theorem dX12_teaches_6 : decode cX12_teaches 6 = .ok (.iconst 5, 1) := by decide +kernel
theorem dX12_teaches_7 : decode cX12_teaches 7 = .ok (.iload_n 1, 1) := by decide +kernel
theorem dX12_teaches_8 : decode cX12_teaches 8 = .ok (.imul, 1) := by decide +kernel
theorem dX12_teaches_9 : decode cX12_teaches 9 = .ok (.iadd, 1) := by decide +kernel
theorem dX12_teaches_10 : decode cX12_teaches 10 = .ok (.iconst 2, 1) := by decide +kernel
theorem dX12_teaches_11 : decode cX12_teaches 11 = .ok (.iadd, 1) := by decide +kernel
theorem dX12_teaches_12 : decode cX12_teaches 12 = .ok (.dup2, 1) := by decide +kernel
theorem dX12_teaches_13 : decode cX12_teaches 13 = .ok (.iaload, 1) := by decide +kernel
theorem dX12_teaches_14 : decode cX12_teaches 14 = .ok (.iload_n 2, 1) := by decide +kernel
theorem dX12_teaches_15 : decode cX12_teaches 15 = .ok (.isub, 1) := by decide +kernel
theorem dX12_teaches_16 : decode cX12_teaches 16 = .ok (.iastore, 1) := by decide +kernel
theorem dX12_teaches_17 : decode cX12_teaches 17 = .ok (.aload_n 0, 1) := by decide +kernel
theorem dX12_teaches_18 : decode cX12_teaches 18 = .ok (.getfield 39, 3) := by decide +kernel
theorem dX12_teaches_21 : decode cX12_teaches 21 = .ok (.bipush 25, 2) := by decide +kernel
theorem dX12_teaches_23 : decode cX12_teaches 23 = .ok (.iconst 5, 1) := by decide +kernel
theorem dX12_teaches_24 : decode cX12_teaches 24 = .ok (.iload_n 1, 1) := by decide +kernel
theorem dX12_teaches_25 : decode cX12_teaches 25 = .ok (.imul, 1) := by decide +kernel
theorem dX12_teaches_26 : decode cX12_teaches 26 = .ok (.iadd, 1) := by decide +kernel
theorem dX12_teaches_27 : decode cX12_teaches 27 = .ok (.aload_n 0, 1) := by decide +kernel
theorem dX12_teaches_28 : decode cX12_teaches 28 = .ok (.iload_n 1, 1) := by decide +kernel
theorem dX12_teaches_29 : decode cX12_teaches 29 = .ok (.iconst 0, 1) := by decide +kernel
theorem dX12_teaches_30 : decode cX12_teaches 30 = .ok (.invokevirtual 308, 3) := by decide +kernel
theorem dX12_teaches_33 : decode cX12_teaches 33 = .ok (.iload_n 2, 1) := by decide +kernel
theorem dX12_teaches_34 : decode cX12_teaches 34 = .ok (.iadd, 1) := by decide +kernel
theorem dX12_teaches_35 : decode cX12_teaches 35 = .ok (.bipush 99, 2) := by decide +kernel
theorem dX12_teaches_37 : decode cX12_teaches 37 = .ok (.invokestatic 321, 3) := by decide +kernel
theorem dX12_teaches_40 : decode cX12_teaches 40 = .ok (.iastore, 1) := by decide +kernel
theorem dX12_teaches_41 : decode cX12_teaches 41 = .ok (.return_, 1) := by decide +kernel
theorem dX12_teach_0 : decode cX12_teach 0 = .ok (.aload_n 0, 1) := by decide +kernel
theorem dX12_teach_1 : decode cX12_teach 1 = .ok (.iload_n 1, 1) := by decide +kernel
theorem dX12_teach_2 : decode cX12_teach 2 = .ok (.invokevirtual 299, 3) := by decide +kernel
theorem dX12_teach_5 : decode cX12_teach 5 = .ok (.ifCond .eq 18, 3) := by decide +kernel
theorem dX12_teach_8 : decode cX12_teach 8 = .ok (.iload_n 2, 1) := by decide +kernel
theorem dX12_teach_9 : decode cX12_teach 9 = .ok (.iconst 1, 1) := by decide +kernel
theorem dX12_teach_10 : decode cX12_teach 10 = .ok (.if_icmp .lt 13, 3) := by decide +kernel
theorem dX12_teach_13 : decode cX12_teach 13 = .ok (.iload_n 2, 1) := by decide +kernel
theorem dX12_teach_14 : decode cX12_teach 14 = .ok (.aload_n 0, 1) := by decide +kernel
theorem dX12_teach_15 : decode cX12_teach 15 = .ok (.iload_n 1, 1) := by decide +kernel
theorem dX12_teach_16 : decode cX12_teach 16 = .ok (.iconst 2, 1) := by decide +kernel
theorem dX12_teach_17 : decode cX12_teach 17 = .ok (.invokevirtual 308, 3) := by decide +kernel
theorem dX12_teach_20 : decode cX12_teach 20 = .ok (.if_icmp .le 5, 3) := by decide +kernel
theorem dX12_teach_23 : decode cX12_teach 23 = .ok (.iconst (-1), 1) := by decide +kernel
theorem dX12_teach_24 : decode cX12_teach 24 = .ok (.ireturn, 1) := by decide +kernel
theorem dX12_teach_25 : decode cX12_teach 25 = .ok (.aload_n 0, 1) := by decide +kernel
theorem dX12_teach_26 : decode cX12_teach 26 = .ok (.invokevirtual 360, 3) := by decide +kernel
theorem dX12_teach_29 : decode cX12_teach 29 = .ok (.aload_n 0, 1) := by decide +kernel
theorem dX12_teach_30 : decode cX12_teach 30 = .ok (.iload_n 1, 1) := by decide +kernel
theorem dX12_teach_31 : decode cX12_teach 31 = .ok (.iload_n 2, 1) := by decide +kernel
theorem dX12_teach_32 : decode cX12_teach 32 = .ok (.invokevirtual 372, 3) := by decide +kernel
theorem dX12_teach_35 : decode cX12_teach 35 = .ok (.aload_n 0, 1) := by decide +kernel
theorem dX12_teach_36 : decode cX12_teach 36 = .ok (.iload_n 1, 1) := by decide +kernel
theorem dX12_teach_37 : decode cX12_teach 37 = .ok (.iconst 0, 1) := by decide +kernel
theorem dX12_teach_38 : decode cX12_teach 38 = .ok (.invokevirtual 308, 3) := by decide +kernel
theorem dX12_teach_41 : decode cX12_teach 41 = .ok (.ireturn, 1) := by decide +kernel
theorem dX12_canBuild_0 : decode cX12_canBuild 0 = .ok (.aload_n 0, 1) := by decide +kernel
theorem dX12_canBuild_1 : decode cX12_canBuild 1 = .ok (.iload_n 1, 1) := by decide +kernel
theorem dX12_canBuild_2 : decode cX12_canBuild 2 = .ok (.iconst 3, 1) := by decide +kernel
theorem dX12_canBuild_3 : decode cX12_canBuild 3 = .ok (.invokevirtual 308, 3) := by decide +kernel
theorem dX12_canBuild_6 : decode cX12_canBuild 6 = .ok (.ifCond .ne 19, 3) := by decide +kernel
theorem dX12_canBuild_9 : decode cX12_canBuild 9 = .ok (.aload_n 0, 1) := by decide +kernel
theorem dX12_canBuild_10 : decode cX12_canBuild 10 = .ok (.getfield 39, 3) := by decide +kernel
theorem dX12_canBuild_13 : decode cX12_canBuild 13 = .ok (.bipush 10, 2) := by decide +kernel
theorem dX12_canBuild_15 : decode cX12_canBuild 15 = .ok (.iaload, 1) := by decide +kernel
theorem dX12_canBuild_16 : decode cX12_canBuild 16 = .ok (.bipush 100, 2) := by decide +kernel
theorem dX12_canBuild_18 : decode cX12_canBuild 18 = .ok (.if_icmp .lt 7, 3) := by decide +kernel
theorem dX12_canBuild_21 : decode cX12_canBuild 21 = .ok (.iconst 1, 1) := by decide +kernel
theorem dX12_canBuild_22 : decode cX12_canBuild 22 = .ok (.goto 4, 3) := by decide +kernel
theorem dX12_canBuild_25 : decode cX12_canBuild 25 = .ok (.iconst 0, 1) := by decide +kernel
theorem dX12_canBuild_26 : decode cX12_canBuild 26 = .ok (.ireturn, 1) := by decide +kernel
theorem dX12_builds_0 : decode cX12_builds 0 = .ok (.aload_n 0, 1) := by decide +kernel
theorem dX12_builds_1 : decode cX12_builds 1 = .ok (.getfield 39, 3) := by decide +kernel
theorem dX12_builds_4 : decode cX12_builds 4 = .ok (.bipush 10, 2) := by decide +kernel
theorem dX12_builds_6 : decode cX12_builds 6 = .ok (.dup2, 1) := by decide +kernel
theorem dX12_builds_7 : decode cX12_builds 7 = .ok (.iaload, 1) := by decide +kernel
theorem dX12_builds_8 : decode cX12_builds 8 = .ok (.bipush 100, 2) := by decide +kernel
theorem dX12_builds_10 : decode cX12_builds 10 = .ok (.isub, 1) := by decide +kernel
theorem dX12_builds_11 : decode cX12_builds 11 = .ok (.iastore, 1) := by decide +kernel
theorem dX12_builds_12 : decode cX12_builds 12 = .ok (.aload_n 0, 1) := by decide +kernel
theorem dX12_builds_13 : decode cX12_builds 13 = .ok (.getfield 39, 3) := by decide +kernel
theorem dX12_builds_16 : decode cX12_builds 16 = .ok (.bipush 25, 2) := by decide +kernel
theorem dX12_builds_18 : decode cX12_builds 18 = .ok (.iconst 5, 1) := by decide +kernel
theorem dX12_builds_19 : decode cX12_builds 19 = .ok (.iload_n 1, 1) := by decide +kernel
theorem dX12_builds_20 : decode cX12_builds 20 = .ok (.imul, 1) := by decide +kernel
theorem dX12_builds_21 : decode cX12_builds 21 = .ok (.iadd, 1) := by decide +kernel
theorem dX12_builds_22 : decode cX12_builds 22 = .ok (.iconst 3, 1) := by decide +kernel
theorem dX12_builds_23 : decode cX12_builds 23 = .ok (.iadd, 1) := by decide +kernel
theorem dX12_builds_24 : decode cX12_builds 24 = .ok (.iconst 1, 1) := by decide +kernel
theorem dX12_builds_25 : decode cX12_builds 25 = .ok (.iastore, 1) := by decide +kernel
theorem dX12_builds_26 : decode cX12_builds 26 = .ok (.return_, 1) := by decide +kernel
theorem dX12_build_0 : decode cX12_build 0 = .ok (.aload_n 0, 1) := by decide +kernel
theorem dX12_build_1 : decode cX12_build 1 = .ok (.iload_n 1, 1) := by decide +kernel
theorem dX12_build_2 : decode cX12_build 2 = .ok (.invokevirtual 299, 3) := by decide +kernel
theorem dX12_build_5 : decode cX12_build 5 = .ok (.ifCond .eq 11, 3) := by decide +kernel
theorem dX12_build_8 : decode cX12_build 8 = .ok (.aload_n 0, 1) := by decide +kernel
theorem dX12_build_9 : decode cX12_build 9 = .ok (.iload_n 1, 1) := by decide +kernel
theorem dX12_build_10 : decode cX12_build 10 = .ok (.invokevirtual 375, 3) := by decide +kernel
theorem dX12_build_13 : decode cX12_build 13 = .ok (.ifCond .ne 5, 3) := by decide +kernel
theorem dX12_build_16 : decode cX12_build 16 = .ok (.iconst (-1), 1) := by decide +kernel
theorem dX12_build_17 : decode cX12_build 17 = .ok (.ireturn, 1) := by decide +kernel
theorem dX12_build_18 : decode cX12_build 18 = .ok (.aload_n 0, 1) := by decide +kernel
theorem dX12_build_19 : decode cX12_build 19 = .ok (.invokevirtual 360, 3) := by decide +kernel
theorem dX12_build_22 : decode cX12_build 22 = .ok (.aload_n 0, 1) := by decide +kernel
theorem dX12_build_23 : decode cX12_build 23 = .ok (.iload_n 1, 1) := by decide +kernel
theorem dX12_build_24 : decode cX12_build 24 = .ok (.invokevirtual 378, 3) := by decide +kernel
theorem dX12_build_27 : decode cX12_build 27 = .ok (.aload_n 0, 1) := by decide +kernel
theorem dX12_build_28 : decode cX12_build 28 = .ok (.getfield 39, 3) := by decide +kernel
theorem dX12_build_31 : decode cX12_build 31 = .ok (.bipush 10, 2) := by decide +kernel
theorem dX12_build_33 : decode cX12_build 33 = .ok (.iaload, 1) := by decide +kernel
theorem dX12_build_34 : decode cX12_build 34 = .ok (.ireturn, 1) := by decide +kernel
theorem dX12_asks_0 : decode cX12_asks 0 = .ok (.aload_n 0, 1) := by decide +kernel
theorem dX12_asks_1 : decode cX12_asks 1 = .ok (.getfield 39, 3) := by decide +kernel
theorem dX12_asks_4 : decode cX12_asks 4 = .ok (.bipush 25, 2) := by decide +kernel
theorem dX12_asks_6 : decode cX12_asks 6 = .ok (.iconst 5, 1) := by decide +kernel
theorem dX12_asks_7 : decode cX12_asks 7 = .ok (.iload_n 1, 1) := by decide +kernel
theorem dX12_asks_8 : decode cX12_asks 8 = .ok (.imul, 1) := by decide +kernel
theorem dX12_asks_9 : decode cX12_asks 9 = .ok (.iadd, 1) := by decide +kernel
theorem dX12_asks_10 : decode cX12_asks 10 = .ok (.aload_n 0, 1) := by decide +kernel
theorem dX12_asks_11 : decode cX12_asks 11 = .ok (.iload_n 1, 1) := by decide +kernel
theorem dX12_asks_12 : decode cX12_asks 12 = .ok (.iconst 0, 1) := by decide +kernel
theorem dX12_asks_13 : decode cX12_asks 13 = .ok (.invokevirtual 308, 3) := by decide +kernel
theorem dX12_asks_16 : decode cX12_asks 16 = .ok (.aload_n 0, 1) := by decide +kernel
theorem dX12_asks_17 : decode cX12_asks 17 = .ok (.iload_n 1, 1) := by decide +kernel
theorem dX12_asks_18 : decode cX12_asks 18 = .ok (.iconst 1, 1) := by decide +kernel
theorem dX12_asks_19 : decode cX12_asks 19 = .ok (.invokevirtual 308, 3) := by decide +kernel
theorem dX12_asks_22 : decode cX12_asks 22 = .ok (.imul, 1) := by decide +kernel
theorem dX12_asks_23 : decode cX12_asks 23 = .ok (.iload_n 2, 1) := by decide +kernel
theorem dX12_asks_24 : decode cX12_asks 24 = .ok (.idiv, 1) := by decide +kernel
theorem dX12_asks_25 : decode cX12_asks 25 = .ok (.bipush 99, 2) := by decide +kernel
theorem dX12_asks_27 : decode cX12_asks 27 = .ok (.invokestatic 321, 3) := by decide +kernel
theorem dX12_asks_30 : decode cX12_asks 30 = .ok (.iastore, 1) := by decide +kernel
theorem dX12_asks_31 : decode cX12_asks 31 = .ok (.aload_n 0, 1) := by decide +kernel
theorem dX12_asks_32 : decode cX12_asks 32 = .ok (.getfield 39, 3) := by decide +kernel
theorem dX12_asks_35 : decode cX12_asks 35 = .ok (.bipush 25, 2) := by decide +kernel
theorem dX12_asks_37 : decode cX12_asks 37 = .ok (.iconst 5, 1) := by decide +kernel
theorem dX12_asks_38 : decode cX12_asks 38 = .ok (.iload_n 1, 1) := by decide +kernel
theorem dX12_asks_39 : decode cX12_asks 39 = .ok (.imul, 1) := by decide +kernel
theorem dX12_asks_40 : decode cX12_asks 40 = .ok (.iadd, 1) := by decide +kernel
theorem dX12_asks_41 : decode cX12_asks 41 = .ok (.iconst 1, 1) := by decide +kernel
theorem dX12_asks_42 : decode cX12_asks 42 = .ok (.iadd, 1) := by decide +kernel
theorem dX12_asks_43 : decode cX12_asks 43 = .ok (.iload_n 2, 1) := by decide +kernel
theorem dX12_asks_44 : decode cX12_asks 44 = .ok (.iastore, 1) := by decide +kernel
theorem dX12_asks_45 : decode cX12_asks 45 = .ok (.return_, 1) := by decide +kernel
theorem dX12_ask_0 : decode cX12_ask 0 = .ok (.aload_n 0, 1) := by decide +kernel
theorem dX12_ask_1 : decode cX12_ask 1 = .ok (.iload_n 1, 1) := by decide +kernel
theorem dX12_ask_2 : decode cX12_ask 2 = .ok (.invokevirtual 299, 3) := by decide +kernel
theorem dX12_ask_5 : decode cX12_ask 5 = .ok (.ifCond .eq 25, 3) := by decide +kernel
theorem dX12_ask_8 : decode cX12_ask 8 = .ok (.iload_n 2, 1) := by decide +kernel
theorem dX12_ask_9 : decode cX12_ask 9 = .ok (.i2l, 1) := by decide +kernel
theorem dX12_ask_10 : decode cX12_ask 10 = .ok (.lconst 1, 1) := by decide +kernel
theorem dX12_ask_11 : decode cX12_ask 11 = .ok (.ldc2_w 366, 3) := by decide +kernel
theorem dX12_ask_14 : decode cX12_ask 14 = .ok (.invokestatic 112, 3) := by decide +kernel
theorem dX12_ask_17 : decode cX12_ask 17 = .ok (.ifCond .eq 13, 3) := by decide +kernel
theorem dX12_ask_20 : decode cX12_ask 20 = .ok (.aload_n 0, 1) := by decide +kernel
theorem dX12_ask_21 : decode cX12_ask 21 = .ok (.iload_n 1, 1) := by decide +kernel
theorem dX12_ask_22 : decode cX12_ask 22 = .ok (.iconst 1, 1) := by decide +kernel
theorem dX12_ask_23 : decode cX12_ask 23 = .ok (.invokevirtual 308, 3) := by decide +kernel
theorem dX12_ask_26 : decode cX12_ask 26 = .ok (.iload_n 2, 1) := by decide +kernel
theorem dX12_ask_27 : decode cX12_ask 27 = .ok (.if_icmp .ne 5, 3) := by decide +kernel
theorem dX12_ask_30 : decode cX12_ask 30 = .ok (.iconst (-1), 1) := by decide +kernel
theorem dX12_ask_31 : decode cX12_ask 31 = .ok (.ireturn, 1) := by decide +kernel
theorem dX12_ask_32 : decode cX12_ask 32 = .ok (.aload_n 0, 1) := by decide +kernel
theorem dX12_ask_33 : decode cX12_ask 33 = .ok (.invokevirtual 360, 3) := by decide +kernel
theorem dX12_ask_36 : decode cX12_ask 36 = .ok (.aload_n 0, 1) := by decide +kernel
theorem dX12_ask_37 : decode cX12_ask 37 = .ok (.iload_n 1, 1) := by decide +kernel
theorem dX12_ask_38 : decode cX12_ask 38 = .ok (.iload_n 2, 1) := by decide +kernel
theorem dX12_ask_39 : decode cX12_ask 39 = .ok (.invokevirtual 381, 3) := by decide +kernel
theorem dX12_ask_42 : decode cX12_ask 42 = .ok (.aload_n 0, 1) := by decide +kernel
theorem dX12_ask_43 : decode cX12_ask 43 = .ok (.iload_n 1, 1) := by decide +kernel
theorem dX12_ask_44 : decode cX12_ask 44 = .ok (.iconst 0, 1) := by decide +kernel
theorem dX12_ask_45 : decode cX12_ask 45 = .ok (.invokevirtual 308, 3) := by decide +kernel
theorem dX12_ask_48 : decode cX12_ask 48 = .ok (.ireturn, 1) := by decide +kernel
theorem dX12_keeps_0 : decode cX12_keeps 0 = .ok (.iconst 0, 1) := by decide +kernel
theorem dX12_keeps_1 : decode cX12_keeps 1 = .ok (.istore_n 1, 1) := by decide +kernel
theorem dX12_keeps_2 : decode cX12_keeps 2 = .ok (.iload_n 1, 1) := by decide +kernel
theorem dX12_keeps_3 : decode cX12_keeps 3 = .ok (.bipush 35, 2) := by decide +kernel
theorem dX12_keeps_5 : decode cX12_keeps 5 = .ok (.if_icmp .ge 24, 3) := by decide +kernel
theorem dX12_keeps_8 : decode cX12_keeps 8 = .ok (.aload_n 0, 1) := by decide +kernel
theorem dX12_keeps_9 : decode cX12_keeps 9 = .ok (.getfield 52, 3) := by decide +kernel
theorem dX12_keeps_12 : decode cX12_keeps 12 = .ok (.iload_n 1, 1) := by decide +kernel
theorem dX12_keeps_13 : decode cX12_keeps 13 = .ok (.aload_n 0, 1) := by decide +kernel
theorem dX12_keeps_14 : decode cX12_keeps 14 = .ok (.getfield 39, 3) := by decide +kernel
theorem dX12_keeps_17 : decode cX12_keeps 17 = .ok (.bipush 10, 2) := by decide +kernel
theorem dX12_keeps_19 : decode cX12_keeps 19 = .ok (.iload_n 1, 1) := by decide +kernel
theorem dX12_keeps_20 : decode cX12_keeps 20 = .ok (.iadd, 1) := by decide +kernel
theorem dX12_keeps_21 : decode cX12_keeps 21 = .ok (.iaload, 1) := by decide +kernel
theorem dX12_keeps_22 : decode cX12_keeps 22 = .ok (.iastore, 1) := by decide +kernel
theorem dX12_keeps_23 : decode cX12_keeps 23 = .ok (.iinc 1 1, 3) := by decide +kernel
theorem dX12_keeps_26 : decode cX12_keeps 26 = .ok (.goto (-24), 3) := by decide +kernel
theorem dX12_keeps_29 : decode cX12_keeps 29 = .ok (.return_, 1) := by decide +kernel
theorem dX12_laysBack_0 : decode cX12_laysBack 0 = .ok (.iconst 0, 1) := by decide +kernel
theorem dX12_laysBack_1 : decode cX12_laysBack 1 = .ok (.istore_n 1, 1) := by decide +kernel
theorem dX12_laysBack_2 : decode cX12_laysBack 2 = .ok (.iload_n 1, 1) := by decide +kernel
theorem dX12_laysBack_3 : decode cX12_laysBack 3 = .ok (.bipush 35, 2) := by decide +kernel
theorem dX12_laysBack_5 : decode cX12_laysBack 5 = .ok (.if_icmp .ge 24, 3) := by decide +kernel
theorem dX12_laysBack_8 : decode cX12_laysBack 8 = .ok (.aload_n 0, 1) := by decide +kernel
theorem dX12_laysBack_9 : decode cX12_laysBack 9 = .ok (.getfield 39, 3) := by decide +kernel
theorem dX12_laysBack_12 : decode cX12_laysBack 12 = .ok (.bipush 10, 2) := by decide +kernel
theorem dX12_laysBack_14 : decode cX12_laysBack 14 = .ok (.iload_n 1, 1) := by decide +kernel
theorem dX12_laysBack_15 : decode cX12_laysBack 15 = .ok (.iadd, 1) := by decide +kernel
theorem dX12_laysBack_16 : decode cX12_laysBack 16 = .ok (.aload_n 0, 1) := by decide +kernel
theorem dX12_laysBack_17 : decode cX12_laysBack 17 = .ok (.getfield 52, 3) := by decide +kernel
theorem dX12_laysBack_20 : decode cX12_laysBack 20 = .ok (.iload_n 1, 1) := by decide +kernel
theorem dX12_laysBack_21 : decode cX12_laysBack 21 = .ok (.iaload, 1) := by decide +kernel
theorem dX12_laysBack_22 : decode cX12_laysBack 22 = .ok (.iastore, 1) := by decide +kernel
theorem dX12_laysBack_23 : decode cX12_laysBack 23 = .ok (.iinc 1 1, 3) := by decide +kernel
theorem dX12_laysBack_26 : decode cX12_laysBack 26 = .ok (.goto (-24), 3) := by decide +kernel
theorem dX12_laysBack_29 : decode cX12_laysBack 29 = .ok (.return_, 1) := by decide +kernel
theorem dX12_ahead_0 : decode cX12_ahead 0 = .ok (.aload_n 0, 1) := by decide +kernel
theorem dX12_ahead_1 : decode cX12_ahead 1 = .ok (.invokevirtual 357, 3) := by decide +kernel
theorem dX12_ahead_4 : decode cX12_ahead 4 = .ok (.ifCond .eq 40, 3) := by decide +kernel
theorem dX12_ahead_7 : decode cX12_ahead 7 = .ok (.iload_n 2, 1) := by decide +kernel
theorem dX12_ahead_8 : decode cX12_ahead 8 = .ok (.i2l, 1) := by decide +kernel
theorem dX12_ahead_9 : decode cX12_ahead 9 = .ok (.lconst 0, 1) := by decide +kernel
theorem dX12_ahead_10 : decode cX12_ahead 10 = .ok (.ldc2_w 384, 3) := by decide +kernel
theorem dX12_ahead_13 : decode cX12_ahead 13 = .ok (.invokestatic 112, 3) := by decide +kernel
theorem dX12_ahead_16 : decode cX12_ahead 16 = .ok (.ifCond .eq 28, 3) := by decide +kernel
theorem dX12_ahead_19 : decode cX12_ahead 19 = .ok (.iload_n 3, 1) := by decide +kernel
theorem dX12_ahead_20 : decode cX12_ahead 20 = .ok (.i2l, 1) := by decide +kernel
theorem dX12_ahead_21 : decode cX12_ahead 21 = .ok (.lconst 0, 1) := by decide +kernel
theorem dX12_ahead_22 : decode cX12_ahead 22 = .ok (.ldc2_w 386, 3) := by decide +kernel
theorem dX12_ahead_25 : decode cX12_ahead 25 = .ok (.invokestatic 112, 3) := by decide +kernel
theorem dX12_ahead_28 : decode cX12_ahead 28 = .ok (.ifCond .eq 16, 3) := by decide +kernel
theorem dX12_ahead_31 : decode cX12_ahead 31 = .ok (.iload_n 3, 1) := by decide +kernel
theorem dX12_ahead_32 : decode cX12_ahead 32 = .ok (.iconst 1, 1) := by decide +kernel
theorem dX12_ahead_33 : decode cX12_ahead 33 = .ok (.if_icmp .le 13, 3) := by decide +kernel
theorem dX12_ahead_36 : decode cX12_ahead 36 = .ok (.aload_n 0, 1) := by decide +kernel
theorem dX12_ahead_37 : decode cX12_ahead 37 = .ok (.iload_n 1, 1) := by decide +kernel
theorem dX12_ahead_38 : decode cX12_ahead 38 = .ok (.invokevirtual 299, 3) := by decide +kernel
theorem dX12_ahead_41 : decode cX12_ahead 41 = .ok (.ifCond .ne 5, 3) := by decide +kernel
theorem dX12_ahead_44 : decode cX12_ahead 44 = .ok (.iconst (-1), 1) := by decide +kernel
theorem dX12_ahead_45 : decode cX12_ahead 45 = .ok (.ireturn, 1) := by decide +kernel
theorem dX12_ahead_46 : decode cX12_ahead 46 = .ok (.aload_n 0, 1) := by decide +kernel
theorem dX12_ahead_47 : decode cX12_ahead 47 = .ok (.invokevirtual 388, 3) := by decide +kernel
theorem dX12_ahead_50 : decode cX12_ahead 50 = .ok (.iconst 0, 1) := by decide +kernel
theorem dX12_ahead_51 : decode cX12_ahead 51 = .ok (.istore 4, 2) := by decide +kernel
theorem dX12_ahead_53 : decode cX12_ahead 53 = .ok (.iload 4, 2) := by decide +kernel
theorem dX12_ahead_55 : decode cX12_ahead 55 = .ok (.iload_n 2, 1) := by decide +kernel
theorem dX12_ahead_56 : decode cX12_ahead 56 = .ok (.if_icmp .ge 14, 3) := by decide +kernel
theorem dX12_ahead_59 : decode cX12_ahead 59 = .ok (.aload_n 0, 1) := by decide +kernel
theorem dX12_ahead_60 : decode cX12_ahead 60 = .ok (.invokevirtual 363, 3) := by decide +kernel
theorem dX12_ahead_63 : decode cX12_ahead 63 = .ok (.pop, 1) := by decide +kernel
theorem dX12_ahead_64 : decode cX12_ahead 64 = .ok (.iinc 4 1, 3) := by decide +kernel
theorem dX12_ahead_67 : decode cX12_ahead 67 = .ok (.goto (-14), 3) := by decide +kernel
theorem dX12_ahead_70 : decode cX12_ahead 70 = .ok (.iload_n 3, 1) := by decide +kernel
theorem dX12_ahead_71 : decode cX12_ahead 71 = .ok (.ifCond .ne 13, 3) := by decide +kernel
theorem dX12_ahead_74 : decode cX12_ahead 74 = .ok (.aload_n 0, 1) := by decide +kernel
theorem dX12_ahead_75 : decode cX12_ahead 75 = .ok (.getfield 39, 3) := by decide +kernel
theorem dX12_ahead_78 : decode cX12_ahead 78 = .ok (.bipush 10, 2) := by decide +kernel
theorem dX12_ahead_80 : decode cX12_ahead 80 = .ok (.iaload, 1) := by decide +kernel
theorem dX12_ahead_81 : decode cX12_ahead 81 = .ok (.goto 33, 3) := by decide +kernel
theorem dX12_ahead_84 : decode cX12_ahead 84 = .ok (.iload_n 3, 1) := by decide +kernel
theorem dX12_ahead_85 : decode cX12_ahead 85 = .ok (.iconst 1, 1) := by decide +kernel
theorem dX12_ahead_86 : decode cX12_ahead 86 = .ok (.if_icmp .ne 13, 3) := by decide +kernel
theorem dX12_ahead_89 : decode cX12_ahead 89 = .ok (.aload_n 0, 1) := by decide +kernel
theorem dX12_ahead_90 : decode cX12_ahead 90 = .ok (.getfield 39, 3) := by decide +kernel
theorem dX12_ahead_93 : decode cX12_ahead 93 = .ok (.bipush 11, 2) := by decide +kernel
theorem dX12_ahead_95 : decode cX12_ahead 95 = .ok (.iaload, 1) := by decide +kernel
theorem dX12_ahead_96 : decode cX12_ahead 96 = .ok (.goto 18, 3) := by decide +kernel
theorem dX12_ahead_99 : decode cX12_ahead 99 = .ok (.aload_n 0, 1) := by decide +kernel
theorem dX12_ahead_100 : decode cX12_ahead 100 = .ok (.iload_n 1, 1) := by decide +kernel
theorem dX12_ahead_101 : decode cX12_ahead 101 = .ok (.iload_n 3, 1) := by decide +kernel
theorem dX12_ahead_102 : decode cX12_ahead 102 = .ok (.iconst 2, 1) := by decide +kernel
theorem dX12_ahead_103 : decode cX12_ahead 103 = .ok (.if_icmp .ne 7, 3) := by decide +kernel
theorem dX12_ahead_106 : decode cX12_ahead 106 = .ok (.iconst 2, 1) := by decide +kernel
theorem dX12_ahead_107 : decode cX12_ahead 107 = .ok (.goto 4, 3) := by decide +kernel
theorem dX12_ahead_110 : decode cX12_ahead 110 = .ok (.iconst 0, 1) := by decide +kernel
theorem dX12_ahead_111 : decode cX12_ahead 111 = .ok (.invokevirtual 308, 3) := by decide +kernel
theorem dX12_ahead_114 : decode cX12_ahead 114 = .ok (.istore 4, 2) := by decide +kernel
theorem dX12_ahead_116 : decode cX12_ahead 116 = .ok (.aload_n 0, 1) := by decide +kernel
theorem dX12_ahead_117 : decode cX12_ahead 117 = .ok (.invokevirtual 391, 3) := by decide +kernel
theorem dX12_ahead_120 : decode cX12_ahead 120 = .ok (.iload 4, 2) := by decide +kernel
theorem dX12_ahead_122 : decode cX12_ahead 122 = .ok (.ireturn, 1) := by decide +kernel
theorem dX12_comesOf_0 : decode cX12_comesOf 0 = .ok (.iload_n 2, 1) := by decide +kernel
theorem dX12_comesOf_1 : decode cX12_comesOf 1 = .ok (.istore 4, 2) := by decide +kernel
theorem dX12_comesOf_3 : decode cX12_comesOf 3 = .ok (.iconst 0, 1) := by decide +kernel
theorem dX12_comesOf_4 : decode cX12_comesOf 4 = .ok (.istore 5, 2) := by decide +kernel
theorem dX12_comesOf_6 : decode cX12_comesOf 6 = .ok (.iload 5, 2) := by decide +kernel
theorem dX12_comesOf_8 : decode cX12_comesOf 8 = .ok (.aload_n 0, 1) := by decide +kernel
theorem dX12_comesOf_9 : decode cX12_comesOf 9 = .ok (.iload_n 1, 1) := by decide +kernel
theorem dX12_comesOf_10 : decode cX12_comesOf 10 = .ok (.invokevirtual 302, 3) := by decide +kernel
theorem dX12_comesOf_13 : decode cX12_comesOf 13 = .ok (.if_icmp .ge 19, 3) := by decide +kernel
theorem dX12_comesOf_16 : decode cX12_comesOf 16 = .ok (.aload_n 0, 1) := by decide +kernel
theorem dX12_comesOf_17 : decode cX12_comesOf 17 = .ok (.iload 4, 2) := by decide +kernel
theorem dX12_comesOf_19 : decode cX12_comesOf 19 = .ok (.iload_n 1, 1) := by decide +kernel
theorem dX12_comesOf_20 : decode cX12_comesOf 20 = .ok (.iload_n 3, 1) := by decide +kernel
theorem dX12_comesOf_21 : decode cX12_comesOf 21 = .ok (.invokevirtual 338, 3) := by decide +kernel
theorem dX12_comesOf_24 : decode cX12_comesOf 24 = .ok (.istore 4, 2) := by decide +kernel
theorem dX12_comesOf_26 : decode cX12_comesOf 26 = .ok (.iinc 5 1, 3) := by decide +kernel
theorem dX12_comesOf_29 : decode cX12_comesOf 29 = .ok (.goto (-23), 3) := by decide +kernel
theorem dX12_comesOf_32 : decode cX12_comesOf 32 = .ok (.iload 4, 2) := by decide +kernel
theorem dX12_comesOf_34 : decode cX12_comesOf 34 = .ok (.ireturn, 1) := by decide +kernel
theorem dX12_comes_0 : decode cX12_comes 0 = .ok (.aload_n 0, 1) := by decide +kernel
theorem dX12_comes_1 : decode cX12_comes 1 = .ok (.iload_n 1, 1) := by decide +kernel
theorem dX12_comes_2 : decode cX12_comes 2 = .ok (.invokevirtual 299, 3) := by decide +kernel
theorem dX12_comes_5 : decode cX12_comes 5 = .ok (.ifCond .eq 25, 3) := by decide +kernel
theorem dX12_comes_8 : decode cX12_comes 8 = .ok (.iload_n 2, 1) := by decide +kernel
theorem dX12_comes_9 : decode cX12_comes 9 = .ok (.i2l, 1) := by decide +kernel
theorem dX12_comes_10 : decode cX12_comes 10 = .ok (.lconst 0, 1) := by decide +kernel
theorem dX12_comes_11 : decode cX12_comes 11 = .ok (.ldc2_w 394, 3) := by decide +kernel
theorem dX12_comes_14 : decode cX12_comes 14 = .ok (.invokestatic 112, 3) := by decide +kernel
theorem dX12_comes_17 : decode cX12_comes 17 = .ok (.ifCond .eq 13, 3) := by decide +kernel
theorem dX12_comes_20 : decode cX12_comes 20 = .ok (.aload_n 0, 1) := by decide +kernel
theorem dX12_comes_21 : decode cX12_comes 21 = .ok (.iload_n 1, 1) := by decide +kernel
theorem dX12_comes_22 : decode cX12_comes 22 = .ok (.iload_n 2, 1) := by decide +kernel
theorem dX12_comes_23 : decode cX12_comes 23 = .ok (.iload_n 3, 1) := by decide +kernel
theorem dX12_comes_24 : decode cX12_comes 24 = .ok (.invokevirtual 396, 3) := by decide +kernel
theorem dX12_comes_27 : decode cX12_comes 27 = .ok (.goto 4, 3) := by decide +kernel
theorem dX12_comes_30 : decode cX12_comes 30 = .ok (.iconst (-1), 1) := by decide +kernel
theorem dX12_comes_31 : decode cX12_comes 31 = .ok (.ireturn, 1) := by decide +kernel
theorem dX12_load_0 : decode cX12_load 0 = .ok (.aload_n 0, 1) := by decide +kernel
theorem dX12_load_1 : decode cX12_load 1 = .ok (.iload_n 1, 1) := by decide +kernel
theorem dX12_load_2 : decode cX12_load 2 = .ok (.invokevirtual 299, 3) := by decide +kernel
theorem dX12_load_5 : decode cX12_load 5 = .ok (.ifCond .eq 15, 3) := by decide +kernel
theorem dX12_load_8 : decode cX12_load 8 = .ok (.iload_n 2, 1) := by decide +kernel
theorem dX12_load_9 : decode cX12_load 9 = .ok (.i2l, 1) := by decide +kernel
theorem dX12_load_10 : decode cX12_load 10 = .ok (.lconst 1, 1) := by decide +kernel
theorem dX12_load_11 : decode cX12_load 11 = .ok (.ldc2_w 366, 3) := by decide +kernel
theorem dX12_load_14 : decode cX12_load 14 = .ok (.invokestatic 112, 3) := by decide +kernel
theorem dX12_load_17 : decode cX12_load 17 = .ok (.ifCond .ne 5, 3) := by decide +kernel
theorem dX12_load_20 : decode cX12_load 20 = .ok (.iconst (-1), 1) := by decide +kernel
theorem dX12_load_21 : decode cX12_load 21 = .ok (.ireturn, 1) := by decide +kernel
theorem dX12_load_22 : decode cX12_load 22 = .ok (.iconst 1, 1) := by decide +kernel
theorem dX12_load_23 : decode cX12_load 23 = .ok (.istore 4, 2) := by decide +kernel
theorem dX12_load_25 : decode cX12_load 25 = .ok (.iload 4, 2) := by decide +kernel
theorem dX12_load_27 : decode cX12_load 27 = .ok (.sipush 999, 3) := by decide +kernel
theorem dX12_load_30 : decode cX12_load 30 = .ok (.if_icmp .gt 24, 3) := by decide +kernel
theorem dX12_load_33 : decode cX12_load 33 = .ok (.aload_n 0, 1) := by decide +kernel
theorem dX12_load_34 : decode cX12_load 34 = .ok (.iload_n 1, 1) := by decide +kernel
theorem dX12_load_35 : decode cX12_load 35 = .ok (.iload 4, 2) := by decide +kernel
theorem dX12_load_37 : decode cX12_load 37 = .ok (.iload_n 3, 1) := by decide +kernel
theorem dX12_load_38 : decode cX12_load 38 = .ok (.invokevirtual 396, 3) := by decide +kernel
theorem dX12_load_41 : decode cX12_load 41 = .ok (.iload_n 2, 1) := by decide +kernel
theorem dX12_load_42 : decode cX12_load 42 = .ok (.if_icmp .lt 6, 3) := by decide +kernel
theorem dX12_load_45 : decode cX12_load 45 = .ok (.iload 4, 2) := by decide +kernel
theorem dX12_load_47 : decode cX12_load 47 = .ok (.ireturn, 1) := by decide +kernel
theorem dX12_load_48 : decode cX12_load 48 = .ok (.iinc 4 1, 3) := by decide +kernel
theorem dX12_load_51 : decode cX12_load 51 = .ok (.goto (-26), 3) := by decide +kernel
theorem dX12_load_54 : decode cX12_load 54 = .ok (.bipush (-2), 2) := by decide +kernel
theorem dX12_load_56 : decode cX12_load 56 = .ok (.ireturn, 1) := by decide +kernel
theorem dX12_moneyIn_0 : decode cX12_moneyIn 0 = .ok (.iconst 0, 1) := by decide +kernel
theorem dX12_moneyIn_1 : decode cX12_moneyIn 1 = .ok (.istore_n 2, 1) := by decide +kernel
theorem dX12_moneyIn_2 : decode cX12_moneyIn 2 = .ok (.iload_n 2, 1) := by decide +kernel
theorem dX12_moneyIn_3 : decode cX12_moneyIn 3 = .ok (.iload_n 1, 1) := by decide +kernel
theorem dX12_moneyIn_4 : decode cX12_moneyIn 4 = .ok (.if_icmp .ge 14, 3) := by decide +kernel
theorem dX12_moneyIn_7 : decode cX12_moneyIn 7 = .ok (.aload_n 0, 1) := by decide +kernel
theorem dX12_moneyIn_8 : decode cX12_moneyIn 8 = .ok (.invokevirtual 363, 3) := by decide +kernel
theorem dX12_moneyIn_11 : decode cX12_moneyIn 11 = .ok (.pop, 1) := by decide +kernel
theorem dX12_moneyIn_12 : decode cX12_moneyIn 12 = .ok (.iinc 2 1, 3) := by decide +kernel
theorem dX12_moneyIn_15 : decode cX12_moneyIn 15 = .ok (.goto (-13), 3) := by decide +kernel
theorem dX12_moneyIn_18 : decode cX12_moneyIn 18 = .ok (.aload_n 0, 1) := by decide +kernel
theorem dX12_moneyIn_19 : decode cX12_moneyIn 19 = .ok (.getfield 39, 3) := by decide +kernel
theorem dX12_moneyIn_22 : decode cX12_moneyIn 22 = .ok (.bipush 10, 2) := by decide +kernel
theorem dX12_moneyIn_24 : decode cX12_moneyIn 24 = .ok (.iaload, 1) := by decide +kernel
theorem dX12_moneyIn_25 : decode cX12_moneyIn 25 = .ok (.istore_n 2, 1) := by decide +kernel
theorem dX12_moneyIn_26 : decode cX12_moneyIn 26 = .ok (.aload_n 0, 1) := by decide +kernel
theorem dX12_moneyIn_27 : decode cX12_moneyIn 27 = .ok (.invokevirtual 391, 3) := by decide +kernel
theorem dX12_moneyIn_30 : decode cX12_moneyIn 30 = .ok (.iload_n 2, 1) := by decide +kernel
theorem dX12_moneyIn_31 : decode cX12_moneyIn 31 = .ok (.ireturn, 1) := by decide +kernel
theorem dX12_send_0 : decode cX12_send 0 = .ok (.aload_n 0, 1) := by decide +kernel
theorem dX12_send_1 : decode cX12_send 1 = .ok (.iload_n 1, 1) := by decide +kernel
theorem dX12_send_2 : decode cX12_send 2 = .ok (.invokevirtual 288, 3) := by decide +kernel
theorem dX12_send_5 : decode cX12_send 5 = .ok (.ifCond .eq 35, 3) := by decide +kernel
theorem dX12_send_8 : decode cX12_send 8 = .ok (.aload_n 0, 1) := by decide +kernel
theorem dX12_send_9 : decode cX12_send 9 = .ok (.iload_n 1, 1) := by decide +kernel
theorem dX12_send_10 : decode cX12_send 10 = .ok (.invokevirtual 342, 3) := by decide +kernel
theorem dX12_send_13 : decode cX12_send 13 = .ok (.ifCond .eq 27, 3) := by decide +kernel
theorem dX12_send_16 : decode cX12_send 16 = .ok (.iload_n 2, 1) := by decide +kernel
theorem dX12_send_17 : decode cX12_send 17 = .ok (.i2l, 1) := by decide +kernel
theorem dX12_send_18 : decode cX12_send 18 = .ok (.lconst 1, 1) := by decide +kernel
theorem dX12_send_19 : decode cX12_send 19 = .ok (.ldc2_w 399, 3) := by decide +kernel
theorem dX12_send_22 : decode cX12_send 22 = .ok (.invokestatic 112, 3) := by decide +kernel
theorem dX12_send_25 : decode cX12_send 25 = .ok (.ifCond .eq 15, 3) := by decide +kernel
theorem dX12_send_28 : decode cX12_send 28 = .ok (.iload_n 3, 1) := by decide +kernel
theorem dX12_send_29 : decode cX12_send 29 = .ok (.i2l, 1) := by decide +kernel
theorem dX12_send_30 : decode cX12_send 30 = .ok (.lconst 0, 1) := by decide +kernel
theorem dX12_send_31 : decode cX12_send 31 = .ok (.ldc2_w 386, 3) := by decide +kernel
theorem dX12_send_34 : decode cX12_send 34 = .ok (.invokestatic 112, 3) := by decide +kernel
theorem dX12_send_37 : decode cX12_send 37 = .ok (.ifCond .ne 6, 3) := by decide +kernel
theorem dX12_send_40 : decode cX12_send 40 = .ok (.bipush (-2), 2) := by decide +kernel
theorem dX12_send_42 : decode cX12_send 42 = .ok (.ireturn, 1) := by decide +kernel
theorem dX12_send_43 : decode cX12_send 43 = .ok (.aload_n 0, 1) := by decide +kernel
theorem dX12_send_44 : decode cX12_send 44 = .ok (.invokevirtual 388, 3) := by decide +kernel
theorem dX12_send_47 : decode cX12_send 47 = .ok (.aload_n 0, 1) := by decide +kernel
theorem dX12_send_48 : decode cX12_send 48 = .ok (.iload_n 2, 1) := by decide +kernel
theorem dX12_send_49 : decode cX12_send 49 = .ok (.invokevirtual 401, 3) := by decide +kernel
theorem dX12_send_52 : decode cX12_send 52 = .ok (.istore 4, 2) := by decide +kernel
theorem dX12_send_54 : decode cX12_send 54 = .ok (.iconst (-1), 1) := by decide +kernel
theorem dX12_send_55 : decode cX12_send 55 = .ok (.istore 5, 2) := by decide +kernel
theorem dX12_send_57 : decode cX12_send 57 = .ok (.iconst 0, 1) := by decide +kernel
theorem dX12_send_58 : decode cX12_send 58 = .ok (.istore 6, 2) := by decide +kernel
theorem dX12_send_60 : decode cX12_send 60 = .ok (.iconst 0, 1) := by decide +kernel
theorem dX12_send_61 : decode cX12_send 61 = .ok (.istore 7, 2) := by decide +kernel
theorem dX12_send_63 : decode cX12_send 63 = .ok (.iconst 0, 1) := by decide +kernel
theorem dX12_send_64 : decode cX12_send 64 = .ok (.istore 8, 2) := by decide +kernel
theorem dX12_send_66 : decode cX12_send 66 = .ok (.iload 8, 2) := by decide +kernel
theorem dX12_send_68 : decode cX12_send 68 = .ok (.aload_n 0, 1) := by decide +kernel
theorem dX12_send_69 : decode cX12_send 69 = .ok (.getfield 39, 3) := by decide +kernel
theorem dX12_send_72 : decode cX12_send 72 = .ok (.iconst 3, 1) := by decide +kernel
theorem dX12_send_73 : decode cX12_send 73 = .ok (.iaload, 1) := by decide +kernel
theorem dX12_send_74 : decode cX12_send 74 = .ok (.if_icmp .ge 120, 3) := by decide +kernel
theorem dX12_send_77 : decode cX12_send 77 = .ok (.iconst 1, 1) := by decide +kernel
theorem dX12_send_78 : decode cX12_send 78 = .ok (.istore 9, 2) := by decide +kernel
theorem dX12_send_80 : decode cX12_send 80 = .ok (.iload 9, 2) := by decide +kernel
theorem dX12_send_82 : decode cX12_send 82 = .ok (.aload_n 0, 1) := by decide +kernel
theorem dX12_send_83 : decode cX12_send 83 = .ok (.iload_n 1, 1) := by decide +kernel
theorem dX12_send_84 : decode cX12_send 84 = .ok (.invokevirtual 293, 3) := by decide +kernel
theorem dX12_send_87 : decode cX12_send 87 = .ok (.if_icmp .gt 101, 3) := by decide +kernel
theorem dX12_send_90 : decode cX12_send 90 = .ok (.iconst 0, 1) := by decide +kernel
theorem dX12_send_91 : decode cX12_send 91 = .ok (.istore 10, 2) := by decide +kernel
theorem dX12_send_93 : decode cX12_send 93 = .ok (.iload 10, 2) := by decide +kernel
theorem dX12_send_95 : decode cX12_send 95 = .ok (.iconst 2, 1) := by decide +kernel
theorem dX12_send_96 : decode cX12_send 96 = .ok (.if_icmp .ge 86, 3) := by decide +kernel
theorem dX12_send_99 : decode cX12_send 99 = .ok (.aload_n 0, 1) := by decide +kernel
theorem dX12_send_100 : decode cX12_send 100 = .ok (.iload_n 1, 1) := by decide +kernel
theorem dX12_send_101 : decode cX12_send 101 = .ok (.iload 9, 2) := by decide +kernel
theorem dX12_send_103 : decode cX12_send 103 = .ok (.iload 10, 2) := by decide +kernel
theorem dX12_send_105 : decode cX12_send 105 = .ok (.iconst 1, 1) := by decide +kernel
theorem dX12_send_106 : decode cX12_send 106 = .ok (.if_icmp .ne 7, 3) := by decide +kernel
theorem dX12_send_109 : decode cX12_send 109 = .ok (.iconst 1, 1) := by decide +kernel
theorem dX12_send_110 : decode cX12_send 110 = .ok (.goto 4, 3) := by decide +kernel
theorem dX12_send_113 : decode cX12_send 113 = .ok (.iconst 0, 1) := by decide +kernel
theorem dX12_send_114 : decode cX12_send 114 = .ok (.invokevirtual 368, 3) := by decide +kernel
theorem dX12_send_117 : decode cX12_send 117 = .ok (.ifCond .ne 6, 3) := by decide +kernel
theorem dX12_send_120 : decode cX12_send 120 = .ok (.goto 56, 3) := by decide +kernel
theorem dX12_send_123 : decode cX12_send 123 = .ok (.aload_n 0, 1) := by decide +kernel
theorem dX12_send_124 : decode cX12_send 124 = .ok (.iload_n 1, 1) := by decide +kernel
theorem dX12_send_125 : decode cX12_send 125 = .ok (.iload 8, 2) := by decide +kernel
theorem dX12_send_127 : decode cX12_send 127 = .ok (.iload 9, 2) := by decide +kernel
theorem dX12_send_129 : decode cX12_send 129 = .ok (.iload 10, 2) := by decide +kernel
theorem dX12_send_131 : decode cX12_send 131 = .ok (.iconst 1, 1) := by decide +kernel
theorem dX12_send_132 : decode cX12_send 132 = .ok (.if_icmp .ne 7, 3) := by decide +kernel
theorem dX12_send_135 : decode cX12_send 135 = .ok (.iconst 1, 1) := by decide +kernel
theorem dX12_send_136 : decode cX12_send 136 = .ok (.goto 4, 3) := by decide +kernel
theorem dX12_send_139 : decode cX12_send 139 = .ok (.iconst 0, 1) := by decide +kernel
theorem dX12_send_140 : decode cX12_send 140 = .ok (.invokevirtual 334, 3) := by decide +kernel
theorem dX12_send_143 : decode cX12_send 143 = .ok (.aload_n 0, 1) := by decide +kernel
theorem dX12_send_144 : decode cX12_send 144 = .ok (.iload_n 2, 1) := by decide +kernel
theorem dX12_send_145 : decode cX12_send 145 = .ok (.invokevirtual 401, 3) := by decide +kernel
theorem dX12_send_148 : decode cX12_send 148 = .ok (.istore 11, 2) := by decide +kernel
theorem dX12_send_150 : decode cX12_send 150 = .ok (.iload 11, 2) := by decide +kernel
theorem dX12_send_152 : decode cX12_send 152 = .ok (.iload 4, 2) := by decide +kernel
theorem dX12_send_154 : decode cX12_send 154 = .ok (.if_icmp .gt 6, 3) := by decide +kernel
theorem dX12_send_157 : decode cX12_send 157 = .ok (.goto 19, 3) := by decide +kernel
theorem dX12_send_160 : decode cX12_send 160 = .ok (.iload 11, 2) := by decide +kernel
theorem dX12_send_162 : decode cX12_send 162 = .ok (.istore 4, 2) := by decide +kernel
theorem dX12_send_164 : decode cX12_send 164 = .ok (.iload 8, 2) := by decide +kernel
theorem dX12_send_166 : decode cX12_send 166 = .ok (.istore 5, 2) := by decide +kernel
theorem dX12_send_168 : decode cX12_send 168 = .ok (.iload 9, 2) := by decide +kernel
theorem dX12_send_170 : decode cX12_send 170 = .ok (.istore 6, 2) := by decide +kernel
theorem dX12_send_172 : decode cX12_send 172 = .ok (.iload 10, 2) := by decide +kernel
theorem dX12_send_174 : decode cX12_send 174 = .ok (.istore 7, 2) := by decide +kernel
theorem dX12_send_176 : decode cX12_send 176 = .ok (.iinc 10 1, 3) := by decide +kernel
theorem dX12_send_179 : decode cX12_send 179 = .ok (.goto (-86), 3) := by decide +kernel
theorem dX12_send_182 : decode cX12_send 182 = .ok (.iinc 9 1, 3) := by decide +kernel
theorem dX12_send_185 : decode cX12_send 185 = .ok (.goto (-105), 3) := by decide +kernel
theorem dX12_send_188 : decode cX12_send 188 = .ok (.iinc 8 1, 3) := by decide +kernel
theorem dX12_send_191 : decode cX12_send 191 = .ok (.goto (-125), 3) := by decide +kernel
theorem dX12_send_194 : decode cX12_send 194 = .ok (.iload_n 3, 1) := by decide +kernel
theorem dX12_send_195 : decode cX12_send 195 = .ok (.ifCond .ne 8, 3) := by decide +kernel
theorem dX12_send_198 : decode cX12_send 198 = .ok (.iload 4, 2) := by decide +kernel
theorem dX12_send_200 : decode cX12_send 200 = .ok (.goto 25, 3) := by decide +kernel
theorem dX12_send_203 : decode cX12_send 203 = .ok (.iload_n 3, 1) := by decide +kernel
theorem dX12_send_204 : decode cX12_send 204 = .ok (.iconst 1, 1) := by decide +kernel
theorem dX12_send_205 : decode cX12_send 205 = .ok (.if_icmp .ne 8, 3) := by decide +kernel
theorem dX12_send_208 : decode cX12_send 208 = .ok (.iload 5, 2) := by decide +kernel
theorem dX12_send_210 : decode cX12_send 210 = .ok (.goto 15, 3) := by decide +kernel
theorem dX12_send_213 : decode cX12_send 213 = .ok (.iload_n 3, 1) := by decide +kernel
theorem dX12_send_214 : decode cX12_send 214 = .ok (.iconst 2, 1) := by decide +kernel
theorem dX12_send_215 : decode cX12_send 215 = .ok (.if_icmp .ne 8, 3) := by decide +kernel
theorem dX12_send_218 : decode cX12_send 218 = .ok (.iload 6, 2) := by decide +kernel
theorem dX12_send_220 : decode cX12_send 220 = .ok (.goto 5, 3) := by decide +kernel
theorem dX12_send_223 : decode cX12_send 223 = .ok (.iload 7, 2) := by decide +kernel
theorem dX12_send_225 : decode cX12_send 225 = .ok (.ireturn, 1) := by decide +kernel
theorem dX12_power_0 : decode cX12_power 0 = .ok (.iconst 1, 1) := by decide +kernel
theorem dX12_power_1 : decode cX12_power 1 = .ok (.istore_n 2, 1) := by decide +kernel
theorem dX12_power_2 : decode cX12_power 2 = .ok (.iconst 0, 1) := by decide +kernel
theorem dX12_power_3 : decode cX12_power 3 = .ok (.istore_n 3, 1) := by decide +kernel
theorem dX12_power_4 : decode cX12_power 4 = .ok (.iload_n 3, 1) := by decide +kernel
theorem dX12_power_5 : decode cX12_power 5 = .ok (.iload_n 1, 1) := by decide +kernel
theorem dX12_power_6 : decode cX12_power 6 = .ok (.if_icmp .ge 13, 3) := by decide +kernel
theorem dX12_power_9 : decode cX12_power 9 = .ok (.iload_n 2, 1) := by decide +kernel
theorem dX12_power_10 : decode cX12_power 10 = .ok (.iload_n 0, 1) := by decide +kernel
theorem dX12_power_11 : decode cX12_power 11 = .ok (.imul, 1) := by decide +kernel
theorem dX12_power_12 : decode cX12_power 12 = .ok (.istore_n 2, 1) := by decide +kernel
theorem dX12_power_13 : decode cX12_power 13 = .ok (.iinc 3 1, 3) := by decide +kernel
theorem dX12_power_16 : decode cX12_power 16 = .ok (.goto (-12), 3) := by decide +kernel
theorem dX12_power_19 : decode cX12_power 19 = .ok (.iload_n 2, 1) := by decide +kernel
theorem dX12_power_20 : decode cX12_power 20 = .ok (.ireturn, 1) := by decide +kernel
theorem dX12_townIn_0 : decode cX12_townIn 0 = .ok (.iload_n 1, 1) := by decide +kernel
theorem dX12_townIn_1 : decode cX12_townIn 1 = .ok (.aload_n 0, 1) := by decide +kernel
theorem dX12_townIn_2 : decode cX12_townIn 2 = .ok (.getfield 39, 3) := by decide +kernel
theorem dX12_townIn_5 : decode cX12_townIn 5 = .ok (.iconst 3, 1) := by decide +kernel
theorem dX12_townIn_6 : decode cX12_townIn 6 = .ok (.iaload, 1) := by decide +kernel
theorem dX12_townIn_7 : decode cX12_townIn 7 = .ok (.iconst 1, 1) := by decide +kernel
theorem dX12_townIn_8 : decode cX12_townIn 8 = .ok (.iadd, 1) := by decide +kernel
theorem dX12_townIn_9 : decode cX12_townIn 9 = .ok (.aload_n 0, 1) := by decide +kernel
theorem dX12_townIn_10 : decode cX12_townIn 10 = .ok (.getfield 39, 3) := by decide +kernel
theorem dX12_townIn_13 : decode cX12_townIn 13 = .ok (.iconst 2, 1) := by decide +kernel
theorem dX12_townIn_14 : decode cX12_townIn 14 = .ok (.iaload, 1) := by decide +kernel
theorem dX12_townIn_15 : decode cX12_townIn 15 = .ok (.iconst 1, 1) := by decide +kernel
theorem dX12_townIn_16 : decode cX12_townIn 16 = .ok (.isub, 1) := by decide +kernel
theorem dX12_townIn_17 : decode cX12_townIn 17 = .ok (.iload_n 2, 1) := by decide +kernel
theorem dX12_townIn_18 : decode cX12_townIn 18 = .ok (.isub, 1) := by decide +kernel
theorem dX12_townIn_19 : decode cX12_townIn 19 = .ok (.invokestatic 404, 3) := by decide +kernel
theorem dX12_townIn_22 : decode cX12_townIn 22 = .ok (.idiv, 1) := by decide +kernel
theorem dX12_townIn_23 : decode cX12_townIn 23 = .ok (.aload_n 0, 1) := by decide +kernel
theorem dX12_townIn_24 : decode cX12_townIn 24 = .ok (.getfield 39, 3) := by decide +kernel
theorem dX12_townIn_27 : decode cX12_townIn 27 = .ok (.iconst 3, 1) := by decide +kernel
theorem dX12_townIn_28 : decode cX12_townIn 28 = .ok (.iaload, 1) := by decide +kernel
theorem dX12_townIn_29 : decode cX12_townIn 29 = .ok (.iconst 1, 1) := by decide +kernel
theorem dX12_townIn_30 : decode cX12_townIn 30 = .ok (.iadd, 1) := by decide +kernel
theorem dX12_townIn_31 : decode cX12_townIn 31 = .ok (.irem, 1) := by decide +kernel
theorem dX12_townIn_32 : decode cX12_townIn 32 = .ok (.iconst 1, 1) := by decide +kernel
theorem dX12_townIn_33 : decode cX12_townIn 33 = .ok (.isub, 1) := by decide +kernel
theorem dX12_townIn_34 : decode cX12_townIn 34 = .ok (.ireturn, 1) := by decide +kernel
theorem dX12_fleet_0 : decode cX12_fleet 0 = .ok (.aload_n 0, 1) := by decide +kernel
theorem dX12_fleet_1 : decode cX12_fleet 1 = .ok (.invokevirtual 357, 3) := by decide +kernel
theorem dX12_fleet_4 : decode cX12_fleet 4 = .ok (.ifCond .eq 27, 3) := by decide +kernel
theorem dX12_fleet_7 : decode cX12_fleet 7 = .ok (.iload_n 1, 1) := by decide +kernel
theorem dX12_fleet_8 : decode cX12_fleet 8 = .ok (.i2l, 1) := by decide +kernel
theorem dX12_fleet_9 : decode cX12_fleet 9 = .ok (.lconst 1, 1) := by decide +kernel
theorem dX12_fleet_10 : decode cX12_fleet 10 = .ok (.ldc2_w 399, 3) := by decide +kernel
theorem dX12_fleet_13 : decode cX12_fleet 13 = .ok (.invokestatic 112, 3) := by decide +kernel
theorem dX12_fleet_16 : decode cX12_fleet 16 = .ok (.ifCond .eq 15, 3) := by decide +kernel
theorem dX12_fleet_19 : decode cX12_fleet 19 = .ok (.iload_n 2, 1) := by decide +kernel
theorem dX12_fleet_20 : decode cX12_fleet 20 = .ok (.i2l, 1) := by decide +kernel
theorem dX12_fleet_21 : decode cX12_fleet 21 = .ok (.lconst 0, 1) := by decide +kernel
theorem dX12_fleet_22 : decode cX12_fleet 22 = .ok (.ldc2_w 386, 3) := by decide +kernel
theorem dX12_fleet_25 : decode cX12_fleet 25 = .ok (.invokestatic 112, 3) := by decide +kernel
theorem dX12_fleet_28 : decode cX12_fleet 28 = .ok (.ifCond .ne 6, 3) := by decide +kernel
theorem dX12_fleet_31 : decode cX12_fleet 31 = .ok (.bipush (-3), 2) := by decide +kernel
theorem dX12_fleet_33 : decode cX12_fleet 33 = .ok (.ireturn, 1) := by decide +kernel
theorem dX12_fleet_34 : decode cX12_fleet 34 = .ok (.aload_n 0, 1) := by decide +kernel
theorem dX12_fleet_35 : decode cX12_fleet 35 = .ok (.invokevirtual 388, 3) := by decide +kernel
theorem dX12_fleet_38 : decode cX12_fleet 38 = .ok (.iconst 0, 1) := by decide +kernel
theorem dX12_fleet_39 : decode cX12_fleet 39 = .ok (.istore_n 3, 1) := by decide +kernel
theorem dX12_fleet_40 : decode cX12_fleet 40 = .ok (.iconst (-1), 1) := by decide +kernel
theorem dX12_fleet_41 : decode cX12_fleet 41 = .ok (.istore 4, 2) := by decide +kernel
theorem dX12_fleet_43 : decode cX12_fleet 43 = .ok (.iconst 0, 1) := by decide +kernel
theorem dX12_fleet_44 : decode cX12_fleet 44 = .ok (.istore 5, 2) := by decide +kernel
theorem dX12_fleet_46 : decode cX12_fleet 46 = .ok (.iload 5, 2) := by decide +kernel
theorem dX12_fleet_48 : decode cX12_fleet 48 = .ok (.aload_n 0, 1) := by decide +kernel
theorem dX12_fleet_49 : decode cX12_fleet 49 = .ok (.getfield 39, 3) := by decide +kernel
theorem dX12_fleet_52 : decode cX12_fleet 52 = .ok (.iconst 3, 1) := by decide +kernel
theorem dX12_fleet_53 : decode cX12_fleet 53 = .ok (.iaload, 1) := by decide +kernel
theorem dX12_fleet_54 : decode cX12_fleet 54 = .ok (.iconst 1, 1) := by decide +kernel
theorem dX12_fleet_55 : decode cX12_fleet 55 = .ok (.iadd, 1) := by decide +kernel
theorem dX12_fleet_56 : decode cX12_fleet 56 = .ok (.aload_n 0, 1) := by decide +kernel
theorem dX12_fleet_57 : decode cX12_fleet 57 = .ok (.getfield 39, 3) := by decide +kernel
theorem dX12_fleet_60 : decode cX12_fleet 60 = .ok (.iconst 2, 1) := by decide +kernel
theorem dX12_fleet_61 : decode cX12_fleet 61 = .ok (.iaload, 1) := by decide +kernel
theorem dX12_fleet_62 : decode cX12_fleet 62 = .ok (.invokestatic 404, 3) := by decide +kernel
theorem dX12_fleet_65 : decode cX12_fleet 65 = .ok (.if_icmp .ge 138, 3) := by decide +kernel
theorem dX12_fleet_68 : decode cX12_fleet 68 = .ok (.iconst 1, 1) := by decide +kernel
theorem dX12_fleet_69 : decode cX12_fleet 69 = .ok (.istore 6, 2) := by decide +kernel
theorem dX12_fleet_71 : decode cX12_fleet 71 = .ok (.iconst 0, 1) := by decide +kernel
theorem dX12_fleet_72 : decode cX12_fleet 72 = .ok (.istore 7, 2) := by decide +kernel
theorem dX12_fleet_74 : decode cX12_fleet 74 = .ok (.iload 7, 2) := by decide +kernel
theorem dX12_fleet_76 : decode cX12_fleet 76 = .ok (.aload_n 0, 1) := by decide +kernel
theorem dX12_fleet_77 : decode cX12_fleet 77 = .ok (.getfield 39, 3) := by decide +kernel
