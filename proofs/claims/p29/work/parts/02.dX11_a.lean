theorem dX11_init_0 : decode cX11_init 0 = .ok (.aload_n 0, 1) := by decide +kernel
theorem dX11_init_1 : decode cX11_init 1 = .ok (.invokespecial 1, 3) := by decide +kernel
theorem dX11_init_4 : decode cX11_init 4 = .ok (.aload_n 0, 1) := by decide +kernel
theorem dX11_init_5 : decode cX11_init 5 = .ok (.new 7, 3) := by decide +kernel
theorem dX11_init_8 : decode cX11_init 8 = .ok (.dup, 1) := by decide +kernel
theorem dX11_init_9 : decode cX11_init 9 = .ok (.invokespecial 9, 3) := by decide +kernel
theorem dX11_init_12 : decode cX11_init 12 = .ok (.putfield 10, 3) := by decide +kernel
theorem dX11_init_15 : decode cX11_init 15 = .ok (.aload_n 0, 1) := by decide +kernel
theorem dX11_init_16 : decode cX11_init 16 = .ok (.bipush 6, 2) := by decide +kernel
theorem dX11_init_18 : decode cX11_init 18 = .ok (.anewarray 16, 3) := by decide +kernel
theorem dX11_init_21 : decode cX11_init 21 = .ok (.putfield 18, 3) := by decide +kernel
theorem dX11_init_24 : decode cX11_init 24 = .ok (.iconst 0, 1) := by decide +kernel
theorem dX11_init_25 : decode cX11_init 25 = .ok (.istore_n 1, 1) := by decide +kernel
theorem dX11_init_26 : decode cX11_init 26 = .ok (.iload_n 1, 1) := by decide +kernel
theorem dX11_init_27 : decode cX11_init 27 = .ok (.aload_n 0, 1) := by decide +kernel
theorem dX11_init_28 : decode cX11_init 28 = .ok (.getfield 18, 3) := by decide +kernel
theorem dX11_init_31 : decode cX11_init 31 = .ok (.arraylength, 1) := by decide +kernel
theorem dX11_init_32 : decode cX11_init 32 = .ok (.if_icmp .ge 22, 3) := by decide +kernel
theorem dX11_init_35 : decode cX11_init 35 = .ok (.aload_n 0, 1) := by decide +kernel
theorem dX11_init_36 : decode cX11_init 36 = .ok (.getfield 18, 3) := by decide +kernel
theorem dX11_init_39 : decode cX11_init 39 = .ok (.iload_n 1, 1) := by decide +kernel
theorem dX11_init_40 : decode cX11_init 40 = .ok (.new 16, 3) := by decide +kernel
theorem dX11_init_43 : decode cX11_init 43 = .ok (.dup, 1) := by decide +kernel
theorem dX11_init_44 : decode cX11_init 44 = .ok (.invokespecial 22, 3) := by decide +kernel
theorem dX11_init_47 : decode cX11_init 47 = .ok (.aastore, 1) := by decide +kernel
theorem dX11_init_48 : decode cX11_init 48 = .ok (.iinc 1 1, 3) := by decide +kernel
theorem dX11_init_51 : decode cX11_init 51 = .ok (.goto (-25), 3) := by decide +kernel
theorem dX11_init_54 : decode cX11_init 54 = .ok (.aload_n 0, 1) := by decide +kernel
theorem dX11_init_55 : decode cX11_init 55 = .ok (.new 23, 3) := by decide +kernel
theorem dX11_init_58 : decode cX11_init 58 = .ok (.dup, 1) := by decide +kernel
theorem dX11_init_59 : decode cX11_init 59 = .ok (.invokespecial 25, 3) := by decide +kernel
theorem dX11_init_62 : decode cX11_init 62 = .ok (.putfield 26, 3) := by decide +kernel
theorem dX11_init_65 : decode cX11_init 65 = .ok (.aload_n 0, 1) := by decide +kernel
theorem dX11_init_66 : decode cX11_init 66 = .ok (.new 30, 3) := by decide +kernel
theorem dX11_init_69 : decode cX11_init 69 = .ok (.dup, 1) := by decide +kernel
theorem dX11_init_70 : decode cX11_init 70 = .ok (.invokespecial 32, 3) := by decide +kernel
theorem dX11_init_73 : decode cX11_init 73 = .ok (.putfield 33, 3) := by decide +kernel
theorem dX11_init_76 : decode cX11_init 76 = .ok (.aload_n 0, 1) := by decide +kernel
theorem dX11_init_77 : decode cX11_init 77 = .ok (.iconst 4, 1) := by decide +kernel
theorem dX11_init_78 : decode cX11_init 78 = .ok (.anewarray 23, 3) := by decide +kernel
theorem dX11_init_81 : decode cX11_init 81 = .ok (.putfield 37, 3) := by decide +kernel
theorem dX11_init_84 : decode cX11_init 84 = .ok (.aload_n 0, 1) := by decide +kernel
theorem dX11_init_85 : decode cX11_init 85 = .ok (.iconst 4, 1) := by decide +kernel
theorem dX11_init_86 : decode cX11_init 86 = .ok (.newarray .boolean, 2) := by decide +kernel
theorem dX11_init_88 : decode cX11_init 88 = .ok (.putfield 41, 3) := by decide +kernel
theorem dX11_init_91 : decode cX11_init 91 = .ok (.iconst 0, 1) := by decide +kernel
theorem dX11_init_92 : decode cX11_init 92 = .ok (.istore_n 1, 1) := by decide +kernel
theorem dX11_init_93 : decode cX11_init 93 = .ok (.iload_n 1, 1) := by decide +kernel
theorem dX11_init_94 : decode cX11_init 94 = .ok (.aload_n 0, 1) := by decide +kernel
theorem dX11_init_95 : decode cX11_init 95 = .ok (.getfield 37, 3) := by decide +kernel
theorem dX11_init_98 : decode cX11_init 98 = .ok (.arraylength, 1) := by decide +kernel
theorem dX11_init_99 : decode cX11_init 99 = .ok (.if_icmp .ge 22, 3) := by decide +kernel
theorem dX11_init_102 : decode cX11_init 102 = .ok (.aload_n 0, 1) := by decide +kernel
theorem dX11_init_103 : decode cX11_init 103 = .ok (.getfield 37, 3) := by decide +kernel
theorem dX11_init_106 : decode cX11_init 106 = .ok (.iload_n 1, 1) := by decide +kernel
theorem dX11_init_107 : decode cX11_init 107 = .ok (.new 23, 3) := by decide +kernel
theorem dX11_init_110 : decode cX11_init 110 = .ok (.dup, 1) := by decide +kernel
theorem dX11_init_111 : decode cX11_init 111 = .ok (.invokespecial 25, 3) := by decide +kernel
theorem dX11_init_114 : decode cX11_init 114 = .ok (.aastore, 1) := by decide +kernel
theorem dX11_init_115 : decode cX11_init 115 = .ok (.iinc 1 1, 3) := by decide +kernel
theorem dX11_init_118 : decode cX11_init 118 = .ok (.goto (-25), 3) := by decide +kernel
theorem dX11_init_121 : decode cX11_init 121 = .ok (.aload_n 0, 1) := by decide +kernel
theorem dX11_init_122 : decode cX11_init 122 = .ok (.bipush 20, 2) := by decide +kernel
theorem dX11_init_124 : decode cX11_init 124 = .ok (.anewarray 30, 3) := by decide +kernel
theorem dX11_init_127 : decode cX11_init 127 = .ok (.putfield 45, 3) := by decide +kernel
theorem dX11_init_130 : decode cX11_init 130 = .ok (.iconst 0, 1) := by decide +kernel
theorem dX11_init_131 : decode cX11_init 131 = .ok (.istore_n 1, 1) := by decide +kernel
theorem dX11_init_132 : decode cX11_init 132 = .ok (.iload_n 1, 1) := by decide +kernel
theorem dX11_init_133 : decode cX11_init 133 = .ok (.aload_n 0, 1) := by decide +kernel
theorem dX11_init_134 : decode cX11_init 134 = .ok (.getfield 45, 3) := by decide +kernel
theorem dX11_init_137 : decode cX11_init 137 = .ok (.arraylength, 1) := by decide +kernel
theorem dX11_init_138 : decode cX11_init 138 = .ok (.if_icmp .ge 22, 3) := by decide +kernel
theorem dX11_init_141 : decode cX11_init 141 = .ok (.aload_n 0, 1) := by decide +kernel
theorem dX11_init_142 : decode cX11_init 142 = .ok (.getfield 45, 3) := by decide +kernel
theorem dX11_init_145 : decode cX11_init 145 = .ok (.iload_n 1, 1) := by decide +kernel
theorem dX11_init_146 : decode cX11_init 146 = .ok (.new 30, 3) := by decide +kernel
theorem dX11_init_149 : decode cX11_init 149 = .ok (.dup, 1) := by decide +kernel
theorem dX11_init_150 : decode cX11_init 150 = .ok (.invokespecial 32, 3) := by decide +kernel
theorem dX11_init_153 : decode cX11_init 153 = .ok (.aastore, 1) := by decide +kernel
theorem dX11_init_154 : decode cX11_init 154 = .ok (.iinc 1 1, 3) := by decide +kernel
theorem dX11_init_157 : decode cX11_init 157 = .ok (.goto (-25), 3) := by decide +kernel
theorem dX11_init_160 : decode cX11_init 160 = .ok (.aload_n 0, 1) := by decide +kernel
theorem dX11_init_161 : decode cX11_init 161 = .ok (.new 49, 3) := by decide +kernel
theorem dX11_init_164 : decode cX11_init 164 = .ok (.dup, 1) := by decide +kernel
theorem dX11_init_165 : decode cX11_init 165 = .ok (.invokespecial 51, 3) := by decide +kernel
theorem dX11_init_168 : decode cX11_init 168 = .ok (.putfield 52, 3) := by decide +kernel
theorem dX11_init_171 : decode cX11_init 171 = .ok (.aload_n 0, 1) := by decide +kernel
theorem dX11_init_172 : decode cX11_init 172 = .ok (.new 56, 3) := by decide +kernel
theorem dX11_init_175 : decode cX11_init 175 = .ok (.dup, 1) := by decide +kernel
theorem dX11_init_176 : decode cX11_init 176 = .ok (.invokespecial 58, 3) := by decide +kernel
theorem dX11_init_179 : decode cX11_init 179 = .ok (.putfield 59, 3) := by decide +kernel
theorem dX11_init_182 : decode cX11_init 182 = .ok (.return_, 1) := by decide +kernel
theorem dX11_feed_0 : decode cX11_feed 0 = .ok (.aload_n 0, 1) := by decide +kernel
theorem dX11_feed_1 : decode cX11_feed 1 = .ok (.getfield 10, 3) := by decide +kernel
theorem dX11_feed_4 : decode cX11_feed 4 = .ok (.bipush 20, 2) := by decide +kernel
theorem dX11_feed_6 : decode cX11_feed 6 = .ok (.invokevirtual 63, 3) := by decide +kernel
theorem dX11_feed_9 : decode cX11_feed 9 = .ok (.ifCond .ne 5, 3) := by decide +kernel
theorem dX11_feed_12 : decode cX11_feed 12 = .ok (.iconst (-1), 1) := by decide +kernel
theorem dX11_feed_13 : decode cX11_feed 13 = .ok (.ireturn, 1) := by decide +kernel
theorem dX11_feed_14 : decode cX11_feed 14 = .ok (.aload_n 0, 1) := by decide +kernel
theorem dX11_feed_15 : decode cX11_feed 15 = .ok (.getfield 10, 3) := by decide +kernel
theorem dX11_feed_18 : decode cX11_feed 18 = .ok (.iload_n 1, 1) := by decide +kernel
theorem dX11_feed_19 : decode cX11_feed 19 = .ok (.invokevirtual 67, 3) := by decide +kernel
theorem dX11_feed_22 : decode cX11_feed 22 = .ok (.aload_n 0, 1) := by decide +kernel
theorem dX11_feed_23 : decode cX11_feed 23 = .ok (.getfield 10, 3) := by decide +kernel
theorem dX11_feed_26 : decode cX11_feed 26 = .ok (.iload_n 2, 1) := by decide +kernel
theorem dX11_feed_27 : decode cX11_feed 27 = .ok (.invokevirtual 67, 3) := by decide +kernel
theorem dX11_feed_30 : decode cX11_feed 30 = .ok (.aload_n 0, 1) := by decide +kernel
theorem dX11_feed_31 : decode cX11_feed 31 = .ok (.getfield 10, 3) := by decide +kernel
theorem dX11_feed_34 : decode cX11_feed 34 = .ok (.iload_n 3, 1) := by decide +kernel
theorem dX11_feed_35 : decode cX11_feed 35 = .ok (.invokevirtual 67, 3) := by decide +kernel
theorem dX11_feed_38 : decode cX11_feed 38 = .ok (.aload_n 0, 1) := by decide +kernel
theorem dX11_feed_39 : decode cX11_feed 39 = .ok (.getfield 10, 3) := by decide +kernel
theorem dX11_feed_42 : decode cX11_feed 42 = .ok (.iload 4, 2) := by decide +kernel
theorem dX11_feed_44 : decode cX11_feed 44 = .ok (.invokevirtual 67, 3) := by decide +kernel
theorem dX11_feed_47 : decode cX11_feed 47 = .ok (.aload_n 0, 1) := by decide +kernel
theorem dX11_feed_48 : decode cX11_feed 48 = .ok (.getfield 10, 3) := by decide +kernel
theorem dX11_feed_51 : decode cX11_feed 51 = .ok (.iload 5, 2) := by decide +kernel
theorem dX11_feed_53 : decode cX11_feed 53 = .ok (.invokevirtual 67, 3) := by decide +kernel
theorem dX11_feed_56 : decode cX11_feed 56 = .ok (.aload_n 0, 1) := by decide +kernel
theorem dX11_feed_57 : decode cX11_feed 57 = .ok (.getfield 10, 3) := by decide +kernel
theorem dX11_feed_60 : decode cX11_feed 60 = .ok (.getfield 71, 3) := by decide +kernel
theorem dX11_feed_63 : decode cX11_feed 63 = .ok (.ireturn, 1) := by decide +kernel
theorem dX11_end_0 : decode cX11_end 0 = .ok (.iload_n 1, 1) := by decide +kernel
theorem dX11_end_1 : decode cX11_end 1 = .ok (.iconst 0, 1) := by decide +kernel
theorem dX11_end_2 : decode cX11_end 2 = .ok (.aload_n 0, 1) := by decide +kernel
theorem dX11_end_3 : decode cX11_end 3 = .ok (.getfield 10, 3) := by decide +kernel
theorem dX11_end_6 : decode cX11_end 6 = .ok (.getfield 71, 3) := by decide +kernel
theorem dX11_end_9 : decode cX11_end 9 = .ok (.invokestatic 75, 3) := by decide +kernel
theorem dX11_end_12 : decode cX11_end 12 = .ok (.ifCond .ne 5, 3) := by decide +kernel
theorem dX11_end_15 : decode cX11_end 15 = .ok (.iconst (-1), 1) := by decide +kernel
theorem dX11_end_16 : decode cX11_end 16 = .ok (.ireturn, 1) := by decide +kernel
theorem dX11_end_17 : decode cX11_end 17 = .ok (.aload_n 0, 1) := by decide +kernel
theorem dX11_end_18 : decode cX11_end 18 = .ok (.getfield 10, 3) := by decide +kernel
theorem dX11_end_21 : decode cX11_end 21 = .ok (.iload_n 1, 1) := by decide +kernel
theorem dX11_end_22 : decode cX11_end 22 = .ok (.putfield 71, 3) := by decide +kernel
theorem dX11_end_25 : decode cX11_end 25 = .ok (.iload_n 1, 1) := by decide +kernel
theorem dX11_end_26 : decode cX11_end 26 = .ok (.ireturn, 1) := by decide +kernel
theorem dX11_trade_0 : decode cX11_trade 0 = .ok (.aload_n 0, 1) := by decide +kernel
theorem dX11_trade_1 : decode cX11_trade 1 = .ok (.getfield 10, 3) := by decide +kernel
theorem dX11_trade_4 : decode cX11_trade 4 = .ok (.aload_n 0, 1) := by decide +kernel
theorem dX11_trade_5 : decode cX11_trade 5 = .ok (.getfield 33, 3) := by decide +kernel
theorem dX11_trade_8 : decode cX11_trade 8 = .ok (.invokestatic 79, 3) := by decide +kernel
theorem dX11_trade_11 : decode cX11_trade 11 = .ok (.ifCond .ne 14, 3) := by decide +kernel
theorem dX11_trade_14 : decode cX11_trade 14 = .ok (.bipush (-2), 2) := by decide +kernel
theorem dX11_trade_16 : decode cX11_trade 16 = .ok (.aload_n 0, 1) := by decide +kernel
theorem dX11_trade_17 : decode cX11_trade 17 = .ok (.getfield 10, 3) := by decide +kernel
theorem dX11_trade_20 : decode cX11_trade 20 = .ok (.getfield 85, 3) := by decide +kernel
theorem dX11_trade_23 : decode cX11_trade 23 = .ok (.isub, 1) := by decide +kernel
theorem dX11_trade_24 : decode cX11_trade 24 = .ok (.ireturn, 1) := by decide +kernel
theorem dX11_trade_25 : decode cX11_trade 25 = .ok (.aload_n 0, 1) := by decide +kernel
theorem dX11_trade_26 : decode cX11_trade 26 = .ok (.getfield 10, 3) := by decide +kernel
theorem dX11_trade_29 : decode cX11_trade 29 = .ok (.iconst 0, 1) := by decide +kernel
theorem dX11_trade_30 : decode cX11_trade 30 = .ok (.putfield 71, 3) := by decide +kernel
theorem dX11_trade_33 : decode cX11_trade 33 = .ok (.aload_n 0, 1) := by decide +kernel
theorem dX11_trade_34 : decode cX11_trade 34 = .ok (.getfield 26, 3) := by decide +kernel
theorem dX11_trade_37 : decode cX11_trade 37 = .ok (.aload_n 0, 1) := by decide +kernel
theorem dX11_trade_38 : decode cX11_trade 38 = .ok (.getfield 33, 3) := by decide +kernel
theorem dX11_trade_41 : decode cX11_trade 41 = .ok (.invokevirtual 88, 3) := by decide +kernel
theorem dX11_trade_44 : decode cX11_trade 44 = .ok (.aload_n 0, 1) := by decide +kernel
theorem dX11_trade_45 : decode cX11_trade 45 = .ok (.invokevirtual 92, 3) := by decide +kernel
theorem dX11_trade_48 : decode cX11_trade 48 = .ok (.aload_n 0, 1) := by decide +kernel
theorem dX11_trade_49 : decode cX11_trade 49 = .ok (.getfield 26, 3) := by decide +kernel
theorem dX11_trade_52 : decode cX11_trade 52 = .ok (.getfield 95, 3) := by decide +kernel
theorem dX11_trade_55 : decode cX11_trade 55 = .ok (.getfield 98, 3) := by decide +kernel
theorem dX11_trade_58 : decode cX11_trade 58 = .ok (.ireturn, 1) := by decide +kernel
theorem dX11_rule_0 : decode cX11_rule 0 = .ok (.aload_n 0, 1) := by decide +kernel
theorem dX11_rule_1 : decode cX11_rule 1 = .ok (.getfield 101, 3) := by decide +kernel
theorem dX11_rule_4 : decode cX11_rule 4 = .ok (.aload_n 0, 1) := by decide +kernel
theorem dX11_rule_5 : decode cX11_rule 5 = .ok (.getfield 18, 3) := by decide +kernel
theorem dX11_rule_8 : decode cX11_rule 8 = .ok (.arraylength, 1) := by decide +kernel
theorem dX11_rule_9 : decode cX11_rule 9 = .ok (.if_icmp .lt 5, 3) := by decide +kernel
theorem dX11_rule_12 : decode cX11_rule 12 = .ok (.iconst (-1), 1) := by decide +kernel
theorem dX11_rule_13 : decode cX11_rule 13 = .ok (.ireturn, 1) := by decide +kernel
theorem dX11_rule_14 : decode cX11_rule 14 = .ok (.aload_n 0, 1) := by decide +kernel
theorem dX11_rule_15 : decode cX11_rule 15 = .ok (.getfield 10, 3) := by decide +kernel
theorem dX11_rule_18 : decode cX11_rule 18 = .ok (.aload_n 0, 1) := by decide +kernel
theorem dX11_rule_19 : decode cX11_rule 19 = .ok (.getfield 18, 3) := by decide +kernel
theorem dX11_rule_22 : decode cX11_rule 22 = .ok (.aload_n 0, 1) := by decide +kernel
theorem dX11_rule_23 : decode cX11_rule 23 = .ok (.getfield 101, 3) := by decide +kernel
theorem dX11_rule_26 : decode cX11_rule 26 = .ok (.aaload, 1) := by decide +kernel
theorem dX11_rule_27 : decode cX11_rule 27 = .ok (.invokestatic 104, 3) := by decide +kernel
theorem dX11_rule_30 : decode cX11_rule 30 = .ok (.istore_n 1, 1) := by decide +kernel
theorem dX11_rule_31 : decode cX11_rule 31 = .ok (.aload_n 0, 1) := by decide +kernel
theorem dX11_rule_32 : decode cX11_rule 32 = .ok (.getfield 10, 3) := by decide +kernel
theorem dX11_rule_35 : decode cX11_rule 35 = .ok (.iconst 0, 1) := by decide +kernel
theorem dX11_rule_36 : decode cX11_rule 36 = .ok (.putfield 71, 3) := by decide +kernel
theorem dX11_rule_39 : decode cX11_rule 39 = .ok (.iload_n 1, 1) := by decide +kernel
theorem dX11_rule_40 : decode cX11_rule 40 = .ok (.ifCond .ne 14, 3) := by decide +kernel
theorem dX11_rule_43 : decode cX11_rule 43 = .ok (.bipush (-2), 2) := by decide +kernel
theorem dX11_rule_45 : decode cX11_rule 45 = .ok (.aload_n 0, 1) := by decide +kernel
theorem dX11_rule_46 : decode cX11_rule 46 = .ok (.getfield 10, 3) := by decide +kernel
theorem dX11_rule_49 : decode cX11_rule 49 = .ok (.getfield 85, 3) := by decide +kernel
theorem dX11_rule_52 : decode cX11_rule 52 = .ok (.isub, 1) := by decide +kernel
theorem dX11_rule_53 : decode cX11_rule 53 = .ok (.ireturn, 1) := by decide +kernel
theorem dX11_rule_54 : decode cX11_rule 54 = .ok (.aload_n 0, 1) := by decide +kernel
theorem dX11_rule_55 : decode cX11_rule 55 = .ok (.dup, 1) := by decide +kernel
theorem dX11_rule_56 : decode cX11_rule 56 = .ok (.getfield 101, 3) := by decide +kernel
theorem dX11_rule_59 : decode cX11_rule 59 = .ok (.iconst 1, 1) := by decide +kernel
theorem dX11_rule_60 : decode cX11_rule 60 = .ok (.iadd, 1) := by decide +kernel
theorem dX11_rule_61 : decode cX11_rule 61 = .ok (.putfield 101, 3) := by decide +kernel
theorem dX11_rule_64 : decode cX11_rule 64 = .ok (.aload_n 0, 1) := by decide +kernel
theorem dX11_rule_65 : decode cX11_rule 65 = .ok (.getfield 101, 3) := by decide +kernel
theorem dX11_rule_68 : decode cX11_rule 68 = .ok (.iconst 1, 1) := by decide +kernel
theorem dX11_rule_69 : decode cX11_rule 69 = .ok (.isub, 1) := by decide +kernel
theorem dX11_rule_70 : decode cX11_rule 70 = .ok (.ireturn, 1) := by decide +kernel
theorem dX11_force_0 : decode cX11_force 0 = .ok (.iload_n 1, 1) := by decide +kernel
theorem dX11_force_1 : decode cX11_force 1 = .ok (.iconst (-1), 1) := by decide +kernel
theorem dX11_force_2 : decode cX11_force 2 = .ok (.aload_n 0, 1) := by decide +kernel
theorem dX11_force_3 : decode cX11_force 3 = .ok (.getfield 101, 3) := by decide +kernel
theorem dX11_force_6 : decode cX11_force 6 = .ok (.iconst 1, 1) := by decide +kernel
theorem dX11_force_7 : decode cX11_force 7 = .ok (.isub, 1) := by decide +kernel
theorem dX11_force_8 : decode cX11_force 8 = .ok (.invokestatic 75, 3) := by decide +kernel
theorem dX11_force_11 : decode cX11_force 11 = .ok (.ifCond .ne 6, 3) := by decide +kernel
theorem dX11_force_14 : decode cX11_force 14 = .ok (.bipush (-2), 2) := by decide +kernel
theorem dX11_force_16 : decode cX11_force 16 = .ok (.ireturn, 1) := by decide +kernel
theorem dX11_force_17 : decode cX11_force 17 = .ok (.aload_n 0, 1) := by decide +kernel
theorem dX11_force_18 : decode cX11_force 18 = .ok (.getfield 26, 3) := by decide +kernel
theorem dX11_force_21 : decode cX11_force 21 = .ok (.getfield 109, 3) := by decide +kernel
theorem dX11_force_24 : decode cX11_force 24 = .ok (.istore_n 2, 1) := by decide +kernel
theorem dX11_force_25 : decode cX11_force 25 = .ok (.aload_n 0, 1) := by decide +kernel
theorem dX11_force_26 : decode cX11_force 26 = .ok (.getfield 26, 3) := by decide +kernel
theorem dX11_force_29 : decode cX11_force 29 = .ok (.iload_n 1, 1) := by decide +kernel
theorem dX11_force_30 : decode cX11_force 30 = .ok (.putfield 109, 3) := by decide +kernel
theorem dX11_force_33 : decode cX11_force 33 = .ok (.aload_n 0, 1) := by decide +kernel
theorem dX11_force_34 : decode cX11_force 34 = .ok (.getfield 52, 3) := by decide +kernel
theorem dX11_force_37 : decode cX11_force 37 = .ok (.invokevirtual 112, 3) := by decide +kernel
theorem dX11_force_40 : decode cX11_force 40 = .ok (.iload_n 2, 1) := by decide +kernel
theorem dX11_force_41 : decode cX11_force 41 = .ok (.ireturn, 1) := by decide +kernel
theorem dX11_ship_0 : decode cX11_ship 0 = .ok (.aload_n 0, 1) := by decide +kernel
theorem dX11_ship_1 : decode cX11_ship 1 = .ok (.getfield 26, 3) := by decide +kernel
theorem dX11_ship_4 : decode cX11_ship 4 = .ok (.getfield 95, 3) := by decide +kernel
theorem dX11_ship_7 : decode cX11_ship 7 = .ok (.iload_n 1, 1) := by decide +kernel
theorem dX11_ship_8 : decode cX11_ship 8 = .ok (.invokevirtual 115, 3) := by decide +kernel
theorem dX11_ship_11 : decode cX11_ship 11 = .ok (.ifCond .eq 22, 3) := by decide +kernel
theorem dX11_ship_14 : decode cX11_ship 14 = .ok (.aload_n 0, 1) := by decide +kernel
theorem dX11_ship_15 : decode cX11_ship 15 = .ok (.getfield 26, 3) := by decide +kernel
theorem dX11_ship_18 : decode cX11_ship 18 = .ok (.getfield 95, 3) := by decide +kernel
theorem dX11_ship_21 : decode cX11_ship 21 = .ok (.getfield 118, 3) := by decide +kernel
theorem dX11_ship_24 : decode cX11_ship 24 = .ok (.iload_n 1, 1) := by decide +kernel
theorem dX11_ship_25 : decode cX11_ship 25 = .ok (.aaload, 1) := by decide +kernel
theorem dX11_ship_26 : decode cX11_ship 26 = .ok (.iload_n 2, 1) := by decide +kernel
theorem dX11_ship_27 : decode cX11_ship 27 = .ok (.invokevirtual 122, 3) := by decide +kernel
theorem dX11_ship_30 : decode cX11_ship 30 = .ok (.goto 5, 3) := by decide +kernel
theorem dX11_ship_33 : decode cX11_ship 33 = .ok (.bipush (-2), 2) := by decide +kernel
theorem dX11_ship_35 : decode cX11_ship 35 = .ok (.ireturn, 1) := by decide +kernel
theorem dX11_town_0 : decode cX11_town 0 = .ok (.aload_n 0, 1) := by decide +kernel
theorem dX11_town_1 : decode cX11_town 1 = .ok (.getfield 26, 3) := by decide +kernel
theorem dX11_town_4 : decode cX11_town 4 = .ok (.getfield 95, 3) := by decide +kernel
theorem dX11_town_7 : decode cX11_town 7 = .ok (.iload_n 1, 1) := by decide +kernel
theorem dX11_town_8 : decode cX11_town 8 = .ok (.invokevirtual 128, 3) := by decide +kernel
theorem dX11_town_11 : decode cX11_town 11 = .ok (.ifCond .ne 5, 3) := by decide +kernel
theorem dX11_town_14 : decode cX11_town 14 = .ok (.iconst (-1), 1) := by decide +kernel
theorem dX11_town_15 : decode cX11_town 15 = .ok (.ireturn, 1) := by decide +kernel
theorem dX11_town_16 : decode cX11_town 16 = .ok (.iload_n 2, 1) := by decide +kernel
theorem dX11_town_17 : decode cX11_town 17 = .ok (.bipush 6, 2) := by decide +kernel
theorem dX11_town_19 : decode cX11_town 19 = .ok (.if_icmp .ne 17, 3) := by decide +kernel
theorem dX11_town_22 : decode cX11_town 22 = .ok (.aload_n 0, 1) := by decide +kernel
theorem dX11_town_23 : decode cX11_town 23 = .ok (.getfield 26, 3) := by decide +kernel
theorem dX11_town_26 : decode cX11_town 26 = .ok (.getfield 95, 3) := by decide +kernel
theorem dX11_town_29 : decode cX11_town 29 = .ok (.iload_n 1, 1) := by decide +kernel
theorem dX11_town_30 : decode cX11_town 30 = .ok (.invokevirtual 131, 3) := by decide +kernel
theorem dX11_town_33 : decode cX11_town 33 = .ok (.goto 19, 3) := by decide +kernel
theorem dX11_town_36 : decode cX11_town 36 = .ok (.aload_n 0, 1) := by decide +kernel
theorem dX11_town_37 : decode cX11_town 37 = .ok (.getfield 26, 3) := by decide +kernel
theorem dX11_town_40 : decode cX11_town 40 = .ok (.getfield 95, 3) := by decide +kernel
theorem dX11_town_43 : decode cX11_town 43 = .ok (.getfield 134, 3) := by decide +kernel
theorem dX11_town_46 : decode cX11_town 46 = .ok (.iload_n 1, 1) := by decide +kernel
theorem dX11_town_47 : decode cX11_town 47 = .ok (.aaload, 1) := by decide +kernel
theorem dX11_town_48 : decode cX11_town 48 = .ok (.iload_n 2, 1) := by decide +kernel
theorem dX11_town_49 : decode cX11_town 49 = .ok (.invokevirtual 138, 3) := by decide +kernel
theorem dX11_town_52 : decode cX11_town 52 = .ok (.ireturn, 1) := by decide +kernel
theorem dX11_month_0 : decode cX11_month 0 = .ok (.aload_n 0, 1) := by decide +kernel
theorem dX11_month_1 : decode cX11_month 1 = .ok (.getfield 26, 3) := by decide +kernel
theorem dX11_month_4 : decode cX11_month 4 = .ok (.getfield 95, 3) := by decide +kernel
theorem dX11_month_7 : decode cX11_month 7 = .ok (.getfield 141, 3) := by decide +kernel
theorem dX11_month_10 : decode cX11_month 10 = .ok (.ifCond .eq 19, 3) := by decide +kernel
theorem dX11_month_13 : decode cX11_month 13 = .ok (.aload_n 0, 1) := by decide +kernel
theorem dX11_month_14 : decode cX11_month 14 = .ok (.getfield 26, 3) := by decide +kernel
theorem dX11_month_17 : decode cX11_month 17 = .ok (.getfield 95, 3) := by decide +kernel
theorem dX11_month_20 : decode cX11_month 20 = .ok (.getfield 145, 3) := by decide +kernel
theorem dX11_month_23 : decode cX11_month 23 = .ok (.sipush 999, 3) := by decide +kernel
theorem dX11_month_26 : decode cX11_month 26 = .ok (.if_icmp .lt 5, 3) := by decide +kernel
theorem dX11_month_29 : decode cX11_month 29 = .ok (.iconst (-1), 1) := by decide +kernel
theorem dX11_month_30 : decode cX11_month 30 = .ok (.ireturn, 1) := by decide +kernel
theorem dX11_month_31 : decode cX11_month 31 = .ok (.aload_n 0, 1) := by decide +kernel
theorem dX11_month_32 : decode cX11_month 32 = .ok (.invokevirtual 148, 3) := by decide +kernel
theorem dX11_month_35 : decode cX11_month 35 = .ok (.aload_n 0, 1) := by decide +kernel
theorem dX11_month_36 : decode cX11_month 36 = .ok (.getfield 26, 3) := by decide +kernel
theorem dX11_month_39 : decode cX11_month 39 = .ok (.getfield 95, 3) := by decide +kernel
theorem dX11_month_42 : decode cX11_month 42 = .ok (.aload_n 0, 1) := by decide +kernel
theorem dX11_month_43 : decode cX11_month 43 = .ok (.invokevirtual 151, 3) := by decide +kernel
theorem dX11_month_46 : decode cX11_month 46 = .ok (.bipush 100, 2) := by decide +kernel
theorem dX11_month_48 : decode cX11_month 48 = .ok (.invokevirtual 155, 3) := by decide +kernel
theorem dX11_month_51 : decode cX11_month 51 = .ok (.ireturn, 1) := by decide +kernel
theorem dX11_sail_0 : decode cX11_sail 0 = .ok (.aload_n 0, 1) := by decide +kernel
theorem dX11_sail_1 : decode cX11_sail 1 = .ok (.getfield 26, 3) := by decide +kernel
theorem dX11_sail_4 : decode cX11_sail 4 = .ok (.getfield 95, 3) := by decide +kernel
theorem dX11_sail_7 : decode cX11_sail 7 = .ok (.iload_n 1, 1) := by decide +kernel
theorem dX11_sail_8 : decode cX11_sail 8 = .ok (.iload_n 2, 1) := by decide +kernel
theorem dX11_sail_9 : decode cX11_sail 9 = .ok (.iload_n 3, 1) := by decide +kernel
theorem dX11_sail_10 : decode cX11_sail 10 = .ok (.iload 4, 2) := by decide +kernel
theorem dX11_sail_12 : decode cX11_sail 12 = .ok (.invokevirtual 159, 3) := by decide +kernel
theorem dX11_sail_15 : decode cX11_sail 15 = .ok (.ifCond .ne 5, 3) := by decide +kernel
theorem dX11_sail_18 : decode cX11_sail 18 = .ok (.iconst (-1), 1) := by decide +kernel
theorem dX11_sail_19 : decode cX11_sail 19 = .ok (.ireturn, 1) := by decide +kernel
theorem dX11_sail_20 : decode cX11_sail 20 = .ok (.aload_n 0, 1) := by decide +kernel
theorem dX11_sail_21 : decode cX11_sail 21 = .ok (.invokevirtual 148, 3) := by decide +kernel
theorem dX11_sail_24 : decode cX11_sail 24 = .ok (.aload_n 0, 1) := by decide +kernel
theorem dX11_sail_25 : decode cX11_sail 25 = .ok (.getfield 26, 3) := by decide +kernel
theorem dX11_sail_28 : decode cX11_sail 28 = .ok (.getfield 95, 3) := by decide +kernel
theorem dX11_sail_31 : decode cX11_sail 31 = .ok (.iload_n 1, 1) := by decide +kernel
theorem dX11_sail_32 : decode cX11_sail 32 = .ok (.iload_n 2, 1) := by decide +kernel
theorem dX11_sail_33 : decode cX11_sail 33 = .ok (.iload_n 3, 1) := by decide +kernel
theorem dX11_sail_34 : decode cX11_sail 34 = .ok (.iload 4, 2) := by decide +kernel
theorem dX11_sail_36 : decode cX11_sail 36 = .ok (.invokevirtual 163, 3) := by decide +kernel
theorem dX11_sail_39 : decode cX11_sail 39 = .ok (.aload_n 0, 1) := by decide +kernel
theorem dX11_sail_40 : decode cX11_sail 40 = .ok (.getfield 26, 3) := by decide +kernel
theorem dX11_sail_43 : decode cX11_sail 43 = .ok (.getfield 95, 3) := by decide +kernel
theorem dX11_sail_46 : decode cX11_sail 46 = .ok (.getfield 167, 3) := by decide +kernel
theorem dX11_sail_49 : decode cX11_sail 49 = .ok (.ireturn, 1) := by decide +kernel
theorem dX11_teach_0 : decode cX11_teach 0 = .ok (.aload_n 0, 1) := by decide +kernel
theorem dX11_teach_1 : decode cX11_teach 1 = .ok (.getfield 26, 3) := by decide +kernel
theorem dX11_teach_4 : decode cX11_teach 4 = .ok (.getfield 95, 3) := by decide +kernel
theorem dX11_teach_7 : decode cX11_teach 7 = .ok (.iload_n 1, 1) := by decide +kernel
theorem dX11_teach_8 : decode cX11_teach 8 = .ok (.invokevirtual 128, 3) := by decide +kernel
theorem dX11_teach_11 : decode cX11_teach 11 = .ok (.ifCond .eq 26, 3) := by decide +kernel
theorem dX11_teach_14 : decode cX11_teach 14 = .ok (.iload_n 2, 1) := by decide +kernel
theorem dX11_teach_15 : decode cX11_teach 15 = .ok (.iconst 1, 1) := by decide +kernel
theorem dX11_teach_16 : decode cX11_teach 16 = .ok (.aload_n 0, 1) := by decide +kernel
theorem dX11_teach_17 : decode cX11_teach 17 = .ok (.getfield 26, 3) := by decide +kernel
theorem dX11_teach_20 : decode cX11_teach 20 = .ok (.getfield 95, 3) := by decide +kernel
theorem dX11_teach_23 : decode cX11_teach 23 = .ok (.getfield 134, 3) := by decide +kernel
theorem dX11_teach_26 : decode cX11_teach 26 = .ok (.iload_n 1, 1) := by decide +kernel
theorem dX11_teach_27 : decode cX11_teach 27 = .ok (.aaload, 1) := by decide +kernel
theorem dX11_teach_28 : decode cX11_teach 28 = .ok (.getfield 170, 3) := by decide +kernel
theorem dX11_teach_31 : decode cX11_teach 31 = .ok (.invokestatic 75, 3) := by decide +kernel
theorem dX11_teach_34 : decode cX11_teach 34 = .ok (.ifCond .ne 5, 3) := by decide +kernel
theorem dX11_teach_37 : decode cX11_teach 37 = .ok (.iconst (-1), 1) := by decide +kernel
theorem dX11_teach_38 : decode cX11_teach 38 = .ok (.ireturn, 1) := by decide +kernel
theorem dX11_teach_39 : decode cX11_teach 39 = .ok (.aload_n 0, 1) := by decide +kernel
theorem dX11_teach_40 : decode cX11_teach 40 = .ok (.invokevirtual 148, 3) := by decide +kernel
theorem dX11_teach_43 : decode cX11_teach 43 = .ok (.aload_n 0, 1) := by decide +kernel
theorem dX11_teach_44 : decode cX11_teach 44 = .ok (.getfield 26, 3) := by decide +kernel
theorem dX11_teach_47 : decode cX11_teach 47 = .ok (.getfield 95, 3) := by decide +kernel
theorem dX11_teach_50 : decode cX11_teach 50 = .ok (.getfield 134, 3) := by decide +kernel
theorem dX11_teach_53 : decode cX11_teach 53 = .ok (.iload_n 1, 1) := by decide +kernel
theorem dX11_teach_54 : decode cX11_teach 54 = .ok (.aaload, 1) := by decide +kernel
theorem dX11_teach_55 : decode cX11_teach 55 = .ok (.iload_n 2, 1) := by decide +kernel
theorem dX11_teach_56 : decode cX11_teach 56 = .ok (.invokevirtual 173, 3) := by decide +kernel
theorem dX11_teach_59 : decode cX11_teach 59 = .ok (.aload_n 0, 1) := by decide +kernel
theorem dX11_teach_60 : decode cX11_teach 60 = .ok (.getfield 26, 3) := by decide +kernel
theorem dX11_teach_63 : decode cX11_teach 63 = .ok (.getfield 95, 3) := by decide +kernel
theorem dX11_teach_66 : decode cX11_teach 66 = .ok (.getfield 134, 3) := by decide +kernel
theorem dX11_teach_69 : decode cX11_teach 69 = .ok (.iload_n 1, 1) := by decide +kernel
theorem dX11_teach_70 : decode cX11_teach 70 = .ok (.aaload, 1) := by decide +kernel
theorem dX11_teach_71 : decode cX11_teach 71 = .ok (.getfield 176, 3) := by decide +kernel
theorem dX11_teach_74 : decode cX11_teach 74 = .ok (.ireturn, 1) := by decide +kernel
theorem dX11_build_0 : decode cX11_build 0 = .ok (.aload_n 0, 1) := by decide +kernel
theorem dX11_build_1 : decode cX11_build 1 = .ok (.getfield 26, 3) := by decide +kernel
theorem dX11_build_4 : decode cX11_build 4 = .ok (.getfield 95, 3) := by decide +kernel
theorem dX11_build_7 : decode cX11_build 7 = .ok (.iload_n 1, 1) := by decide +kernel
theorem dX11_build_8 : decode cX11_build 8 = .ok (.invokevirtual 179, 3) := by decide +kernel
theorem dX11_build_11 : decode cX11_build 11 = .ok (.ifCond .ne 5, 3) := by decide +kernel
theorem dX11_build_14 : decode cX11_build 14 = .ok (.iconst (-1), 1) := by decide +kernel
theorem dX11_build_15 : decode cX11_build 15 = .ok (.ireturn, 1) := by decide +kernel
theorem dX11_build_16 : decode cX11_build 16 = .ok (.aload_n 0, 1) := by decide +kernel
theorem dX11_build_17 : decode cX11_build 17 = .ok (.invokevirtual 148, 3) := by decide +kernel
theorem dX11_build_20 : decode cX11_build 20 = .ok (.aload_n 0, 1) := by decide +kernel
theorem dX11_build_21 : decode cX11_build 21 = .ok (.getfield 26, 3) := by decide +kernel
theorem dX11_build_24 : decode cX11_build 24 = .ok (.getfield 95, 3) := by decide +kernel
theorem dX11_build_27 : decode cX11_build 27 = .ok (.iload_n 1, 1) := by decide +kernel
theorem dX11_build_28 : decode cX11_build 28 = .ok (.invokevirtual 182, 3) := by decide +kernel
theorem dX11_build_31 : decode cX11_build 31 = .ok (.aload_n 0, 1) := by decide +kernel
theorem dX11_build_32 : decode cX11_build 32 = .ok (.getfield 26, 3) := by decide +kernel
theorem dX11_build_35 : decode cX11_build 35 = .ok (.getfield 95, 3) := by decide +kernel
theorem dX11_build_38 : decode cX11_build 38 = .ok (.getfield 167, 3) := by decide +kernel
theorem dX11_build_41 : decode cX11_build 41 = .ok (.ireturn, 1) := by decide +kernel
theorem dX11_ask_0 : decode cX11_ask 0 = .ok (.aload_n 0, 1) := by decide +kernel
theorem dX11_ask_1 : decode cX11_ask 1 = .ok (.getfield 26, 3) := by decide +kernel
theorem dX11_ask_4 : decode cX11_ask 4 = .ok (.getfield 95, 3) := by decide +kernel
theorem dX11_ask_7 : decode cX11_ask 7 = .ok (.iload_n 1, 1) := by decide +kernel
theorem dX11_ask_8 : decode cX11_ask 8 = .ok (.invokevirtual 128, 3) := by decide +kernel
theorem dX11_ask_11 : decode cX11_ask 11 = .ok (.ifCond .eq 32, 3) := by decide +kernel
theorem dX11_ask_14 : decode cX11_ask 14 = .ok (.iload_n 2, 1) := by decide +kernel
theorem dX11_ask_15 : decode cX11_ask 15 = .ok (.iconst 1, 1) := by decide +kernel
theorem dX11_ask_16 : decode cX11_ask 16 = .ok (.bipush 99, 2) := by decide +kernel
theorem dX11_ask_18 : decode cX11_ask 18 = .ok (.invokestatic 75, 3) := by decide +kernel
theorem dX11_ask_21 : decode cX11_ask 21 = .ok (.ifCond .eq 22, 3) := by decide +kernel
theorem dX11_ask_24 : decode cX11_ask 24 = .ok (.iload_n 2, 1) := by decide +kernel
theorem dX11_ask_25 : decode cX11_ask 25 = .ok (.aload_n 0, 1) := by decide +kernel
theorem dX11_ask_26 : decode cX11_ask 26 = .ok (.getfield 26, 3) := by decide +kernel
theorem dX11_ask_29 : decode cX11_ask 29 = .ok (.getfield 95, 3) := by decide +kernel
theorem dX11_ask_32 : decode cX11_ask 32 = .ok (.getfield 134, 3) := by decide +kernel
theorem dX11_ask_35 : decode cX11_ask 35 = .ok (.iload_n 1, 1) := by decide +kernel
theorem dX11_ask_36 : decode cX11_ask 36 = .ok (.aaload, 1) := by decide +kernel
theorem dX11_ask_37 : decode cX11_ask 37 = .ok (.getfield 185, 3) := by decide +kernel
theorem dX11_ask_40 : decode cX11_ask 40 = .ok (.if_icmp .ne 5, 3) := by decide +kernel
theorem dX11_ask_43 : decode cX11_ask 43 = .ok (.iconst (-1), 1) := by decide +kernel
theorem dX11_ask_44 : decode cX11_ask 44 = .ok (.ireturn, 1) := by decide +kernel
theorem dX11_ask_45 : decode cX11_ask 45 = .ok (.aload_n 0, 1) := by decide +kernel
theorem dX11_ask_46 : decode cX11_ask 46 = .ok (.invokevirtual 148, 3) := by decide +kernel
theorem dX11_ask_49 : decode cX11_ask 49 = .ok (.aload_n 0, 1) := by decide +kernel
theorem dX11_ask_50 : decode cX11_ask 50 = .ok (.getfield 26, 3) := by decide +kernel
theorem dX11_ask_53 : decode cX11_ask 53 = .ok (.getfield 95, 3) := by decide +kernel
theorem dX11_ask_56 : decode cX11_ask 56 = .ok (.getfield 134, 3) := by decide +kernel
theorem dX11_ask_59 : decode cX11_ask 59 = .ok (.iload_n 1, 1) := by decide +kernel
theorem dX11_ask_60 : decode cX11_ask 60 = .ok (.aaload, 1) := by decide +kernel
theorem dX11_ask_61 : decode cX11_ask 61 = .ok (.iload_n 2, 1) := by decide +kernel
theorem dX11_ask_62 : decode cX11_ask 62 = .ok (.invokevirtual 188, 3) := by decide +kernel
theorem dX11_ask_65 : decode cX11_ask 65 = .ok (.aload_n 0, 1) := by decide +kernel
theorem dX11_ask_66 : decode cX11_ask 66 = .ok (.getfield 26, 3) := by decide +kernel
theorem dX11_ask_69 : decode cX11_ask 69 = .ok (.getfield 95, 3) := by decide +kernel
theorem dX11_ask_72 : decode cX11_ask 72 = .ok (.getfield 134, 3) := by decide +kernel
theorem dX11_ask_75 : decode cX11_ask 75 = .ok (.iload_n 1, 1) := by decide +kernel
theorem dX11_ask_76 : decode cX11_ask 76 = .ok (.aaload, 1) := by decide +kernel
theorem dX11_ask_77 : decode cX11_ask 77 = .ok (.getfield 176, 3) := by decide +kernel
theorem dX11_ask_80 : decode cX11_ask 80 = .ok (.ireturn, 1) := by decide +kernel
theorem dX11_undo_0 : decode cX11_undo 0 = .ok (.aload_n 0, 1) := by decide +kernel
theorem dX11_undo_1 : decode cX11_undo 1 = .ok (.getfield 191, 3) := by decide +kernel
theorem dX11_undo_4 : decode cX11_undo 4 = .ok (.ifCond .ne 5, 3) := by decide +kernel
theorem dX11_undo_7 : decode cX11_undo 7 = .ok (.iconst (-1), 1) := by decide +kernel
theorem dX11_undo_8 : decode cX11_undo 8 = .ok (.ireturn, 1) := by decide +kernel
theorem dX11_undo_9 : decode cX11_undo 9 = .ok (.aload_n 0, 1) := by decide +kernel
theorem dX11_undo_10 : decode cX11_undo 10 = .ok (.dup, 1) := by decide +kernel
theorem dX11_undo_11 : decode cX11_undo 11 = .ok (.getfield 191, 3) := by decide +kernel
theorem dX11_undo_14 : decode cX11_undo 14 = .ok (.iconst 1, 1) := by decide +kernel
theorem dX11_undo_15 : decode cX11_undo 15 = .ok (.isub, 1) := by decide +kernel
theorem dX11_undo_16 : decode cX11_undo 16 = .ok (.putfield 191, 3) := by decide +kernel
theorem dX11_undo_19 : decode cX11_undo 19 = .ok (.aload_n 0, 1) := by decide +kernel
theorem dX11_undo_20 : decode cX11_undo 20 = .ok (.aload_n 0, 1) := by decide +kernel
theorem dX11_undo_21 : decode cX11_undo 21 = .ok (.getfield 194, 3) := by decide +kernel
theorem dX11_undo_24 : decode cX11_undo 24 = .ok (.iconst 1, 1) := by decide +kernel
theorem dX11_undo_25 : decode cX11_undo 25 = .ok (.isub, 1) := by decide +kernel
theorem dX11_undo_26 : decode cX11_undo 26 = .ok (.bipush 20, 2) := by decide +kernel
theorem dX11_undo_28 : decode cX11_undo 28 = .ok (.invokestatic 197, 3) := by decide +kernel
theorem dX11_undo_31 : decode cX11_undo 31 = .ok (.putfield 194, 3) := by decide +kernel
theorem dX11_undo_34 : decode cX11_undo 34 = .ok (.aload_n 0, 1) := by decide +kernel
theorem dX11_undo_35 : decode cX11_undo 35 = .ok (.getfield 26, 3) := by decide +kernel
theorem dX11_undo_38 : decode cX11_undo 38 = .ok (.getfield 95, 3) := by decide +kernel
theorem dX11_undo_41 : decode cX11_undo 41 = .ok (.aload_n 0, 1) := by decide +kernel
theorem dX11_undo_42 : decode cX11_undo 42 = .ok (.getfield 45, 3) := by decide +kernel
theorem dX11_undo_45 : decode cX11_undo 45 = .ok (.aload_n 0, 1) := by decide +kernel
theorem dX11_undo_46 : decode cX11_undo 46 = .ok (.getfield 194, 3) := by decide +kernel
theorem dX11_undo_49 : decode cX11_undo 49 = .ok (.aaload, 1) := by decide +kernel
theorem dX11_undo_50 : decode cX11_undo 50 = .ok (.invokevirtual 203, 3) := by decide +kernel
theorem dX11_undo_53 : decode cX11_undo 53 = .ok (.aload_n 0, 1) := by decide +kernel
theorem dX11_undo_54 : decode cX11_undo 54 = .ok (.getfield 52, 3) := by decide +kernel
theorem dX11_undo_57 : decode cX11_undo 57 = .ok (.invokevirtual 112, 3) := by decide +kernel
theorem dX11_undo_60 : decode cX11_undo 60 = .ok (.aload_n 0, 1) := by decide +kernel
theorem dX11_undo_61 : decode cX11_undo 61 = .ok (.getfield 191, 3) := by decide +kernel
theorem dX11_undo_64 : decode cX11_undo 64 = .ok (.ireturn, 1) := by decide +kernel
theorem dX11_ahead_0 : decode cX11_ahead 0 = .ok (.aload_n 0, 1) := by decide +kernel
theorem dX11_ahead_1 : decode cX11_ahead 1 = .ok (.getfield 26, 3) := by decide +kernel
theorem dX11_ahead_4 : decode cX11_ahead 4 = .ok (.getfield 95, 3) := by decide +kernel
theorem dX11_ahead_7 : decode cX11_ahead 7 = .ok (.getfield 141, 3) := by decide +kernel
theorem dX11_ahead_10 : decode cX11_ahead 10 = .ok (.ifCond .eq 41, 3) := by decide +kernel
theorem dX11_ahead_13 : decode cX11_ahead 13 = .ok (.iload_n 2, 1) := by decide +kernel
theorem dX11_ahead_14 : decode cX11_ahead 14 = .ok (.iconst 0, 1) := by decide +kernel
theorem dX11_ahead_15 : decode cX11_ahead 15 = .ok (.bipush 60, 2) := by decide +kernel
theorem dX11_ahead_17 : decode cX11_ahead 17 = .ok (.invokestatic 75, 3) := by decide +kernel
theorem dX11_ahead_20 : decode cX11_ahead 20 = .ok (.ifCond .eq 31, 3) := by decide +kernel
theorem dX11_ahead_23 : decode cX11_ahead 23 = .ok (.iload_n 3, 1) := by decide +kernel
theorem dX11_ahead_24 : decode cX11_ahead 24 = .ok (.iconst 0, 1) := by decide +kernel
theorem dX11_ahead_25 : decode cX11_ahead 25 = .ok (.iconst 3, 1) := by decide +kernel
theorem dX11_ahead_26 : decode cX11_ahead 26 = .ok (.invokestatic 75, 3) := by decide +kernel
theorem dX11_ahead_29 : decode cX11_ahead 29 = .ok (.ifCond .eq 22, 3) := by decide +kernel
theorem dX11_ahead_32 : decode cX11_ahead 32 = .ok (.iload_n 3, 1) := by decide +kernel
theorem dX11_ahead_33 : decode cX11_ahead 33 = .ok (.iconst 2, 1) := by decide +kernel
theorem dX11_ahead_34 : decode cX11_ahead 34 = .ok (.if_icmp .lt 19, 3) := by decide +kernel
theorem dX11_ahead_37 : decode cX11_ahead 37 = .ok (.aload_n 0, 1) := by decide +kernel
theorem dX11_ahead_38 : decode cX11_ahead 38 = .ok (.getfield 26, 3) := by decide +kernel
theorem dX11_ahead_41 : decode cX11_ahead 41 = .ok (.getfield 95, 3) := by decide +kernel
theorem dX11_ahead_44 : decode cX11_ahead 44 = .ok (.iload_n 1, 1) := by decide +kernel
theorem dX11_ahead_45 : decode cX11_ahead 45 = .ok (.invokevirtual 128, 3) := by decide +kernel
theorem dX11_ahead_48 : decode cX11_ahead 48 = .ok (.ifCond .ne 5, 3) := by decide +kernel
theorem dX11_ahead_51 : decode cX11_ahead 51 = .ok (.iconst (-1), 1) := by decide +kernel
theorem dX11_ahead_52 : decode cX11_ahead 52 = .ok (.ireturn, 1) := by decide +kernel
theorem dX11_ahead_53 : decode cX11_ahead 53 = .ok (.aload_n 0, 1) := by decide +kernel
theorem dX11_ahead_54 : decode cX11_ahead 54 = .ok (.getfield 52, 3) := by decide +kernel
theorem dX11_ahead_57 : decode cX11_ahead 57 = .ok (.aload_n 0, 1) := by decide +kernel
theorem dX11_ahead_58 : decode cX11_ahead 58 = .ok (.getfield 26, 3) := by decide +kernel
theorem dX11_ahead_61 : decode cX11_ahead 61 = .ok (.getfield 95, 3) := by decide +kernel
theorem dX11_ahead_64 : decode cX11_ahead 64 = .ok (.aload_n 0, 1) := by decide +kernel
theorem dX11_ahead_65 : decode cX11_ahead 65 = .ok (.invokevirtual 151, 3) := by decide +kernel
theorem dX11_ahead_68 : decode cX11_ahead 68 = .ok (.iload_n 2, 1) := by decide +kernel
theorem dX11_ahead_69 : decode cX11_ahead 69 = .ok (.invokevirtual 206, 3) := by decide +kernel
theorem dX11_ahead_72 : decode cX11_ahead 72 = .ok (.astore 4, 2) := by decide +kernel
theorem dX11_ahead_74 : decode cX11_ahead 74 = .ok (.iload_n 3, 1) := by decide +kernel
theorem dX11_ahead_75 : decode cX11_ahead 75 = .ok (.tableswitch 48 0 2 #[25, 31, 37], 25) := by decide +kernel
theorem dX11_ahead_100 : decode cX11_ahead 100 = .ok (.aload 4, 2) := by decide +kernel
theorem dX11_ahead_102 : decode cX11_ahead 102 = .ok (.getfield 167, 3) := by decide +kernel
theorem dX11_ahead_105 : decode cX11_ahead 105 = .ok (.ireturn, 1) := by decide +kernel
theorem dX11_ahead_106 : decode cX11_ahead 106 = .ok (.aload 4, 2) := by decide +kernel
theorem dX11_ahead_108 : decode cX11_ahead 108 = .ok (.getfield 210, 3) := by decide +kernel
theorem dX11_ahead_111 : decode cX11_ahead 111 = .ok (.ireturn, 1) := by decide +kernel
theorem dX11_ahead_112 : decode cX11_ahead 112 = .ok (.aload 4, 2) := by decide +kernel
theorem dX11_ahead_114 : decode cX11_ahead 114 = .ok (.getfield 134, 3) := by decide +kernel
theorem dX11_ahead_117 : decode cX11_ahead 117 = .ok (.iload_n 1, 1) := by decide +kernel
theorem dX11_ahead_118 : decode cX11_ahead 118 = .ok (.aaload, 1) := by decide +kernel
theorem dX11_ahead_119 : decode cX11_ahead 119 = .ok (.getfield 170, 3) := by decide +kernel
theorem dX11_ahead_122 : decode cX11_ahead 122 = .ok (.ireturn, 1) := by decide +kernel
theorem dX11_ahead_123 : decode cX11_ahead 123 = .ok (.aload 4, 2) := by decide +kernel
theorem dX11_ahead_125 : decode cX11_ahead 125 = .ok (.getfield 134, 3) := by decide +kernel
theorem dX11_ahead_128 : decode cX11_ahead 128 = .ok (.iload_n 1, 1) := by decide +kernel
theorem dX11_ahead_129 : decode cX11_ahead 129 = .ok (.aaload, 1) := by decide +kernel
theorem dX11_ahead_130 : decode cX11_ahead 130 = .ok (.getfield 176, 3) := by decide +kernel
theorem dX11_ahead_133 : decode cX11_ahead 133 = .ok (.ireturn, 1) := by decide +kernel
theorem dX11_comes_0 : decode cX11_comes 0 = .ok (.aload_n 0, 1) := by decide +kernel
theorem dX11_comes_1 : decode cX11_comes 1 = .ok (.getfield 26, 3) := by decide +kernel
theorem dX11_comes_4 : decode cX11_comes 4 = .ok (.getfield 95, 3) := by decide +kernel
theorem dX11_comes_7 : decode cX11_comes 7 = .ok (.iload_n 1, 1) := by decide +kernel
theorem dX11_comes_8 : decode cX11_comes 8 = .ok (.invokevirtual 128, 3) := by decide +kernel
theorem dX11_comes_11 : decode cX11_comes 11 = .ok (.ifCond .eq 14, 3) := by decide +kernel
theorem dX11_comes_14 : decode cX11_comes 14 = .ok (.iload_n 2, 1) := by decide +kernel
theorem dX11_comes_15 : decode cX11_comes 15 = .ok (.iconst 0, 1) := by decide +kernel
theorem dX11_comes_16 : decode cX11_comes 16 = .ok (.sipush 999, 3) := by decide +kernel
theorem dX11_comes_19 : decode cX11_comes 19 = .ok (.invokestatic 75, 3) := by decide +kernel
theorem dX11_comes_22 : decode cX11_comes 22 = .ok (.ifCond .ne 5, 3) := by decide +kernel
theorem dX11_comes_25 : decode cX11_comes 25 = .ok (.iconst (-1), 1) := by decide +kernel
theorem dX11_comes_26 : decode cX11_comes 26 = .ok (.ireturn, 1) := by decide +kernel
theorem dX11_comes_27 : decode cX11_comes 27 = .ok (.aload_n 0, 1) := by decide +kernel
theorem dX11_comes_28 : decode cX11_comes 28 = .ok (.getfield 26, 3) := by decide +kernel
theorem dX11_comes_31 : decode cX11_comes 31 = .ok (.getfield 95, 3) := by decide +kernel
theorem dX11_comes_34 : decode cX11_comes 34 = .ok (.getfield 134, 3) := by decide +kernel
theorem dX11_comes_37 : decode cX11_comes 37 = .ok (.iload_n 1, 1) := by decide +kernel
theorem dX11_comes_38 : decode cX11_comes 38 = .ok (.aaload, 1) := by decide +kernel
theorem dX11_comes_39 : decode cX11_comes 39 = .ok (.iload_n 2, 1) := by decide +kernel
theorem dX11_comes_40 : decode cX11_comes 40 = .ok (.iload_n 3, 1) := by decide +kernel
theorem dX11_comes_41 : decode cX11_comes 41 = .ok (.invokevirtual 213, 3) := by decide +kernel
theorem dX11_comes_44 : decode cX11_comes 44 = .ok (.ireturn, 1) := by decide +kernel
theorem dX11_load_0 : decode cX11_load 0 = .ok (.aload_n 0, 1) := by decide +kernel
theorem dX11_load_1 : decode cX11_load 1 = .ok (.getfield 26, 3) := by decide +kernel
theorem dX11_load_4 : decode cX11_load 4 = .ok (.getfield 95, 3) := by decide +kernel
theorem dX11_load_7 : decode cX11_load 7 = .ok (.iload_n 1, 1) := by decide +kernel
theorem dX11_load_8 : decode cX11_load 8 = .ok (.invokevirtual 128, 3) := by decide +kernel
theorem dX11_load_11 : decode cX11_load 11 = .ok (.ifCond .eq 13, 3) := by decide +kernel
theorem dX11_load_14 : decode cX11_load 14 = .ok (.iload_n 2, 1) := by decide +kernel
theorem dX11_load_15 : decode cX11_load 15 = .ok (.iconst 1, 1) := by decide +kernel
theorem dX11_load_16 : decode cX11_load 16 = .ok (.bipush 99, 2) := by decide +kernel
theorem dX11_load_18 : decode cX11_load 18 = .ok (.invokestatic 75, 3) := by decide +kernel
theorem dX11_load_21 : decode cX11_load 21 = .ok (.ifCond .ne 5, 3) := by decide +kernel
theorem dX11_load_24 : decode cX11_load 24 = .ok (.iconst (-1), 1) := by decide +kernel
theorem dX11_load_25 : decode cX11_load 25 = .ok (.ireturn, 1) := by decide +kernel
theorem dX11_load_26 : decode cX11_load 26 = .ok (.aload_n 0, 1) := by decide +kernel
theorem dX11_load_27 : decode cX11_load 27 = .ok (.getfield 26, 3) := by decide +kernel
theorem dX11_load_30 : decode cX11_load 30 = .ok (.getfield 95, 3) := by decide +kernel
theorem dX11_load_33 : decode cX11_load 33 = .ok (.getfield 134, 3) := by decide +kernel
theorem dX11_load_36 : decode cX11_load 36 = .ok (.iload_n 1, 1) := by decide +kernel
theorem dX11_load_37 : decode cX11_load 37 = .ok (.aaload, 1) := by decide +kernel
theorem dX11_load_38 : decode cX11_load 38 = .ok (.iload_n 2, 1) := by decide +kernel
theorem dX11_load_39 : decode cX11_load 39 = .ok (.iload_n 3, 1) := by decide +kernel
theorem dX11_load_40 : decode cX11_load 40 = .ok (.invokevirtual 217, 3) := by decide +kernel
theorem dX11_load_43 : decode cX11_load 43 = .ok (.ireturn, 1) := by decide +kernel
theorem dX11_send_0 : decode cX11_send 0 = .ok (.aload_n 0, 1) := by decide +kernel
theorem dX11_send_1 : decode cX11_send 1 = .ok (.getfield 26, 3) := by decide +kernel
theorem dX11_send_4 : decode cX11_send 4 = .ok (.getfield 95, 3) := by decide +kernel
theorem dX11_send_7 : decode cX11_send 7 = .ok (.iload_n 1, 1) := by decide +kernel
theorem dX11_send_8 : decode cX11_send 8 = .ok (.invokevirtual 220, 3) := by decide +kernel
theorem dX11_send_11 : decode cX11_send 11 = .ok (.ifCond .eq 19, 3) := by decide +kernel
theorem dX11_send_14 : decode cX11_send 14 = .ok (.iload_n 2, 1) := by decide +kernel
theorem dX11_send_15 : decode cX11_send 15 = .ok (.invokestatic 223, 3) := by decide +kernel
theorem dX11_send_18 : decode cX11_send 18 = .ok (.ifCond .eq 12, 3) := by decide +kernel
theorem dX11_send_21 : decode cX11_send 21 = .ok (.iload_n 3, 1) := by decide +kernel
theorem dX11_send_22 : decode cX11_send 22 = .ok (.iconst 0, 1) := by decide +kernel
theorem dX11_send_23 : decode cX11_send 23 = .ok (.iconst 3, 1) := by decide +kernel
theorem dX11_send_24 : decode cX11_send 24 = .ok (.invokestatic 75, 3) := by decide +kernel
theorem dX11_send_27 : decode cX11_send 27 = .ok (.ifCond .ne 6, 3) := by decide +kernel
theorem dX11_send_30 : decode cX11_send 30 = .ok (.bipush (-2), 2) := by decide +kernel
theorem dX11_send_32 : decode cX11_send 32 = .ok (.ireturn, 1) := by decide +kernel
theorem dX11_send_33 : decode cX11_send 33 = .ok (.aload_n 0, 1) := by decide +kernel
theorem dX11_send_34 : decode cX11_send 34 = .ok (.getfield 52, 3) := by decide +kernel
theorem dX11_send_37 : decode cX11_send 37 = .ok (.iconst 1, 1) := by decide +kernel
theorem dX11_send_38 : decode cX11_send 38 = .ok (.iload_n 1, 1) := by decide +kernel
theorem dX11_send_39 : decode cX11_send 39 = .ok (.iload_n 2, 1) := by decide +kernel
theorem dX11_send_40 : decode cX11_send 40 = .ok (.invokevirtual 226, 3) := by decide +kernel
theorem dX11_send_43 : decode cX11_send 43 = .ok (.ifCond .ne 22, 3) := by decide +kernel
theorem dX11_send_46 : decode cX11_send 46 = .ok (.aload_n 0, 1) := by decide +kernel
theorem dX11_send_47 : decode cX11_send 47 = .ok (.getfield 52, 3) := by decide +kernel
theorem dX11_send_50 : decode cX11_send 50 = .ok (.aload_n 0, 1) := by decide +kernel
theorem dX11_send_51 : decode cX11_send 51 = .ok (.getfield 26, 3) := by decide +kernel
theorem dX11_send_54 : decode cX11_send 54 = .ok (.getfield 95, 3) := by decide +kernel
theorem dX11_send_57 : decode cX11_send 57 = .ok (.aload_n 0, 1) := by decide +kernel
theorem dX11_send_58 : decode cX11_send 58 = .ok (.invokevirtual 151, 3) := by decide +kernel
theorem dX11_send_61 : decode cX11_send 61 = .ok (.iload_n 1, 1) := by decide +kernel
theorem dX11_send_62 : decode cX11_send 62 = .ok (.invokevirtual 229, 3) := by decide +kernel
theorem dX11_send_65 : decode cX11_send 65 = .ok (.aload_n 0, 1) := by decide +kernel
theorem dX11_send_66 : decode cX11_send 66 = .ok (.getfield 52, 3) := by decide +kernel
theorem dX11_send_69 : decode cX11_send 69 = .ok (.getfield 233, 3) := by decide +kernel
theorem dX11_send_72 : decode cX11_send 72 = .ok (.iload_n 3, 1) := by decide +kernel
theorem dX11_send_73 : decode cX11_send 73 = .ok (.iaload, 1) := by decide +kernel
theorem dX11_send_74 : decode cX11_send 74 = .ok (.ireturn, 1) := by decide +kernel
theorem dX11_fleet_0 : decode cX11_fleet 0 = .ok (.aload_n 0, 1) := by decide +kernel
theorem dX11_fleet_1 : decode cX11_fleet 1 = .ok (.getfield 26, 3) := by decide +kernel
theorem dX11_fleet_4 : decode cX11_fleet 4 = .ok (.getfield 95, 3) := by decide +kernel
theorem dX11_fleet_7 : decode cX11_fleet 7 = .ok (.getfield 141, 3) := by decide +kernel
theorem dX11_fleet_10 : decode cX11_fleet 10 = .ok (.ifCond .eq 19, 3) := by decide +kernel
theorem dX11_fleet_13 : decode cX11_fleet 13 = .ok (.iload_n 1, 1) := by decide +kernel
theorem dX11_fleet_14 : decode cX11_fleet 14 = .ok (.invokestatic 223, 3) := by decide +kernel
theorem dX11_fleet_17 : decode cX11_fleet 17 = .ok (.ifCond .eq 12, 3) := by decide +kernel
theorem dX11_fleet_20 : decode cX11_fleet 20 = .ok (.iload_n 2, 1) := by decide +kernel
theorem dX11_fleet_21 : decode cX11_fleet 21 = .ok (.iconst 0, 1) := by decide +kernel
theorem dX11_fleet_22 : decode cX11_fleet 22 = .ok (.iconst 3, 1) := by decide +kernel
theorem dX11_fleet_23 : decode cX11_fleet 23 = .ok (.invokestatic 75, 3) := by decide +kernel
theorem dX11_fleet_26 : decode cX11_fleet 26 = .ok (.ifCond .ne 6, 3) := by decide +kernel
theorem dX11_fleet_29 : decode cX11_fleet 29 = .ok (.bipush (-3), 2) := by decide +kernel
theorem dX11_fleet_31 : decode cX11_fleet 31 = .ok (.ireturn, 1) := by decide +kernel
theorem dX11_fleet_32 : decode cX11_fleet 32 = .ok (.iload_n 2, 1) := by decide +kernel
theorem dX11_fleet_33 : decode cX11_fleet 33 = .ok (.ifCond .le 22, 3) := by decide +kernel
theorem dX11_fleet_36 : decode cX11_fleet 36 = .ok (.aload_n 0, 1) := by decide +kernel
theorem dX11_fleet_37 : decode cX11_fleet 37 = .ok (.getfield 26, 3) := by decide +kernel
theorem dX11_fleet_40 : decode cX11_fleet 40 = .ok (.getfield 95, 3) := by decide +kernel
theorem dX11_fleet_43 : decode cX11_fleet 43 = .ok (.iload_n 2, 1) := by decide +kernel
theorem dX11_fleet_44 : decode cX11_fleet 44 = .ok (.iconst 1, 1) := by decide +kernel
theorem dX11_fleet_45 : decode cX11_fleet 45 = .ok (.isub, 1) := by decide +kernel
theorem dX11_fleet_46 : decode cX11_fleet 46 = .ok (.invokevirtual 220, 3) := by decide +kernel
theorem dX11_fleet_49 : decode cX11_fleet 49 = .ok (.ifCond .ne 6, 3) := by decide +kernel
theorem dX11_fleet_52 : decode cX11_fleet 52 = .ok (.bipush (-2), 2) := by decide +kernel
theorem dX11_fleet_54 : decode cX11_fleet 54 = .ok (.ireturn, 1) := by decide +kernel
theorem dX11_fleet_55 : decode cX11_fleet 55 = .ok (.aload_n 0, 1) := by decide +kernel
theorem dX11_fleet_56 : decode cX11_fleet 56 = .ok (.getfield 52, 3) := by decide +kernel
theorem dX11_fleet_59 : decode cX11_fleet 59 = .ok (.iconst 2, 1) := by decide +kernel
theorem dX11_fleet_60 : decode cX11_fleet 60 = .ok (.iconst (-1), 1) := by decide +kernel
theorem dX11_fleet_61 : decode cX11_fleet 61 = .ok (.iload_n 1, 1) := by decide +kernel
theorem dX11_fleet_62 : decode cX11_fleet 62 = .ok (.invokevirtual 226, 3) := by decide +kernel
theorem dX11_fleet_65 : decode cX11_fleet 65 = .ok (.ifCond .ne 21, 3) := by decide +kernel
theorem dX11_fleet_68 : decode cX11_fleet 68 = .ok (.aload_n 0, 1) := by decide +kernel
theorem dX11_fleet_69 : decode cX11_fleet 69 = .ok (.getfield 52, 3) := by decide +kernel
theorem dX11_fleet_72 : decode cX11_fleet 72 = .ok (.aload_n 0, 1) := by decide +kernel
theorem dX11_fleet_73 : decode cX11_fleet 73 = .ok (.getfield 26, 3) := by decide +kernel
theorem dX11_fleet_76 : decode cX11_fleet 76 = .ok (.getfield 95, 3) := by decide +kernel
theorem dX11_fleet_79 : decode cX11_fleet 79 = .ok (.aload_n 0, 1) := by decide +kernel
theorem dX11_fleet_80 : decode cX11_fleet 80 = .ok (.invokevirtual 151, 3) := by decide +kernel
theorem dX11_fleet_83 : decode cX11_fleet 83 = .ok (.invokevirtual 237, 3) := by decide +kernel
theorem dX11_fleet_86 : decode cX11_fleet 86 = .ok (.aload_n 0, 1) := by decide +kernel
theorem dX11_fleet_87 : decode cX11_fleet 87 = .ok (.getfield 52, 3) := by decide +kernel
theorem dX11_fleet_90 : decode cX11_fleet 90 = .ok (.getfield 233, 3) := by decide +kernel
theorem dX11_fleet_93 : decode cX11_fleet 93 = .ok (.iload_n 2, 1) := by decide +kernel
theorem dX11_fleet_94 : decode cX11_fleet 94 = .ok (.iaload, 1) := by decide +kernel
theorem dX11_fleet_95 : decode cX11_fleet 95 = .ok (.ireturn, 1) := by decide +kernel
theorem dX11_give_0 : decode cX11_give 0 = .ok (.aload_n 0, 1) := by decide +kernel
theorem dX11_give_1 : decode cX11_give 1 = .ok (.getfield 26, 3) := by decide +kernel
theorem dX11_give_4 : decode cX11_give 4 = .ok (.getfield 95, 3) := by decide +kernel
theorem dX11_give_7 : decode cX11_give 7 = .ok (.iload_n 1, 1) := by decide +kernel
theorem dX11_give_8 : decode cX11_give 8 = .ok (.invokevirtual 128, 3) := by decide +kernel
theorem dX11_give_11 : decode cX11_give 11 = .ok (.ifCond .eq 19, 3) := by decide +kernel
theorem dX11_give_14 : decode cX11_give 14 = .ok (.iload_n 2, 1) := by decide +kernel
theorem dX11_give_15 : decode cX11_give 15 = .ok (.invokestatic 223, 3) := by decide +kernel
theorem dX11_give_18 : decode cX11_give 18 = .ok (.ifCond .eq 12, 3) := by decide +kernel
theorem dX11_give_21 : decode cX11_give 21 = .ok (.iload_n 3, 1) := by decide +kernel
theorem dX11_give_22 : decode cX11_give 22 = .ok (.iconst 0, 1) := by decide +kernel
theorem dX11_give_23 : decode cX11_give 23 = .ok (.iconst 1, 1) := by decide +kernel
theorem dX11_give_24 : decode cX11_give 24 = .ok (.invokestatic 75, 3) := by decide +kernel
theorem dX11_give_27 : decode cX11_give 27 = .ok (.ifCond .ne 5, 3) := by decide +kernel
theorem dX11_give_30 : decode cX11_give 30 = .ok (.iconst (-1), 1) := by decide +kernel
theorem dX11_give_31 : decode cX11_give 31 = .ok (.ireturn, 1) := by decide +kernel
theorem dX11_give_32 : decode cX11_give 32 = .ok (.aload_n 0, 1) := by decide +kernel
theorem dX11_give_33 : decode cX11_give 33 = .ok (.getfield 52, 3) := by decide +kernel
theorem dX11_give_36 : decode cX11_give 36 = .ok (.iconst 3, 1) := by decide +kernel
theorem dX11_give_37 : decode cX11_give 37 = .ok (.iload_n 1, 1) := by decide +kernel
theorem dX11_give_38 : decode cX11_give 38 = .ok (.iload_n 2, 1) := by decide +kernel
theorem dX11_give_39 : decode cX11_give 39 = .ok (.invokevirtual 226, 3) := by decide +kernel
theorem dX11_give_42 : decode cX11_give 42 = .ok (.ifCond .ne 22, 3) := by decide +kernel
theorem dX11_give_45 : decode cX11_give 45 = .ok (.aload_n 0, 1) := by decide +kernel
theorem dX11_give_46 : decode cX11_give 46 = .ok (.getfield 52, 3) := by decide +kernel
theorem dX11_give_49 : decode cX11_give 49 = .ok (.aload_n 0, 1) := by decide +kernel
theorem dX11_give_50 : decode cX11_give 50 = .ok (.getfield 26, 3) := by decide +kernel
theorem dX11_give_53 : decode cX11_give 53 = .ok (.getfield 95, 3) := by decide +kernel
theorem dX11_give_56 : decode cX11_give 56 = .ok (.aload_n 0, 1) := by decide +kernel
theorem dX11_give_57 : decode cX11_give 57 = .ok (.invokevirtual 151, 3) := by decide +kernel
theorem dX11_give_60 : decode cX11_give 60 = .ok (.iload_n 1, 1) := by decide +kernel
theorem dX11_give_61 : decode cX11_give 61 = .ok (.invokevirtual 241, 3) := by decide +kernel
theorem dX11_give_64 : decode cX11_give 64 = .ok (.aload_n 0, 1) := by decide +kernel
theorem dX11_give_65 : decode cX11_give 65 = .ok (.getfield 52, 3) := by decide +kernel
theorem dX11_give_68 : decode cX11_give 68 = .ok (.getfield 233, 3) := by decide +kernel
theorem dX11_give_71 : decode cX11_give 71 = .ok (.iload_n 3, 1) := by decide +kernel
theorem dX11_give_72 : decode cX11_give 72 = .ok (.iaload, 1) := by decide +kernel
theorem dX11_give_73 : decode cX11_give 73 = .ok (.ireturn, 1) := by decide +kernel
theorem dX11_site_0 : decode cX11_site 0 = .ok (.aload_n 0, 1) := by decide +kernel
theorem dX11_site_1 : decode cX11_site 1 = .ok (.getfield 26, 3) := by decide +kernel
theorem dX11_site_4 : decode cX11_site 4 = .ok (.getfield 95, 3) := by decide +kernel
theorem dX11_site_7 : decode cX11_site 7 = .ok (.getfield 141, 3) := by decide +kernel
theorem dX11_site_10 : decode cX11_site 10 = .ok (.ifCond .eq 19, 3) := by decide +kernel
theorem dX11_site_13 : decode cX11_site 13 = .ok (.iload_n 1, 1) := by decide +kernel
theorem dX11_site_14 : decode cX11_site 14 = .ok (.invokestatic 223, 3) := by decide +kernel
theorem dX11_site_17 : decode cX11_site 17 = .ok (.ifCond .eq 12, 3) := by decide +kernel
theorem dX11_site_20 : decode cX11_site 20 = .ok (.iload_n 2, 1) := by decide +kernel
theorem dX11_site_21 : decode cX11_site 21 = .ok (.iconst 0, 1) := by decide +kernel
theorem dX11_site_22 : decode cX11_site 22 = .ok (.iconst 1, 1) := by decide +kernel
theorem dX11_site_23 : decode cX11_site 23 = .ok (.invokestatic 75, 3) := by decide +kernel
theorem dX11_site_26 : decode cX11_site 26 = .ok (.ifCond .ne 6, 3) := by decide +kernel
theorem dX11_site_29 : decode cX11_site 29 = .ok (.bipush (-2), 2) := by decide +kernel
theorem dX11_site_31 : decode cX11_site 31 = .ok (.ireturn, 1) := by decide +kernel
theorem dX11_site_32 : decode cX11_site 32 = .ok (.aload_n 0, 1) := by decide +kernel
theorem dX11_site_33 : decode cX11_site 33 = .ok (.getfield 52, 3) := by decide +kernel
theorem dX11_site_36 : decode cX11_site 36 = .ok (.iconst 4, 1) := by decide +kernel
theorem dX11_site_37 : decode cX11_site 37 = .ok (.iconst (-1), 1) := by decide +kernel
theorem dX11_site_38 : decode cX11_site 38 = .ok (.iload_n 1, 1) := by decide +kernel
theorem dX11_site_39 : decode cX11_site 39 = .ok (.invokevirtual 226, 3) := by decide +kernel
theorem dX11_site_42 : decode cX11_site 42 = .ok (.ifCond .ne 21, 3) := by decide +kernel
theorem dX11_site_45 : decode cX11_site 45 = .ok (.aload_n 0, 1) := by decide +kernel
theorem dX11_site_46 : decode cX11_site 46 = .ok (.getfield 52, 3) := by decide +kernel
theorem dX11_site_49 : decode cX11_site 49 = .ok (.aload_n 0, 1) := by decide +kernel
theorem dX11_site_50 : decode cX11_site 50 = .ok (.getfield 26, 3) := by decide +kernel
theorem dX11_site_53 : decode cX11_site 53 = .ok (.getfield 95, 3) := by decide +kernel
theorem dX11_site_56 : decode cX11_site 56 = .ok (.aload_n 0, 1) := by decide +kernel
theorem dX11_site_57 : decode cX11_site 57 = .ok (.invokevirtual 151, 3) := by decide +kernel
theorem dX11_site_60 : decode cX11_site 60 = .ok (.invokevirtual 244, 3) := by decide +kernel
theorem dX11_site_63 : decode cX11_site 63 = .ok (.aload_n 0, 1) := by decide +kernel
theorem dX11_site_64 : decode cX11_site 64 = .ok (.getfield 52, 3) := by decide +kernel
theorem dX11_site_67 : decode cX11_site 67 = .ok (.getfield 233, 3) := by decide +kernel
theorem dX11_site_70 : decode cX11_site 70 = .ok (.iload_n 2, 1) := by decide +kernel
theorem dX11_site_71 : decode cX11_site 71 = .ok (.iaload, 1) := by decide +kernel
theorem dX11_site_72 : decode cX11_site 72 = .ok (.ireturn, 1) := by decide +kernel
theorem dX11_pricing_0 : decode cX11_pricing 0 = .ok (.aload_n 0, 1) := by decide +kernel
theorem dX11_pricing_1 : decode cX11_pricing 1 = .ok (.getfield 26, 3) := by decide +kernel
theorem dX11_pricing_4 : decode cX11_pricing 4 = .ok (.getfield 95, 3) := by decide +kernel
theorem dX11_pricing_7 : decode cX11_pricing 7 = .ok (.iload_n 1, 1) := by decide +kernel
theorem dX11_pricing_8 : decode cX11_pricing 8 = .ok (.invokevirtual 128, 3) := by decide +kernel
theorem dX11_pricing_11 : decode cX11_pricing 11 = .ok (.ifCond .eq 19, 3) := by decide +kernel
theorem dX11_pricing_14 : decode cX11_pricing 14 = .ok (.iload_n 2, 1) := by decide +kernel
theorem dX11_pricing_15 : decode cX11_pricing 15 = .ok (.invokestatic 223, 3) := by decide +kernel
theorem dX11_pricing_18 : decode cX11_pricing 18 = .ok (.ifCond .eq 12, 3) := by decide +kernel
theorem dX11_pricing_21 : decode cX11_pricing 21 = .ok (.iload_n 3, 1) := by decide +kernel
theorem dX11_pricing_22 : decode cX11_pricing 22 = .ok (.iconst 0, 1) := by decide +kernel
theorem dX11_pricing_23 : decode cX11_pricing 23 = .ok (.iconst 1, 1) := by decide +kernel
theorem dX11_pricing_24 : decode cX11_pricing 24 = .ok (.invokestatic 75, 3) := by decide +kernel
theorem dX11_pricing_27 : decode cX11_pricing 27 = .ok (.ifCond .ne 5, 3) := by decide +kernel
theorem dX11_pricing_30 : decode cX11_pricing 30 = .ok (.iconst (-1), 1) := by decide +kernel
theorem dX11_pricing_31 : decode cX11_pricing 31 = .ok (.ireturn, 1) := by decide +kernel
theorem dX11_pricing_32 : decode cX11_pricing 32 = .ok (.aload_n 0, 1) := by decide +kernel
theorem dX11_pricing_33 : decode cX11_pricing 33 = .ok (.getfield 52, 3) := by decide +kernel
theorem dX11_pricing_36 : decode cX11_pricing 36 = .ok (.iconst 5, 1) := by decide +kernel
theorem dX11_pricing_37 : decode cX11_pricing 37 = .ok (.iload_n 1, 1) := by decide +kernel
theorem dX11_pricing_38 : decode cX11_pricing 38 = .ok (.iload_n 2, 1) := by decide +kernel
theorem dX11_pricing_39 : decode cX11_pricing 39 = .ok (.invokevirtual 226, 3) := by decide +kernel
theorem dX11_pricing_42 : decode cX11_pricing 42 = .ok (.ifCond .ne 22, 3) := by decide +kernel
theorem dX11_pricing_45 : decode cX11_pricing 45 = .ok (.aload_n 0, 1) := by decide +kernel
theorem dX11_pricing_46 : decode cX11_pricing 46 = .ok (.getfield 52, 3) := by decide +kernel
theorem dX11_pricing_49 : decode cX11_pricing 49 = .ok (.aload_n 0, 1) := by decide +kernel
theorem dX11_pricing_50 : decode cX11_pricing 50 = .ok (.getfield 26, 3) := by decide +kernel
theorem dX11_pricing_53 : decode cX11_pricing 53 = .ok (.getfield 95, 3) := by decide +kernel
theorem dX11_pricing_56 : decode cX11_pricing 56 = .ok (.aload_n 0, 1) := by decide +kernel
theorem dX11_pricing_57 : decode cX11_pricing 57 = .ok (.invokevirtual 151, 3) := by decide +kernel
theorem dX11_pricing_60 : decode cX11_pricing 60 = .ok (.iload_n 1, 1) := by decide +kernel
theorem dX11_pricing_61 : decode cX11_pricing 61 = .ok (.invokevirtual 247, 3) := by decide +kernel
theorem dX11_pricing_64 : decode cX11_pricing 64 = .ok (.aload_n 0, 1) := by decide +kernel
theorem dX11_pricing_65 : decode cX11_pricing 65 = .ok (.getfield 52, 3) := by decide +kernel
theorem dX11_pricing_68 : decode cX11_pricing 68 = .ok (.getfield 233, 3) := by decide +kernel
theorem dX11_pricing_71 : decode cX11_pricing 71 = .ok (.iload_n 3, 1) := by decide +kernel
theorem dX11_pricing_72 : decode cX11_pricing 72 = .ok (.iaload, 1) := by decide +kernel
theorem dX11_pricing_73 : decode cX11_pricing 73 = .ok (.ireturn, 1) := by decide +kernel
theorem dX11_war_0 : decode cX11_war 0 = .ok (.aload_n 0, 1) := by decide +kernel
theorem dX11_war_1 : decode cX11_war 1 = .ok (.getfield 26, 3) := by decide +kernel
theorem dX11_war_4 : decode cX11_war 4 = .ok (.getfield 95, 3) := by decide +kernel
theorem dX11_war_7 : decode cX11_war 7 = .ok (.iload_n 1, 1) := by decide +kernel
theorem dX11_war_8 : decode cX11_war 8 = .ok (.invokevirtual 128, 3) := by decide +kernel
theorem dX11_war_11 : decode cX11_war 11 = .ok (.ifCond .eq 12, 3) := by decide +kernel
theorem dX11_war_14 : decode cX11_war 14 = .ok (.iload_n 2, 1) := by decide +kernel
theorem dX11_war_15 : decode cX11_war 15 = .ok (.iconst 0, 1) := by decide +kernel
theorem dX11_war_16 : decode cX11_war 16 = .ok (.iconst 2, 1) := by decide +kernel
theorem dX11_war_17 : decode cX11_war 17 = .ok (.invokestatic 75, 3) := by decide +kernel
theorem dX11_war_20 : decode cX11_war 20 = .ok (.ifCond .ne 5, 3) := by decide +kernel
theorem dX11_war_23 : decode cX11_war 23 = .ok (.iconst (-1), 1) := by decide +kernel
theorem dX11_war_24 : decode cX11_war 24 = .ok (.ireturn, 1) := by decide +kernel
theorem dX11_war_25 : decode cX11_war 25 = .ok (.aload_n 0, 1) := by decide +kernel
theorem dX11_war_26 : decode cX11_war 26 = .ok (.getfield 52, 3) := by decide +kernel
theorem dX11_war_29 : decode cX11_war 29 = .ok (.aload_n 0, 1) := by decide +kernel
theorem dX11_war_30 : decode cX11_war 30 = .ok (.getfield 26, 3) := by decide +kernel
theorem dX11_war_33 : decode cX11_war 33 = .ok (.getfield 95, 3) := by decide +kernel
theorem dX11_war_36 : decode cX11_war 36 = .ok (.getfield 134, 3) := by decide +kernel
theorem dX11_war_39 : decode cX11_war 39 = .ok (.iload_n 1, 1) := by decide +kernel
theorem dX11_war_40 : decode cX11_war 40 = .ok (.aaload, 1) := by decide +kernel
theorem dX11_war_41 : decode cX11_war 41 = .ok (.invokevirtual 250, 3) := by decide +kernel
theorem dX11_war_44 : decode cX11_war 44 = .ok (.aload_n 0, 1) := by decide +kernel
theorem dX11_war_45 : decode cX11_war 45 = .ok (.getfield 52, 3) := by decide +kernel
theorem dX11_war_48 : decode cX11_war 48 = .ok (.getfield 233, 3) := by decide +kernel
theorem dX11_war_51 : decode cX11_war 51 = .ok (.iload_n 2, 1) := by decide +kernel
theorem dX11_war_52 : decode cX11_war 52 = .ok (.iaload, 1) := by decide +kernel
theorem dX11_war_53 : decode cX11_war 53 = .ok (.ireturn, 1) := by decide +kernel
theorem dX11_out_0 : decode cX11_out 0 = .ok (.aload_n 0, 1) := by decide +kernel
theorem dX11_out_1 : decode cX11_out 1 = .ok (.getfield 26, 3) := by decide +kernel
theorem dX11_out_4 : decode cX11_out 4 = .ok (.getfield 95, 3) := by decide +kernel
theorem dX11_out_7 : decode cX11_out 7 = .ok (.getfield 141, 3) := by decide +kernel
theorem dX11_out_10 : decode cX11_out 10 = .ok (.ifCond .eq 24, 3) := by decide +kernel
theorem dX11_out_13 : decode cX11_out 13 = .ok (.aload_n 0, 1) := by decide +kernel
theorem dX11_out_14 : decode cX11_out 14 = .ok (.getfield 52, 3) := by decide +kernel
theorem dX11_out_17 : decode cX11_out 17 = .ok (.aload_n 0, 1) := by decide +kernel
theorem dX11_out_18 : decode cX11_out 18 = .ok (.getfield 26, 3) := by decide +kernel
theorem dX11_out_21 : decode cX11_out 21 = .ok (.getfield 95, 3) := by decide +kernel
theorem dX11_out_24 : decode cX11_out 24 = .ok (.aload_n 0, 1) := by decide +kernel
theorem dX11_out_25 : decode cX11_out 25 = .ok (.invokevirtual 151, 3) := by decide +kernel
theorem dX11_out_28 : decode cX11_out 28 = .ok (.invokevirtual 254, 3) := by decide +kernel
theorem dX11_out_31 : decode cX11_out 31 = .ok (.goto 4, 3) := by decide +kernel
theorem dX11_out_34 : decode cX11_out 34 = .ok (.iconst (-1), 1) := by decide +kernel
theorem dX11_out_35 : decode cX11_out 35 = .ok (.ireturn, 1) := by decide +kernel
theorem dX11_hatch_0 : decode cX11_hatch 0 = .ok (.aload_n 0, 1) := by decide +kernel
theorem dX11_hatch_1 : decode cX11_hatch 1 = .ok (.getfield 26, 3) := by decide +kernel
theorem dX11_hatch_4 : decode cX11_hatch 4 = .ok (.getfield 95, 3) := by decide +kernel
theorem dX11_hatch_7 : decode cX11_hatch 7 = .ok (.iload_n 1, 1) := by decide +kernel
theorem dX11_hatch_8 : decode cX11_hatch 8 = .ok (.invokevirtual 128, 3) := by decide +kernel
theorem dX11_hatch_11 : decode cX11_hatch 11 = .ok (.ifCond .eq 23, 3) := by decide +kernel
theorem dX11_hatch_14 : decode cX11_hatch 14 = .ok (.iload_n 2, 1) := by decide +kernel
theorem dX11_hatch_15 : decode cX11_hatch 15 = .ok (.iconst 0, 1) := by decide +kernel
theorem dX11_hatch_16 : decode cX11_hatch 16 = .ok (.bipush 99, 2) := by decide +kernel
theorem dX11_hatch_18 : decode cX11_hatch 18 = .ok (.invokestatic 75, 3) := by decide +kernel
theorem dX11_hatch_21 : decode cX11_hatch 21 = .ok (.ifCond .eq 13, 3) := by decide +kernel
theorem dX11_hatch_24 : decode cX11_hatch 24 = .ok (.iload 4, 2) := by decide +kernel
theorem dX11_hatch_26 : decode cX11_hatch 26 = .ok (.iconst 0, 1) := by decide +kernel
theorem dX11_hatch_27 : decode cX11_hatch 27 = .ok (.iconst 2, 1) := by decide +kernel
theorem dX11_hatch_28 : decode cX11_hatch 28 = .ok (.invokestatic 75, 3) := by decide +kernel
theorem dX11_hatch_31 : decode cX11_hatch 31 = .ok (.ifCond .ne 5, 3) := by decide +kernel
theorem dX11_hatch_34 : decode cX11_hatch 34 = .ok (.iconst (-1), 1) := by decide +kernel
theorem dX11_hatch_35 : decode cX11_hatch 35 = .ok (.ireturn, 1) := by decide +kernel
theorem dX11_hatch_36 : decode cX11_hatch 36 = .ok (.aload_n 0, 1) := by decide +kernel
theorem dX11_hatch_37 : decode cX11_hatch 37 = .ok (.getfield 52, 3) := by decide +kernel
theorem dX11_hatch_40 : decode cX11_hatch 40 = .ok (.aload_n 0, 1) := by decide +kernel
theorem dX11_hatch_41 : decode cX11_hatch 41 = .ok (.getfield 26, 3) := by decide +kernel
theorem dX11_hatch_44 : decode cX11_hatch 44 = .ok (.getfield 95, 3) := by decide +kernel
theorem dX11_hatch_47 : decode cX11_hatch 47 = .ok (.getfield 134, 3) := by decide +kernel
theorem dX11_hatch_50 : decode cX11_hatch 50 = .ok (.iload_n 1, 1) := by decide +kernel
theorem dX11_hatch_51 : decode cX11_hatch 51 = .ok (.aaload, 1) := by decide +kernel
theorem dX11_hatch_52 : decode cX11_hatch 52 = .ok (.iload_n 2, 1) := by decide +kernel
theorem dX11_hatch_53 : decode cX11_hatch 53 = .ok (.iload_n 3, 1) := by decide +kernel
theorem dX11_hatch_54 : decode cX11_hatch 54 = .ok (.invokevirtual 258, 3) := by decide +kernel
theorem dX11_hatch_57 : decode cX11_hatch 57 = .ok (.aload_n 0, 1) := by decide +kernel
theorem dX11_hatch_58 : decode cX11_hatch 58 = .ok (.getfield 52, 3) := by decide +kernel
theorem dX11_hatch_61 : decode cX11_hatch 61 = .ok (.getfield 233, 3) := by decide +kernel
theorem dX11_hatch_64 : decode cX11_hatch 64 = .ok (.iload 4, 2) := by decide +kernel
theorem dX11_hatch_66 : decode cX11_hatch 66 = .ok (.iaload, 1) := by decide +kernel
theorem dX11_hatch_67 : decode cX11_hatch 67 = .ok (.ireturn, 1) := by decide +kernel
theorem dX11_note_0 : decode cX11_note 0 = .ok (.aload_n 0, 1) := by decide +kernel
theorem dX11_note_1 : decode cX11_note 1 = .ok (.getfield 26, 3) := by decide +kernel
theorem dX11_note_4 : decode cX11_note 4 = .ok (.getfield 95, 3) := by decide +kernel
theorem dX11_note_7 : decode cX11_note 7 = .ok (.getfield 141, 3) := by decide +kernel
theorem dX11_note_10 : decode cX11_note 10 = .ok (.ifCond .ne 6, 3) := by decide +kernel
theorem dX11_note_13 : decode cX11_note 13 = .ok (.bipush (-2), 2) := by decide +kernel
theorem dX11_note_15 : decode cX11_note 15 = .ok (.ireturn, 1) := by decide +kernel
theorem dX11_note_16 : decode cX11_note 16 = .ok (.iload_n 1, 1) := by decide +kernel
theorem dX11_note_17 : decode cX11_note 17 = .ok (.iconst (-1), 1) := by decide +kernel
theorem dX11_note_18 : decode cX11_note 18 = .ok (.if_icmp .ne 13, 3) := by decide +kernel
theorem dX11_note_21 : decode cX11_note 21 = .ok (.aload_n 0, 1) := by decide +kernel
theorem dX11_note_22 : decode cX11_note 22 = .ok (.getfield 26, 3) := by decide +kernel
theorem dX11_note_25 : decode cX11_note 25 = .ok (.iconst 0, 1) := by decide +kernel
theorem dX11_note_26 : decode cX11_note 26 = .ok (.putfield 262, 3) := by decide +kernel
theorem dX11_note_29 : decode cX11_note 29 = .ok (.iconst 0, 1) := by decide +kernel
theorem dX11_note_30 : decode cX11_note 30 = .ok (.ireturn, 1) := by decide +kernel
theorem dX11_note_31 : decode cX11_note 31 = .ok (.iload_n 1, 1) := by decide +kernel
theorem dX11_note_32 : decode cX11_note 32 = .ok (.iconst 0, 1) := by decide +kernel
theorem dX11_note_33 : decode cX11_note 33 = .ok (.bipush 60, 2) := by decide +kernel
theorem dX11_note_35 : decode cX11_note 35 = .ok (.invokestatic 75, 3) := by decide +kernel
theorem dX11_note_38 : decode cX11_note 38 = .ok (.ifCond .eq 26, 3) := by decide +kernel
theorem dX11_note_41 : decode cX11_note 41 = .ok (.iload_n 2, 1) := by decide +kernel
theorem dX11_note_42 : decode cX11_note 42 = .ok (.iconst 0, 1) := by decide +kernel
theorem dX11_note_43 : decode cX11_note 43 = .ok (.ldc_w 265, 3) := by decide +kernel
theorem dX11_note_46 : decode cX11_note 46 = .ok (.invokestatic 75, 3) := by decide +kernel
theorem dX11_note_49 : decode cX11_note 49 = .ok (.ifCond .eq 15, 3) := by decide +kernel
theorem dX11_note_52 : decode cX11_note 52 = .ok (.aload_n 0, 1) := by decide +kernel
theorem dX11_note_53 : decode cX11_note 53 = .ok (.getfield 26, 3) := by decide +kernel
theorem dX11_note_56 : decode cX11_note 56 = .ok (.getfield 262, 3) := by decide +kernel
theorem dX11_note_59 : decode cX11_note 59 = .ok (.bipush 10, 2) := by decide +kernel
theorem dX11_note_61 : decode cX11_note 61 = .ok (.if_icmp .lt 6, 3) := by decide +kernel
theorem dX11_note_64 : decode cX11_note 64 = .ok (.bipush (-2), 2) := by decide +kernel
theorem dX11_note_66 : decode cX11_note 66 = .ok (.ireturn, 1) := by decide +kernel
theorem dX11_note_67 : decode cX11_note 67 = .ok (.aload_n 0, 1) := by decide +kernel
theorem dX11_note_68 : decode cX11_note 68 = .ok (.getfield 26, 3) := by decide +kernel
theorem dX11_note_71 : decode cX11_note 71 = .ok (.iload_n 1, 1) := by decide +kernel
theorem dX11_note_72 : decode cX11_note 72 = .ok (.iload_n 2, 1) := by decide +kernel
theorem dX11_note_73 : decode cX11_note 73 = .ok (.invokevirtual 266, 3) := by decide +kernel
theorem dX11_note_76 : decode cX11_note 76 = .ok (.aload_n 0, 1) := by decide +kernel
theorem dX11_note_77 : decode cX11_note 77 = .ok (.getfield 26, 3) := by decide +kernel
theorem dX11_note_80 : decode cX11_note 80 = .ok (.getfield 262, 3) := by decide +kernel
theorem dX11_note_83 : decode cX11_note 83 = .ok (.ireturn, 1) := by decide +kernel
theorem dX11_ruled_0 : decode cX11_ruled 0 = .ok (.aload_n 0, 1) := by decide +kernel
theorem dX11_ruled_1 : decode cX11_ruled 1 = .ok (.getfield 26, 3) := by decide +kernel
theorem dX11_ruled_4 : decode cX11_ruled 4 = .ok (.getfield 95, 3) := by decide +kernel
theorem dX11_ruled_7 : decode cX11_ruled 7 = .ok (.getfield 141, 3) := by decide +kernel
theorem dX11_ruled_10 : decode cX11_ruled 10 = .ok (.ifCond .eq 12, 3) := by decide +kernel
theorem dX11_ruled_13 : decode cX11_ruled 13 = .ok (.iload_n 1, 1) := by decide +kernel
theorem dX11_ruled_14 : decode cX11_ruled 14 = .ok (.iconst 0, 1) := by decide +kernel
theorem dX11_ruled_15 : decode cX11_ruled 15 = .ok (.iconst 1, 1) := by decide +kernel
theorem dX11_ruled_16 : decode cX11_ruled 16 = .ok (.invokestatic 75, 3) := by decide +kernel
theorem dX11_ruled_19 : decode cX11_ruled 19 = .ok (.ifCond .ne 6, 3) := by decide +kernel
theorem dX11_ruled_22 : decode cX11_ruled 22 = .ok (.bipush (-3), 2) := by decide +kernel
theorem dX11_ruled_24 : decode cX11_ruled 24 = .ok (.ireturn, 1) := by decide +kernel
theorem dX11_ruled_25 : decode cX11_ruled 25 = .ok (.aload_n 0, 1) := by decide +kernel
theorem dX11_ruled_26 : decode cX11_ruled 26 = .ok (.getfield 59, 3) := by decide +kernel
theorem dX11_ruled_29 : decode cX11_ruled 29 = .ok (.aload_n 0, 1) := by decide +kernel
theorem dX11_ruled_30 : decode cX11_ruled 30 = .ok (.getfield 26, 3) := by decide +kernel
theorem dX11_ruled_33 : decode cX11_ruled 33 = .ok (.aload_n 0, 1) := by decide +kernel
theorem dX11_ruled_34 : decode cX11_ruled 34 = .ok (.getfield 18, 3) := by decide +kernel
theorem dX11_ruled_37 : decode cX11_ruled 37 = .ok (.aload_n 0, 1) := by decide +kernel
theorem dX11_ruled_38 : decode cX11_ruled 38 = .ok (.getfield 101, 3) := by decide +kernel
theorem dX11_ruled_41 : decode cX11_ruled 41 = .ok (.invokevirtual 270, 3) := by decide +kernel
theorem dX11_ruled_44 : decode cX11_ruled 44 = .ok (.iload_n 1, 1) := by decide +kernel
theorem dX11_ruled_45 : decode cX11_ruled 45 = .ok (.ifCond .ne 13, 3) := by decide +kernel
theorem dX11_ruled_48 : decode cX11_ruled 48 = .ok (.aload_n 0, 1) := by decide +kernel
theorem dX11_ruled_49 : decode cX11_ruled 49 = .ok (.getfield 59, 3) := by decide +kernel
theorem dX11_ruled_52 : decode cX11_ruled 52 = .ok (.invokevirtual 274, 3) := by decide +kernel
theorem dX11_ruled_55 : decode cX11_ruled 55 = .ok (.goto 10, 3) := by decide +kernel
