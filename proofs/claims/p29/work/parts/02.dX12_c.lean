theorem dX12_reckons_129 : decode cX12_reckons 129 = .ok (.iinc 4 1, 3) := by decide +kernel
theorem dX12_reckons_132 : decode cX12_reckons 132 = .ok (.goto (-124), 3) := by decide +kernel
theorem dX12_reckons_135 : decode cX12_reckons 135 = .ok (.aload_n 0, 1) := by decide +kernel
theorem dX12_reckons_136 : decode cX12_reckons 136 = .ok (.invokevirtual 273, 3) := by decide +kernel
theorem dX12_reckons_139 : decode cX12_reckons 139 = .ok (.lreturn, 1) := by decide +kernel
theorem dX12_isTrade_0 : decode cX12_isTrade 0 = .ok (.aload_n 0, 1) := by decide +kernel
theorem dX12_isTrade_1 : decode cX12_isTrade 1 = .ok (.getfield 39, 3) := by decide +kernel
theorem dX12_isTrade_4 : decode cX12_isTrade 4 = .ok (.iconst 0, 1) := by decide +kernel
theorem dX12_isTrade_5 : decode cX12_isTrade 5 = .ok (.iaload, 1) := by decide +kernel
theorem dX12_isTrade_6 : decode cX12_isTrade 6 = .ok (.iconst 1, 1) := by decide +kernel
theorem dX12_isTrade_7 : decode cX12_isTrade 7 = .ok (.if_icmp .ne 7, 3) := by decide +kernel
theorem dX12_isTrade_10 : decode cX12_isTrade 10 = .ok (.iconst 1, 1) := by decide +kernel
theorem dX12_isTrade_11 : decode cX12_isTrade 11 = .ok (.goto 4, 3) := by decide +kernel
theorem dX12_isTrade_14 : decode cX12_isTrade 14 = .ok (.iconst 0, 1) := by decide +kernel
theorem dX12_isTrade_15 : decode cX12_isTrade 15 = .ok (.ireturn, 1) := by decide +kernel
theorem dX12_isShip_0 : decode cX12_isShip 0 = .ok (.iload_n 1, 1) := by decide +kernel
theorem dX12_isShip_1 : decode cX12_isShip 1 = .ok (.ifCond .lt 17, 3) := by decide +kernel
theorem dX12_isShip_4 : decode cX12_isShip 4 = .ok (.iload_n 1, 1) := by decide +kernel
theorem dX12_isShip_5 : decode cX12_isShip 5 = .ok (.aload_n 0, 1) := by decide +kernel
theorem dX12_isShip_6 : decode cX12_isShip 6 = .ok (.getfield 39, 3) := by decide +kernel
theorem dX12_isShip_9 : decode cX12_isShip 9 = .ok (.iconst 2, 1) := by decide +kernel
theorem dX12_isShip_10 : decode cX12_isShip 10 = .ok (.iaload, 1) := by decide +kernel
theorem dX12_isShip_11 : decode cX12_isShip 11 = .ok (.if_icmp .ge 7, 3) := by decide +kernel
theorem dX12_isShip_14 : decode cX12_isShip 14 = .ok (.iconst 1, 1) := by decide +kernel
theorem dX12_isShip_15 : decode cX12_isShip 15 = .ok (.goto 4, 3) := by decide +kernel
theorem dX12_isShip_18 : decode cX12_isShip 18 = .ok (.iconst 0, 1) := by decide +kernel
theorem dX12_isShip_19 : decode cX12_isShip 19 = .ok (.ireturn, 1) := by decide +kernel
theorem dX12_isTown_0 : decode cX12_isTown 0 = .ok (.iload_n 1, 1) := by decide +kernel
theorem dX12_isTown_1 : decode cX12_isTown 1 = .ok (.ifCond .lt 17, 3) := by decide +kernel
theorem dX12_isTown_4 : decode cX12_isTown 4 = .ok (.iload_n 1, 1) := by decide +kernel
theorem dX12_isTown_5 : decode cX12_isTown 5 = .ok (.aload_n 0, 1) := by decide +kernel
theorem dX12_isTown_6 : decode cX12_isTown 6 = .ok (.getfield 39, 3) := by decide +kernel
theorem dX12_isTown_9 : decode cX12_isTown 9 = .ok (.iconst 3, 1) := by decide +kernel
theorem dX12_isTown_10 : decode cX12_isTown 10 = .ok (.iaload, 1) := by decide +kernel
theorem dX12_isTown_11 : decode cX12_isTown 11 = .ok (.if_icmp .ge 7, 3) := by decide +kernel
theorem dX12_isTown_14 : decode cX12_isTown 14 = .ok (.iconst 1, 1) := by decide +kernel
theorem dX12_isTown_15 : decode cX12_isTown 15 = .ok (.goto 4, 3) := by decide +kernel
theorem dX12_isTown_18 : decode cX12_isTown 18 = .ok (.iconst 0, 1) := by decide +kernel
theorem dX12_isTown_19 : decode cX12_isTown 19 = .ok (.ireturn, 1) := by decide +kernel
theorem dX12_shipOf_0 : decode cX12_shipOf 0 = .ok (.aload_n 0, 1) := by decide +kernel
theorem dX12_shipOf_1 : decode cX12_shipOf 1 = .ok (.getfield 39, 3) := by decide +kernel
theorem dX12_shipOf_4 : decode cX12_shipOf 4 = .ok (.bipush 13, 2) := by decide +kernel
theorem dX12_shipOf_6 : decode cX12_shipOf 6 = .ok (.iconst 4, 1) := by decide +kernel
theorem dX12_shipOf_7 : decode cX12_shipOf 7 = .ok (.iload_n 1, 1) := by decide +kernel
theorem dX12_shipOf_8 : decode cX12_shipOf 8 = .ok (.imul, 1) := by decide +kernel
theorem dX12_shipOf_9 : decode cX12_shipOf 9 = .ok (.iadd, 1) := by decide +kernel
theorem dX12_shipOf_10 : decode cX12_shipOf 10 = .ok (.iload_n 2, 1) := by decide +kernel
theorem dX12_shipOf_11 : decode cX12_shipOf 11 = .ok (.iadd, 1) := by decide +kernel
theorem dX12_shipOf_12 : decode cX12_shipOf 12 = .ok (.iaload, 1) := by decide +kernel
theorem dX12_shipOf_13 : decode cX12_shipOf 13 = .ok (.ireturn, 1) := by decide +kernel
theorem dX12_townOf_0 : decode cX12_townOf 0 = .ok (.aload_n 0, 1) := by decide +kernel
theorem dX12_townOf_1 : decode cX12_townOf 1 = .ok (.getfield 39, 3) := by decide +kernel
theorem dX12_townOf_4 : decode cX12_townOf 4 = .ok (.bipush 25, 2) := by decide +kernel
theorem dX12_townOf_6 : decode cX12_townOf 6 = .ok (.iconst 5, 1) := by decide +kernel
theorem dX12_townOf_7 : decode cX12_townOf 7 = .ok (.iload_n 1, 1) := by decide +kernel
theorem dX12_townOf_8 : decode cX12_townOf 8 = .ok (.imul, 1) := by decide +kernel
theorem dX12_townOf_9 : decode cX12_townOf 9 = .ok (.iadd, 1) := by decide +kernel
theorem dX12_townOf_10 : decode cX12_townOf 10 = .ok (.iload_n 2, 1) := by decide +kernel
theorem dX12_townOf_11 : decode cX12_townOf 11 = .ok (.iadd, 1) := by decide +kernel
theorem dX12_townOf_12 : decode cX12_townOf 12 = .ok (.iaload, 1) := by decide +kernel
theorem dX12_townOf_13 : decode cX12_townOf 13 = .ok (.ireturn, 1) := by decide +kernel
theorem dX12_holdOf_0 : decode cX12_holdOf 0 = .ok (.aload_n 0, 1) := by decide +kernel
theorem dX12_holdOf_1 : decode cX12_holdOf 1 = .ok (.getfield 39, 3) := by decide +kernel
theorem dX12_holdOf_4 : decode cX12_holdOf 4 = .ok (.bipush 57, 2) := by decide +kernel
theorem dX12_holdOf_6 : decode cX12_holdOf 6 = .ok (.iconst 2, 1) := by decide +kernel
theorem dX12_holdOf_7 : decode cX12_holdOf 7 = .ok (.iload_n 1, 1) := by decide +kernel
theorem dX12_holdOf_8 : decode cX12_holdOf 8 = .ok (.imul, 1) := by decide +kernel
theorem dX12_holdOf_9 : decode cX12_holdOf 9 = .ok (.iadd, 1) := by decide +kernel
theorem dX12_holdOf_10 : decode cX12_holdOf 10 = .ok (.iaload, 1) := by decide +kernel
theorem dX12_holdOf_11 : decode cX12_holdOf 11 = .ok (.ireturn, 1) := by decide +kernel
theorem dX12_costOf_0 : decode cX12_costOf 0 = .ok (.aload_n 0, 1) := by decide +kernel
theorem dX12_costOf_1 : decode cX12_costOf 1 = .ok (.getfield 39, 3) := by decide +kernel
theorem dX12_costOf_4 : decode cX12_costOf 4 = .ok (.bipush 57, 2) := by decide +kernel
theorem dX12_costOf_6 : decode cX12_costOf 6 = .ok (.iconst 2, 1) := by decide +kernel
theorem dX12_costOf_7 : decode cX12_costOf 7 = .ok (.iload_n 1, 1) := by decide +kernel
theorem dX12_costOf_8 : decode cX12_costOf 8 = .ok (.imul, 1) := by decide +kernel
theorem dX12_costOf_9 : decode cX12_costOf 9 = .ok (.iadd, 1) := by decide +kernel
theorem dX12_costOf_10 : decode cX12_costOf 10 = .ok (.iconst 1, 1) := by decide +kernel
theorem dX12_costOf_11 : decode cX12_costOf 11 = .ok (.iadd, 1) := by decide +kernel
theorem dX12_costOf_12 : decode cX12_costOf 12 = .ok (.iaload, 1) := by decide +kernel
theorem dX12_costOf_13 : decode cX12_costOf 13 = .ok (.ireturn, 1) := by decide +kernel
theorem dX12_monthsTo_0 : decode cX12_monthsTo 0 = .ok (.aload_n 0, 1) := by decide +kernel
theorem dX12_monthsTo_1 : decode cX12_monthsTo 1 = .ok (.getfield 39, 3) := by decide +kernel
theorem dX12_monthsTo_4 : decode cX12_monthsTo 4 = .ok (.bipush 63, 2) := by decide +kernel
theorem dX12_monthsTo_6 : decode cX12_monthsTo 6 = .ok (.iconst 2, 1) := by decide +kernel
theorem dX12_monthsTo_7 : decode cX12_monthsTo 7 = .ok (.iload_n 1, 1) := by decide +kernel
theorem dX12_monthsTo_8 : decode cX12_monthsTo 8 = .ok (.imul, 1) := by decide +kernel
theorem dX12_monthsTo_9 : decode cX12_monthsTo 9 = .ok (.iadd, 1) := by decide +kernel
theorem dX12_monthsTo_10 : decode cX12_monthsTo 10 = .ok (.iaload, 1) := by decide +kernel
theorem dX12_monthsTo_11 : decode cX12_monthsTo 11 = .ok (.ireturn, 1) := by decide +kernel
theorem dX12_heatOf_0 : decode cX12_heatOf 0 = .ok (.aload_n 0, 1) := by decide +kernel
theorem dX12_heatOf_1 : decode cX12_heatOf 1 = .ok (.getfield 39, 3) := by decide +kernel
theorem dX12_heatOf_4 : decode cX12_heatOf 4 = .ok (.bipush 63, 2) := by decide +kernel
theorem dX12_heatOf_6 : decode cX12_heatOf 6 = .ok (.iconst 2, 1) := by decide +kernel
theorem dX12_heatOf_7 : decode cX12_heatOf 7 = .ok (.iload_n 1, 1) := by decide +kernel
theorem dX12_heatOf_8 : decode cX12_heatOf 8 = .ok (.imul, 1) := by decide +kernel
theorem dX12_heatOf_9 : decode cX12_heatOf 9 = .ok (.iadd, 1) := by decide +kernel
theorem dX12_heatOf_10 : decode cX12_heatOf 10 = .ok (.iconst 1, 1) := by decide +kernel
theorem dX12_heatOf_11 : decode cX12_heatOf 11 = .ok (.iadd, 1) := by decide +kernel
theorem dX12_heatOf_12 : decode cX12_heatOf 12 = .ok (.iaload, 1) := by decide +kernel
theorem dX12_heatOf_13 : decode cX12_heatOf 13 = .ok (.ireturn, 1) := by decide +kernel
theorem dX12_isHome_0 : decode cX12_isHome 0 = .ok (.aload_n 0, 1) := by decide +kernel
theorem dX12_isHome_1 : decode cX12_isHome 1 = .ok (.iload_n 1, 1) := by decide +kernel
theorem dX12_isHome_2 : decode cX12_isHome 2 = .ok (.iconst 0, 1) := by decide +kernel
theorem dX12_isHome_3 : decode cX12_isHome 3 = .ok (.invokevirtual 281, 3) := by decide +kernel
theorem dX12_isHome_6 : decode cX12_isHome 6 = .ok (.ifCond .ge 16, 3) := by decide +kernel
theorem dX12_isHome_9 : decode cX12_isHome 9 = .ok (.aload_n 0, 1) := by decide +kernel
theorem dX12_isHome_10 : decode cX12_isHome 10 = .ok (.iload_n 1, 1) := by decide +kernel
theorem dX12_isHome_11 : decode cX12_isHome 11 = .ok (.iconst 1, 1) := by decide +kernel
theorem dX12_isHome_12 : decode cX12_isHome 12 = .ok (.invokevirtual 281, 3) := by decide +kernel
theorem dX12_isHome_15 : decode cX12_isHome 15 = .ok (.ifCond .ne 7, 3) := by decide +kernel
theorem dX12_isHome_18 : decode cX12_isHome 18 = .ok (.iconst 1, 1) := by decide +kernel
theorem dX12_isHome_19 : decode cX12_isHome 19 = .ok (.goto 4, 3) := by decide +kernel
theorem dX12_isHome_22 : decode cX12_isHome 22 = .ok (.iconst 0, 1) := by decide +kernel
theorem dX12_isHome_23 : decode cX12_isHome 23 = .ok (.ireturn, 1) := by decide +kernel
theorem dX12_begins_0 : decode cX12_begins 0 = .ok (.aload_n 0, 1) := by decide +kernel
theorem dX12_begins_1 : decode cX12_begins 1 = .ok (.getfield 39, 3) := by decide +kernel
theorem dX12_begins_4 : decode cX12_begins 4 = .ok (.bipush 10, 2) := by decide +kernel
theorem dX12_begins_6 : decode cX12_begins 6 = .ok (.aload_n 0, 1) := by decide +kernel
theorem dX12_begins_7 : decode cX12_begins 7 = .ok (.getfield 39, 3) := by decide +kernel
theorem dX12_begins_10 : decode cX12_begins 10 = .ok (.bipush 71, 2) := by decide +kernel
theorem dX12_begins_12 : decode cX12_begins 12 = .ok (.iaload, 1) := by decide +kernel
theorem dX12_begins_13 : decode cX12_begins 13 = .ok (.iastore, 1) := by decide +kernel
theorem dX12_begins_14 : decode cX12_begins 14 = .ok (.aload_n 0, 1) := by decide +kernel
theorem dX12_begins_15 : decode cX12_begins 15 = .ok (.getfield 39, 3) := by decide +kernel
theorem dX12_begins_18 : decode cX12_begins 18 = .ok (.bipush 11, 2) := by decide +kernel
theorem dX12_begins_20 : decode cX12_begins 20 = .ok (.aload_n 0, 1) := by decide +kernel
theorem dX12_begins_21 : decode cX12_begins 21 = .ok (.getfield 39, 3) := by decide +kernel
theorem dX12_begins_24 : decode cX12_begins 24 = .ok (.bipush 72, 2) := by decide +kernel
theorem dX12_begins_26 : decode cX12_begins 26 = .ok (.iaload, 1) := by decide +kernel
theorem dX12_begins_27 : decode cX12_begins 27 = .ok (.iastore, 1) := by decide +kernel
theorem dX12_begins_28 : decode cX12_begins 28 = .ok (.aload_n 0, 1) := by decide +kernel
theorem dX12_begins_29 : decode cX12_begins 29 = .ok (.getfield 39, 3) := by decide +kernel
theorem dX12_begins_32 : decode cX12_begins 32 = .ok (.bipush 12, 2) := by decide +kernel
theorem dX12_begins_34 : decode cX12_begins 34 = .ok (.iconst 0, 1) := by decide +kernel
theorem dX12_begins_35 : decode cX12_begins 35 = .ok (.iastore, 1) := by decide +kernel
theorem dX12_begins_36 : decode cX12_begins 36 = .ok (.iconst 0, 1) := by decide +kernel
theorem dX12_begins_37 : decode cX12_begins 37 = .ok (.istore_n 1, 1) := by decide +kernel
theorem dX12_begins_38 : decode cX12_begins 38 = .ok (.iload_n 1, 1) := by decide +kernel
theorem dX12_begins_39 : decode cX12_begins 39 = .ok (.iconst 3, 1) := by decide +kernel
theorem dX12_begins_40 : decode cX12_begins 40 = .ok (.if_icmp .ge 44, 3) := by decide +kernel
theorem dX12_begins_43 : decode cX12_begins 43 = .ok (.iconst 0, 1) := by decide +kernel
theorem dX12_begins_44 : decode cX12_begins 44 = .ok (.istore_n 2, 1) := by decide +kernel
theorem dX12_begins_45 : decode cX12_begins 45 = .ok (.iload_n 2, 1) := by decide +kernel
theorem dX12_begins_46 : decode cX12_begins 46 = .ok (.iconst 4, 1) := by decide +kernel
theorem dX12_begins_47 : decode cX12_begins 47 = .ok (.if_icmp .ge 31, 3) := by decide +kernel
theorem dX12_begins_50 : decode cX12_begins 50 = .ok (.aload_n 0, 1) := by decide +kernel
theorem dX12_begins_51 : decode cX12_begins 51 = .ok (.getfield 39, 3) := by decide +kernel
theorem dX12_begins_54 : decode cX12_begins 54 = .ok (.bipush 13, 2) := by decide +kernel
theorem dX12_begins_56 : decode cX12_begins 56 = .ok (.iconst 4, 1) := by decide +kernel
theorem dX12_begins_57 : decode cX12_begins 57 = .ok (.iload_n 1, 1) := by decide +kernel
theorem dX12_begins_58 : decode cX12_begins 58 = .ok (.imul, 1) := by decide +kernel
theorem dX12_begins_59 : decode cX12_begins 59 = .ok (.iadd, 1) := by decide +kernel
theorem dX12_begins_60 : decode cX12_begins 60 = .ok (.iload_n 2, 1) := by decide +kernel
theorem dX12_begins_61 : decode cX12_begins 61 = .ok (.iadd, 1) := by decide +kernel
theorem dX12_begins_62 : decode cX12_begins 62 = .ok (.iload_n 2, 1) := by decide +kernel
theorem dX12_begins_63 : decode cX12_begins 63 = .ok (.ifCond .ne 7, 3) := by decide +kernel
theorem dX12_begins_66 : decode cX12_begins 66 = .ok (.iconst (-1), 1) := by decide +kernel
theorem dX12_begins_67 : decode cX12_begins 67 = .ok (.goto 4, 3) := by decide +kernel
theorem dX12_begins_70 : decode cX12_begins 70 = .ok (.iconst 0, 1) := by decide +kernel
theorem dX12_begins_71 : decode cX12_begins 71 = .ok (.iastore, 1) := by decide +kernel
theorem dX12_begins_72 : decode cX12_begins 72 = .ok (.iinc 2 1, 3) := by decide +kernel
theorem dX12_begins_75 : decode cX12_begins 75 = .ok (.goto (-30), 3) := by decide +kernel
theorem dX12_begins_78 : decode cX12_begins 78 = .ok (.iinc 1 1, 3) := by decide +kernel
theorem dX12_begins_81 : decode cX12_begins 81 = .ok (.goto (-43), 3) := by decide +kernel
theorem dX12_begins_84 : decode cX12_begins 84 = .ok (.iconst 0, 1) := by decide +kernel
theorem dX12_begins_85 : decode cX12_begins 85 = .ok (.istore_n 1, 1) := by decide +kernel
theorem dX12_begins_86 : decode cX12_begins 86 = .ok (.iload_n 1, 1) := by decide +kernel
theorem dX12_begins_87 : decode cX12_begins 87 = .ok (.iconst 4, 1) := by decide +kernel
theorem dX12_begins_88 : decode cX12_begins 88 = .ok (.if_icmp .ge 103, 3) := by decide +kernel
theorem dX12_begins_91 : decode cX12_begins 91 = .ok (.bipush 73, 2) := by decide +kernel
theorem dX12_begins_93 : decode cX12_begins 93 = .ok (.iconst 3, 1) := by decide +kernel
theorem dX12_begins_94 : decode cX12_begins 94 = .ok (.iload_n 1, 1) := by decide +kernel
theorem dX12_begins_95 : decode cX12_begins 95 = .ok (.imul, 1) := by decide +kernel
theorem dX12_begins_96 : decode cX12_begins 96 = .ok (.iadd, 1) := by decide +kernel
theorem dX12_begins_97 : decode cX12_begins 97 = .ok (.istore_n 2, 1) := by decide +kernel
theorem dX12_begins_98 : decode cX12_begins 98 = .ok (.aload_n 0, 1) := by decide +kernel
theorem dX12_begins_99 : decode cX12_begins 99 = .ok (.getfield 39, 3) := by decide +kernel
theorem dX12_begins_102 : decode cX12_begins 102 = .ok (.bipush 25, 2) := by decide +kernel
theorem dX12_begins_104 : decode cX12_begins 104 = .ok (.iconst 5, 1) := by decide +kernel
theorem dX12_begins_105 : decode cX12_begins 105 = .ok (.iload_n 1, 1) := by decide +kernel
theorem dX12_begins_106 : decode cX12_begins 106 = .ok (.imul, 1) := by decide +kernel
theorem dX12_begins_107 : decode cX12_begins 107 = .ok (.iadd, 1) := by decide +kernel
theorem dX12_begins_108 : decode cX12_begins 108 = .ok (.aload_n 0, 1) := by decide +kernel
theorem dX12_begins_109 : decode cX12_begins 109 = .ok (.getfield 39, 3) := by decide +kernel
theorem dX12_begins_112 : decode cX12_begins 112 = .ok (.iload_n 2, 1) := by decide +kernel
theorem dX12_begins_113 : decode cX12_begins 113 = .ok (.iaload, 1) := by decide +kernel
theorem dX12_begins_114 : decode cX12_begins 114 = .ok (.iastore, 1) := by decide +kernel
theorem dX12_begins_115 : decode cX12_begins 115 = .ok (.aload_n 0, 1) := by decide +kernel
theorem dX12_begins_116 : decode cX12_begins 116 = .ok (.getfield 39, 3) := by decide +kernel
theorem dX12_begins_119 : decode cX12_begins 119 = .ok (.bipush 25, 2) := by decide +kernel
theorem dX12_begins_121 : decode cX12_begins 121 = .ok (.iconst 5, 1) := by decide +kernel
theorem dX12_begins_122 : decode cX12_begins 122 = .ok (.iload_n 1, 1) := by decide +kernel
theorem dX12_begins_123 : decode cX12_begins 123 = .ok (.imul, 1) := by decide +kernel
theorem dX12_begins_124 : decode cX12_begins 124 = .ok (.iadd, 1) := by decide +kernel
theorem dX12_begins_125 : decode cX12_begins 125 = .ok (.iconst 1, 1) := by decide +kernel
theorem dX12_begins_126 : decode cX12_begins 126 = .ok (.iadd, 1) := by decide +kernel
theorem dX12_begins_127 : decode cX12_begins 127 = .ok (.aload_n 0, 1) := by decide +kernel
theorem dX12_begins_128 : decode cX12_begins 128 = .ok (.getfield 39, 3) := by decide +kernel
theorem dX12_begins_131 : decode cX12_begins 131 = .ok (.iload_n 2, 1) := by decide +kernel
theorem dX12_begins_132 : decode cX12_begins 132 = .ok (.iconst 1, 1) := by decide +kernel
theorem dX12_begins_133 : decode cX12_begins 133 = .ok (.iadd, 1) := by decide +kernel
theorem dX12_begins_134 : decode cX12_begins 134 = .ok (.iaload, 1) := by decide +kernel
theorem dX12_begins_135 : decode cX12_begins 135 = .ok (.iastore, 1) := by decide +kernel
theorem dX12_begins_136 : decode cX12_begins 136 = .ok (.aload_n 0, 1) := by decide +kernel
theorem dX12_begins_137 : decode cX12_begins 137 = .ok (.getfield 39, 3) := by decide +kernel
theorem dX12_begins_140 : decode cX12_begins 140 = .ok (.bipush 25, 2) := by decide +kernel
theorem dX12_begins_142 : decode cX12_begins 142 = .ok (.iconst 5, 1) := by decide +kernel
theorem dX12_begins_143 : decode cX12_begins 143 = .ok (.iload_n 1, 1) := by decide +kernel
theorem dX12_begins_144 : decode cX12_begins 144 = .ok (.imul, 1) := by decide +kernel
theorem dX12_begins_145 : decode cX12_begins 145 = .ok (.iadd, 1) := by decide +kernel
theorem dX12_begins_146 : decode cX12_begins 146 = .ok (.iconst 2, 1) := by decide +kernel
theorem dX12_begins_147 : decode cX12_begins 147 = .ok (.iadd, 1) := by decide +kernel
theorem dX12_begins_148 : decode cX12_begins 148 = .ok (.iconst 0, 1) := by decide +kernel
theorem dX12_begins_149 : decode cX12_begins 149 = .ok (.iastore, 1) := by decide +kernel
theorem dX12_begins_150 : decode cX12_begins 150 = .ok (.aload_n 0, 1) := by decide +kernel
theorem dX12_begins_151 : decode cX12_begins 151 = .ok (.getfield 39, 3) := by decide +kernel
theorem dX12_begins_154 : decode cX12_begins 154 = .ok (.bipush 25, 2) := by decide +kernel
theorem dX12_begins_156 : decode cX12_begins 156 = .ok (.iconst 5, 1) := by decide +kernel
theorem dX12_begins_157 : decode cX12_begins 157 = .ok (.iload_n 1, 1) := by decide +kernel
theorem dX12_begins_158 : decode cX12_begins 158 = .ok (.imul, 1) := by decide +kernel
theorem dX12_begins_159 : decode cX12_begins 159 = .ok (.iadd, 1) := by decide +kernel
theorem dX12_begins_160 : decode cX12_begins 160 = .ok (.iconst 3, 1) := by decide +kernel
theorem dX12_begins_161 : decode cX12_begins 161 = .ok (.iadd, 1) := by decide +kernel
theorem dX12_begins_162 : decode cX12_begins 162 = .ok (.aload_n 0, 1) := by decide +kernel
theorem dX12_begins_163 : decode cX12_begins 163 = .ok (.getfield 39, 3) := by decide +kernel
theorem dX12_begins_166 : decode cX12_begins 166 = .ok (.iload_n 2, 1) := by decide +kernel
theorem dX12_begins_167 : decode cX12_begins 167 = .ok (.iconst 2, 1) := by decide +kernel
theorem dX12_begins_168 : decode cX12_begins 168 = .ok (.iadd, 1) := by decide +kernel
theorem dX12_begins_169 : decode cX12_begins 169 = .ok (.iaload, 1) := by decide +kernel
theorem dX12_begins_170 : decode cX12_begins 170 = .ok (.iastore, 1) := by decide +kernel
theorem dX12_begins_171 : decode cX12_begins 171 = .ok (.aload_n 0, 1) := by decide +kernel
theorem dX12_begins_172 : decode cX12_begins 172 = .ok (.getfield 39, 3) := by decide +kernel
theorem dX12_begins_175 : decode cX12_begins 175 = .ok (.bipush 25, 2) := by decide +kernel
theorem dX12_begins_177 : decode cX12_begins 177 = .ok (.iconst 5, 1) := by decide +kernel
theorem dX12_begins_178 : decode cX12_begins 178 = .ok (.iload_n 1, 1) := by decide +kernel
theorem dX12_begins_179 : decode cX12_begins 179 = .ok (.imul, 1) := by decide +kernel
theorem dX12_begins_180 : decode cX12_begins 180 = .ok (.iadd, 1) := by decide +kernel
theorem dX12_begins_181 : decode cX12_begins 181 = .ok (.iconst 4, 1) := by decide +kernel
theorem dX12_begins_182 : decode cX12_begins 182 = .ok (.iadd, 1) := by decide +kernel
theorem dX12_begins_183 : decode cX12_begins 183 = .ok (.iconst 0, 1) := by decide +kernel
theorem dX12_begins_184 : decode cX12_begins 184 = .ok (.iastore, 1) := by decide +kernel
theorem dX12_begins_185 : decode cX12_begins 185 = .ok (.iinc 1 1, 3) := by decide +kernel
theorem dX12_begins_188 : decode cX12_begins 188 = .ok (.goto (-102), 3) := by decide +kernel
theorem dX12_begins_191 : decode cX12_begins 191 = .ok (.return_, 1) := by decide +kernel
theorem dX12_coming_0 : decode cX12_coming 0 = .ok (.iconst 0, 1) := by decide +kernel
theorem dX12_coming_1 : decode cX12_coming 1 = .ok (.istore_n 2, 1) := by decide +kernel
theorem dX12_coming_2 : decode cX12_coming 2 = .ok (.iconst 0, 1) := by decide +kernel
theorem dX12_coming_3 : decode cX12_coming 3 = .ok (.istore_n 3, 1) := by decide +kernel
theorem dX12_coming_4 : decode cX12_coming 4 = .ok (.iload_n 3, 1) := by decide +kernel
theorem dX12_coming_5 : decode cX12_coming 5 = .ok (.aload_n 0, 1) := by decide +kernel
theorem dX12_coming_6 : decode cX12_coming 6 = .ok (.getfield 39, 3) := by decide +kernel
theorem dX12_coming_9 : decode cX12_coming 9 = .ok (.iconst 2, 1) := by decide +kernel
theorem dX12_coming_10 : decode cX12_coming 10 = .ok (.iaload, 1) := by decide +kernel
theorem dX12_coming_11 : decode cX12_coming 11 = .ok (.if_icmp .ge 32, 3) := by decide +kernel
theorem dX12_coming_14 : decode cX12_coming 14 = .ok (.iload_n 2, 1) := by decide +kernel
theorem dX12_coming_15 : decode cX12_coming 15 = .ok (.aload_n 0, 1) := by decide +kernel
theorem dX12_coming_16 : decode cX12_coming 16 = .ok (.iload_n 3, 1) := by decide +kernel
theorem dX12_coming_17 : decode cX12_coming 17 = .ok (.iconst 0, 1) := by decide +kernel
theorem dX12_coming_18 : decode cX12_coming 18 = .ok (.invokevirtual 281, 3) := by decide +kernel
theorem dX12_coming_21 : decode cX12_coming 21 = .ok (.iload_n 1, 1) := by decide +kernel
theorem dX12_coming_22 : decode cX12_coming 22 = .ok (.if_icmp .ne 12, 3) := by decide +kernel
theorem dX12_coming_25 : decode cX12_coming 25 = .ok (.aload_n 0, 1) := by decide +kernel
theorem dX12_coming_26 : decode cX12_coming 26 = .ok (.iload_n 3, 1) := by decide +kernel
theorem dX12_coming_27 : decode cX12_coming 27 = .ok (.iconst 2, 1) := by decide +kernel
theorem dX12_coming_28 : decode cX12_coming 28 = .ok (.invokevirtual 281, 3) := by decide +kernel
theorem dX12_coming_31 : decode cX12_coming 31 = .ok (.goto 4, 3) := by decide +kernel
theorem dX12_coming_34 : decode cX12_coming 34 = .ok (.iconst 0, 1) := by decide +kernel
theorem dX12_coming_35 : decode cX12_coming 35 = .ok (.iadd, 1) := by decide +kernel
theorem dX12_coming_36 : decode cX12_coming 36 = .ok (.istore_n 2, 1) := by decide +kernel
theorem dX12_coming_37 : decode cX12_coming 37 = .ok (.iinc 3 1, 3) := by decide +kernel
theorem dX12_coming_40 : decode cX12_coming 40 = .ok (.goto (-36), 3) := by decide +kernel
theorem dX12_coming_43 : decode cX12_coming 43 = .ok (.iload_n 2, 1) := by decide +kernel
theorem dX12_coming_44 : decode cX12_coming 44 = .ok (.ireturn, 1) := by decide +kernel
theorem dX12_force_0 : decode cX12_force 0 = .ok (.iload_n 1, 1) := by decide +kernel
theorem dX12_force_1 : decode cX12_force 1 = .ok (.iconst (-1), 1) := by decide +kernel
theorem dX12_force_2 : decode cX12_force 2 = .ok (.if_icmp .eq 14, 3) := by decide +kernel
theorem dX12_force_5 : decode cX12_force 5 = .ok (.aload_n 0, 1) := by decide +kernel
theorem dX12_force_6 : decode cX12_force 6 = .ok (.iload_n 1, 1) := by decide +kernel
theorem dX12_force_7 : decode cX12_force 7 = .ok (.invokevirtual 285, 3) := by decide +kernel
theorem dX12_force_10 : decode cX12_force 10 = .ok (.ifCond .ne 6, 3) := by decide +kernel
theorem dX12_force_13 : decode cX12_force 13 = .ok (.bipush (-2), 2) := by decide +kernel
theorem dX12_force_15 : decode cX12_force 15 = .ok (.ireturn, 1) := by decide +kernel
theorem dX12_force_16 : decode cX12_force 16 = .ok (.aload_n 0, 1) := by decide +kernel
theorem dX12_force_17 : decode cX12_force 17 = .ok (.getfield 42, 3) := by decide +kernel
theorem dX12_force_20 : decode cX12_force 20 = .ok (.istore_n 2, 1) := by decide +kernel
theorem dX12_force_21 : decode cX12_force 21 = .ok (.aload_n 0, 1) := by decide +kernel
theorem dX12_force_22 : decode cX12_force 22 = .ok (.iload_n 1, 1) := by decide +kernel
theorem dX12_force_23 : decode cX12_force 23 = .ok (.putfield 42, 3) := by decide +kernel
theorem dX12_force_26 : decode cX12_force 26 = .ok (.iload_n 2, 1) := by decide +kernel
theorem dX12_force_27 : decode cX12_force 27 = .ok (.ireturn, 1) := by decide +kernel
theorem dX12_ship_0 : decode cX12_ship 0 = .ok (.aload_n 0, 1) := by decide +kernel
theorem dX12_ship_1 : decode cX12_ship 1 = .ok (.iload_n 1, 1) := by decide +kernel
theorem dX12_ship_2 : decode cX12_ship 2 = .ok (.invokevirtual 288, 3) := by decide +kernel
theorem dX12_ship_5 : decode cX12_ship 5 = .ok (.ifCond .eq 15, 3) := by decide +kernel
theorem dX12_ship_8 : decode cX12_ship 8 = .ok (.iload_n 2, 1) := by decide +kernel
theorem dX12_ship_9 : decode cX12_ship 9 = .ok (.i2l, 1) := by decide +kernel
theorem dX12_ship_10 : decode cX12_ship 10 = .ok (.lconst 0, 1) := by decide +kernel
theorem dX12_ship_11 : decode cX12_ship 11 = .ok (.ldc2_w 291, 3) := by decide +kernel
theorem dX12_ship_14 : decode cX12_ship 14 = .ok (.invokestatic 112, 3) := by decide +kernel
theorem dX12_ship_17 : decode cX12_ship 17 = .ok (.ifCond .ne 6, 3) := by decide +kernel
theorem dX12_ship_20 : decode cX12_ship 20 = .ok (.bipush (-2), 2) := by decide +kernel
theorem dX12_ship_22 : decode cX12_ship 22 = .ok (.ireturn, 1) := by decide +kernel
theorem dX12_ship_23 : decode cX12_ship 23 = .ok (.iload_n 2, 1) := by decide +kernel
theorem dX12_ship_24 : decode cX12_ship 24 = .ok (.ifCond .ne 11, 3) := by decide +kernel
theorem dX12_ship_27 : decode cX12_ship 27 = .ok (.aload_n 0, 1) := by decide +kernel
theorem dX12_ship_28 : decode cX12_ship 28 = .ok (.iload_n 1, 1) := by decide +kernel
theorem dX12_ship_29 : decode cX12_ship 29 = .ok (.invokevirtual 293, 3) := by decide +kernel
theorem dX12_ship_32 : decode cX12_ship 32 = .ok (.goto 24, 3) := by decide +kernel
theorem dX12_ship_35 : decode cX12_ship 35 = .ok (.iload_n 2, 1) := by decide +kernel
theorem dX12_ship_36 : decode cX12_ship 36 = .ok (.iconst 1, 1) := by decide +kernel
theorem dX12_ship_37 : decode cX12_ship 37 = .ok (.if_icmp .ne 11, 3) := by decide +kernel
theorem dX12_ship_40 : decode cX12_ship 40 = .ok (.aload_n 0, 1) := by decide +kernel
theorem dX12_ship_41 : decode cX12_ship 41 = .ok (.iload_n 1, 1) := by decide +kernel
theorem dX12_ship_42 : decode cX12_ship 42 = .ok (.invokevirtual 296, 3) := by decide +kernel
theorem dX12_ship_45 : decode cX12_ship 45 = .ok (.goto 11, 3) := by decide +kernel
theorem dX12_ship_48 : decode cX12_ship 48 = .ok (.aload_n 0, 1) := by decide +kernel
theorem dX12_ship_49 : decode cX12_ship 49 = .ok (.iload_n 1, 1) := by decide +kernel
theorem dX12_ship_50 : decode cX12_ship 50 = .ok (.iload_n 2, 1) := by decide +kernel
theorem dX12_ship_51 : decode cX12_ship 51 = .ok (.iconst 2, 1) := by decide +kernel
theorem dX12_ship_52 : decode cX12_ship 52 = .ok (.isub, 1) := by decide +kernel
theorem dX12_ship_53 : decode cX12_ship 53 = .ok (.invokevirtual 281, 3) := by decide +kernel
theorem dX12_ship_56 : decode cX12_ship 56 = .ok (.ireturn, 1) := by decide +kernel
theorem dX12_town_0 : decode cX12_town 0 = .ok (.aload_n 0, 1) := by decide +kernel
theorem dX12_town_1 : decode cX12_town 1 = .ok (.iload_n 1, 1) := by decide +kernel
theorem dX12_town_2 : decode cX12_town 2 = .ok (.invokevirtual 299, 3) := by decide +kernel
theorem dX12_town_5 : decode cX12_town 5 = .ok (.ifCond .ne 5, 3) := by decide +kernel
theorem dX12_town_8 : decode cX12_town 8 = .ok (.iconst (-1), 1) := by decide +kernel
theorem dX12_town_9 : decode cX12_town 9 = .ok (.ireturn, 1) := by decide +kernel
theorem dX12_town_10 : decode cX12_town 10 = .ok (.iload_n 2, 1) := by decide +kernel
theorem dX12_town_11 : decode cX12_town 11 = .ok (.tableswitch 79 0 7 #[45, 51, 57, 57, 57, 57, 66, 72], 45) := by decide +kernel
theorem dX12_town_56 : decode cX12_town 56 = .ok (.aload_n 0, 1) := by decide +kernel
theorem dX12_town_57 : decode cX12_town 57 = .ok (.iload_n 1, 1) := by decide +kernel
theorem dX12_town_58 : decode cX12_town 58 = .ok (.invokevirtual 302, 3) := by decide +kernel
theorem dX12_town_61 : decode cX12_town 61 = .ok (.ireturn, 1) := by decide +kernel
theorem dX12_town_62 : decode cX12_town 62 = .ok (.aload_n 0, 1) := by decide +kernel
theorem dX12_town_63 : decode cX12_town 63 = .ok (.iload_n 1, 1) := by decide +kernel
theorem dX12_town_64 : decode cX12_town 64 = .ok (.invokevirtual 305, 3) := by decide +kernel
theorem dX12_town_67 : decode cX12_town 67 = .ok (.ireturn, 1) := by decide +kernel
theorem dX12_town_68 : decode cX12_town 68 = .ok (.aload_n 0, 1) := by decide +kernel
theorem dX12_town_69 : decode cX12_town 69 = .ok (.iload_n 1, 1) := by decide +kernel
theorem dX12_town_70 : decode cX12_town 70 = .ok (.iload_n 2, 1) := by decide +kernel
theorem dX12_town_71 : decode cX12_town 71 = .ok (.iconst 2, 1) := by decide +kernel
theorem dX12_town_72 : decode cX12_town 72 = .ok (.isub, 1) := by decide +kernel
theorem dX12_town_73 : decode cX12_town 73 = .ok (.invokevirtual 308, 3) := by decide +kernel
theorem dX12_town_76 : decode cX12_town 76 = .ok (.ireturn, 1) := by decide +kernel
theorem dX12_town_77 : decode cX12_town 77 = .ok (.aload_n 0, 1) := by decide +kernel
theorem dX12_town_78 : decode cX12_town 78 = .ok (.iload_n 1, 1) := by decide +kernel
theorem dX12_town_79 : decode cX12_town 79 = .ok (.invokevirtual 311, 3) := by decide +kernel
theorem dX12_town_82 : decode cX12_town 82 = .ok (.ireturn, 1) := by decide +kernel
theorem dX12_town_83 : decode cX12_town 83 = .ok (.aload_n 0, 1) := by decide +kernel
theorem dX12_town_84 : decode cX12_town 84 = .ok (.iload_n 1, 1) := by decide +kernel
theorem dX12_town_85 : decode cX12_town 85 = .ok (.iconst 4, 1) := by decide +kernel
theorem dX12_town_86 : decode cX12_town 86 = .ok (.invokevirtual 308, 3) := by decide +kernel
theorem dX12_town_89 : decode cX12_town 89 = .ok (.ireturn, 1) := by decide +kernel
theorem dX12_town_90 : decode cX12_town 90 = .ok (.iconst (-1), 1) := by decide +kernel
theorem dX12_town_91 : decode cX12_town 91 = .ok (.ireturn, 1) := by decide +kernel
theorem dX12_melted_0 : decode cX12_melted 0 = .ok (.iload_n 0, 1) := by decide +kernel
theorem dX12_melted_1 : decode cX12_melted 1 = .ok (.iload_n 0, 1) := by decide +kernel
theorem dX12_melted_2 : decode cX12_melted 2 = .ok (.iload_n 1, 1) := by decide +kernel
theorem dX12_melted_3 : decode cX12_melted 3 = .ok (.imul, 1) := by decide +kernel
theorem dX12_melted_4 : decode cX12_melted 4 = .ok (.bipush 99, 2) := by decide +kernel
theorem dX12_melted_6 : decode cX12_melted 6 = .ok (.iadd, 1) := by decide +kernel
theorem dX12_melted_7 : decode cX12_melted 7 = .ok (.bipush 100, 2) := by decide +kernel
theorem dX12_melted_9 : decode cX12_melted 9 = .ok (.idiv, 1) := by decide +kernel
theorem dX12_melted_10 : decode cX12_melted 10 = .ok (.isub, 1) := by decide +kernel
theorem dX12_melted_11 : decode cX12_melted 11 = .ok (.ireturn, 1) := by decide +kernel
theorem dX12_atSea_0 : decode cX12_atSea 0 = .ok (.iload_n 1, 1) := by decide +kernel
theorem dX12_atSea_1 : decode cX12_atSea 1 = .ok (.iload_n 3, 1) := by decide +kernel
theorem dX12_atSea_2 : decode cX12_atSea 2 = .ok (.ifCond .eq 13, 3) := by decide +kernel
theorem dX12_atSea_5 : decode cX12_atSea 5 = .ok (.aload_n 0, 1) := by decide +kernel
theorem dX12_atSea_6 : decode cX12_atSea 6 = .ok (.iload_n 2, 1) := by decide +kernel
theorem dX12_atSea_7 : decode cX12_atSea 7 = .ok (.invokevirtual 305, 3) := by decide +kernel
theorem dX12_atSea_10 : decode cX12_atSea 10 = .ok (.iconst 4, 1) := by decide +kernel
theorem dX12_atSea_11 : decode cX12_atSea 11 = .ok (.idiv, 1) := by decide +kernel
theorem dX12_atSea_12 : decode cX12_atSea 12 = .ok (.goto 8, 3) := by decide +kernel
theorem dX12_atSea_15 : decode cX12_atSea 15 = .ok (.aload_n 0, 1) := by decide +kernel
theorem dX12_atSea_16 : decode cX12_atSea 16 = .ok (.iload_n 2, 1) := by decide +kernel
theorem dX12_atSea_17 : decode cX12_atSea 17 = .ok (.invokevirtual 305, 3) := by decide +kernel
theorem dX12_atSea_20 : decode cX12_atSea 20 = .ok (.invokestatic 314, 3) := by decide +kernel
theorem dX12_atSea_23 : decode cX12_atSea 23 = .ok (.ireturn, 1) := by decide +kernel
theorem dX12_summedBy_0 : decode cX12_summedBy 0 = .ok (.iconst 0, 1) := by decide +kernel
theorem dX12_summedBy_1 : decode cX12_summedBy 1 = .ok (.istore_n 2, 1) := by decide +kernel
theorem dX12_summedBy_2 : decode cX12_summedBy 2 = .ok (.iload_n 2, 1) := by decide +kernel
theorem dX12_summedBy_3 : decode cX12_summedBy 3 = .ok (.aload_n 0, 1) := by decide +kernel
theorem dX12_summedBy_4 : decode cX12_summedBy 4 = .ok (.getfield 23, 3) := by decide +kernel
theorem dX12_summedBy_7 : decode cX12_summedBy 7 = .ok (.iload_n 1, 1) := by decide +kernel
theorem dX12_summedBy_8 : decode cX12_summedBy 8 = .ok (.iaload, 1) := by decide +kernel
theorem dX12_summedBy_9 : decode cX12_summedBy 9 = .ok (.if_icmp .ge 75, 3) := by decide +kernel
theorem dX12_summedBy_12 : decode cX12_summedBy 12 = .ok (.bipush 48, 2) := by decide +kernel
theorem dX12_summedBy_14 : decode cX12_summedBy 14 = .ok (.iload_n 1, 1) := by decide +kernel
theorem dX12_summedBy_15 : decode cX12_summedBy 15 = .ok (.imul, 1) := by decide +kernel
theorem dX12_summedBy_16 : decode cX12_summedBy 16 = .ok (.iconst 4, 1) := by decide +kernel
theorem dX12_summedBy_17 : decode cX12_summedBy 17 = .ok (.iload_n 2, 1) := by decide +kernel
theorem dX12_summedBy_18 : decode cX12_summedBy 18 = .ok (.imul, 1) := by decide +kernel
theorem dX12_summedBy_19 : decode cX12_summedBy 19 = .ok (.iadd, 1) := by decide +kernel
theorem dX12_summedBy_20 : decode cX12_summedBy 20 = .ok (.istore_n 3, 1) := by decide +kernel
theorem dX12_summedBy_21 : decode cX12_summedBy 21 = .ok (.aload_n 0, 1) := by decide +kernel
theorem dX12_summedBy_22 : decode cX12_summedBy 22 = .ok (.getfield 20, 3) := by decide +kernel
theorem dX12_summedBy_25 : decode cX12_summedBy 25 = .ok (.iload_n 3, 1) := by decide +kernel
theorem dX12_summedBy_26 : decode cX12_summedBy 26 = .ok (.iconst 2, 1) := by decide +kernel
theorem dX12_summedBy_27 : decode cX12_summedBy 27 = .ok (.iadd, 1) := by decide +kernel
theorem dX12_summedBy_28 : decode cX12_summedBy 28 = .ok (.iaload, 1) := by decide +kernel
theorem dX12_summedBy_29 : decode cX12_summedBy 29 = .ok (.ifCond .lt 29, 3) := by decide +kernel
theorem dX12_summedBy_32 : decode cX12_summedBy 32 = .ok (.aload_n 0, 1) := by decide +kernel
theorem dX12_summedBy_33 : decode cX12_summedBy 33 = .ok (.iload_n 1, 1) := by decide +kernel
theorem dX12_summedBy_34 : decode cX12_summedBy 34 = .ok (.aload_n 0, 1) := by decide +kernel
theorem dX12_summedBy_35 : decode cX12_summedBy 35 = .ok (.getfield 20, 3) := by decide +kernel
theorem dX12_summedBy_38 : decode cX12_summedBy 38 = .ok (.iload_n 3, 1) := by decide +kernel
theorem dX12_summedBy_39 : decode cX12_summedBy 39 = .ok (.iconst 2, 1) := by decide +kernel
theorem dX12_summedBy_40 : decode cX12_summedBy 40 = .ok (.iadd, 1) := by decide +kernel
theorem dX12_summedBy_41 : decode cX12_summedBy 41 = .ok (.iaload, 1) := by decide +kernel
theorem dX12_summedBy_42 : decode cX12_summedBy 42 = .ok (.aload_n 0, 1) := by decide +kernel
theorem dX12_summedBy_43 : decode cX12_summedBy 43 = .ok (.getfield 20, 3) := by decide +kernel
theorem dX12_summedBy_46 : decode cX12_summedBy 46 = .ok (.iload_n 3, 1) := by decide +kernel
theorem dX12_summedBy_47 : decode cX12_summedBy 47 = .ok (.iconst 3, 1) := by decide +kernel
theorem dX12_summedBy_48 : decode cX12_summedBy 48 = .ok (.iadd, 1) := by decide +kernel
theorem dX12_summedBy_49 : decode cX12_summedBy 49 = .ok (.iaload, 1) := by decide +kernel
theorem dX12_summedBy_50 : decode cX12_summedBy 50 = .ok (.invokevirtual 317, 3) := by decide +kernel
theorem dX12_summedBy_53 : decode cX12_summedBy 53 = .ok (.lconst 1, 1) := by decide +kernel
theorem dX12_summedBy_54 : decode cX12_summedBy 54 = .ok (.lcmp, 1) := by decide +kernel
theorem dX12_summedBy_55 : decode cX12_summedBy 55 = .ok (.ifCond .ne 23, 3) := by decide +kernel
theorem dX12_summedBy_58 : decode cX12_summedBy 58 = .ok (.aload_n 0, 1) := by decide +kernel
theorem dX12_summedBy_59 : decode cX12_summedBy 59 = .ok (.iload_n 1, 1) := by decide +kernel
theorem dX12_summedBy_60 : decode cX12_summedBy 60 = .ok (.aload_n 0, 1) := by decide +kernel
theorem dX12_summedBy_61 : decode cX12_summedBy 61 = .ok (.getfield 20, 3) := by decide +kernel
theorem dX12_summedBy_64 : decode cX12_summedBy 64 = .ok (.iload_n 3, 1) := by decide +kernel
theorem dX12_summedBy_65 : decode cX12_summedBy 65 = .ok (.iaload, 1) := by decide +kernel
theorem dX12_summedBy_66 : decode cX12_summedBy 66 = .ok (.aload_n 0, 1) := by decide +kernel
theorem dX12_summedBy_67 : decode cX12_summedBy 67 = .ok (.getfield 20, 3) := by decide +kernel
theorem dX12_summedBy_70 : decode cX12_summedBy 70 = .ok (.iload_n 3, 1) := by decide +kernel
theorem dX12_summedBy_71 : decode cX12_summedBy 71 = .ok (.iconst 1, 1) := by decide +kernel
theorem dX12_summedBy_72 : decode cX12_summedBy 72 = .ok (.iadd, 1) := by decide +kernel
theorem dX12_summedBy_73 : decode cX12_summedBy 73 = .ok (.iaload, 1) := by decide +kernel
theorem dX12_summedBy_74 : decode cX12_summedBy 74 = .ok (.invokevirtual 317, 3) := by decide +kernel
theorem dX12_summedBy_77 : decode cX12_summedBy 77 = .ok (.lreturn, 1) := by decide +kernel
theorem dX12_summedBy_78 : decode cX12_summedBy 78 = .ok (.iinc 2 1, 3) := by decide +kernel
theorem dX12_summedBy_81 : decode cX12_summedBy 81 = .ok (.goto (-79), 3) := by decide +kernel
theorem dX12_summedBy_84 : decode cX12_summedBy 84 = .ok (.lconst 0, 1) := by decide +kernel
theorem dX12_summedBy_85 : decode cX12_summedBy 85 = .ok (.lreturn, 1) := by decide +kernel
theorem dX12_words_0 : decode cX12_words 0 = .ok (.aload_n 0, 1) := by decide +kernel
theorem dX12_words_1 : decode cX12_words 1 = .ok (.getfield 36, 3) := by decide +kernel
theorem dX12_words_4 : decode cX12_words 4 = .ok (.iconst 0, 1) := by decide +kernel
theorem dX12_words_5 : decode cX12_words 5 = .ok (.iload_n 1, 1) := by decide +kernel
theorem dX12_words_6 : decode cX12_words 6 = .ok (.i2l, 1) := by decide +kernel
theorem dX12_words_7 : decode cX12_words 7 = .ok (.lastore, 1) := by decide +kernel
theorem dX12_words_8 : decode cX12_words 8 = .ok (.aload_n 0, 1) := by decide +kernel
theorem dX12_words_9 : decode cX12_words 9 = .ok (.getfield 36, 3) := by decide +kernel
theorem dX12_words_12 : decode cX12_words 12 = .ok (.iconst 1, 1) := by decide +kernel
theorem dX12_words_13 : decode cX12_words 13 = .ok (.iload_n 2, 1) := by decide +kernel
theorem dX12_words_14 : decode cX12_words 14 = .ok (.i2l, 1) := by decide +kernel
theorem dX12_words_15 : decode cX12_words 15 = .ok (.lastore, 1) := by decide +kernel
theorem dX12_words_16 : decode cX12_words 16 = .ok (.aload_n 0, 1) := by decide +kernel
theorem dX12_words_17 : decode cX12_words 17 = .ok (.getfield 36, 3) := by decide +kernel
theorem dX12_words_20 : decode cX12_words 20 = .ok (.iconst 2, 1) := by decide +kernel
theorem dX12_words_21 : decode cX12_words 21 = .ok (.aload_n 0, 1) := by decide +kernel
theorem dX12_words_22 : decode cX12_words 22 = .ok (.iload_n 2, 1) := by decide +kernel
theorem dX12_words_23 : decode cX12_words 23 = .ok (.invokevirtual 302, 3) := by decide +kernel
theorem dX12_words_26 : decode cX12_words 26 = .ok (.i2l, 1) := by decide +kernel
theorem dX12_words_27 : decode cX12_words 27 = .ok (.lastore, 1) := by decide +kernel
theorem dX12_words_28 : decode cX12_words 28 = .ok (.aload_n 0, 1) := by decide +kernel
theorem dX12_words_29 : decode cX12_words 29 = .ok (.getfield 36, 3) := by decide +kernel
theorem dX12_words_32 : decode cX12_words 32 = .ok (.iconst 3, 1) := by decide +kernel
theorem dX12_words_33 : decode cX12_words 33 = .ok (.aload_n 0, 1) := by decide +kernel
theorem dX12_words_34 : decode cX12_words 34 = .ok (.iload_n 2, 1) := by decide +kernel
theorem dX12_words_35 : decode cX12_words 35 = .ok (.invokevirtual 305, 3) := by decide +kernel
theorem dX12_words_38 : decode cX12_words 38 = .ok (.i2l, 1) := by decide +kernel
theorem dX12_words_39 : decode cX12_words 39 = .ok (.lastore, 1) := by decide +kernel
theorem dX12_words_40 : decode cX12_words 40 = .ok (.aload_n 0, 1) := by decide +kernel
theorem dX12_words_41 : decode cX12_words 41 = .ok (.getfield 36, 3) := by decide +kernel
theorem dX12_words_44 : decode cX12_words 44 = .ok (.iconst 4, 1) := by decide +kernel
theorem dX12_words_45 : decode cX12_words 45 = .ok (.aload_n 0, 1) := by decide +kernel
theorem dX12_words_46 : decode cX12_words 46 = .ok (.iload_n 2, 1) := by decide +kernel
theorem dX12_words_47 : decode cX12_words 47 = .ok (.iconst 0, 1) := by decide +kernel
theorem dX12_words_48 : decode cX12_words 48 = .ok (.invokevirtual 308, 3) := by decide +kernel
theorem dX12_words_51 : decode cX12_words 51 = .ok (.i2l, 1) := by decide +kernel
theorem dX12_words_52 : decode cX12_words 52 = .ok (.lastore, 1) := by decide +kernel
theorem dX12_words_53 : decode cX12_words 53 = .ok (.aload_n 0, 1) := by decide +kernel
theorem dX12_words_54 : decode cX12_words 54 = .ok (.getfield 36, 3) := by decide +kernel
theorem dX12_words_57 : decode cX12_words 57 = .ok (.iconst 5, 1) := by decide +kernel
theorem dX12_words_58 : decode cX12_words 58 = .ok (.aload_n 0, 1) := by decide +kernel
theorem dX12_words_59 : decode cX12_words 59 = .ok (.iload_n 2, 1) := by decide +kernel
theorem dX12_words_60 : decode cX12_words 60 = .ok (.iconst 1, 1) := by decide +kernel
theorem dX12_words_61 : decode cX12_words 61 = .ok (.invokevirtual 308, 3) := by decide +kernel
theorem dX12_words_64 : decode cX12_words 64 = .ok (.i2l, 1) := by decide +kernel
theorem dX12_words_65 : decode cX12_words 65 = .ok (.lastore, 1) := by decide +kernel
theorem dX12_words_66 : decode cX12_words 66 = .ok (.aload_n 0, 1) := by decide +kernel
theorem dX12_words_67 : decode cX12_words 67 = .ok (.getfield 36, 3) := by decide +kernel
theorem dX12_words_70 : decode cX12_words 70 = .ok (.bipush 6, 2) := by decide +kernel
theorem dX12_words_72 : decode cX12_words 72 = .ok (.aload_n 0, 1) := by decide +kernel
theorem dX12_words_73 : decode cX12_words 73 = .ok (.iload_n 2, 1) := by decide +kernel
theorem dX12_words_74 : decode cX12_words 74 = .ok (.iconst 2, 1) := by decide +kernel
theorem dX12_words_75 : decode cX12_words 75 = .ok (.invokevirtual 308, 3) := by decide +kernel
theorem dX12_words_78 : decode cX12_words 78 = .ok (.i2l, 1) := by decide +kernel
theorem dX12_words_79 : decode cX12_words 79 = .ok (.lastore, 1) := by decide +kernel
theorem dX12_words_80 : decode cX12_words 80 = .ok (.aload_n 0, 1) := by decide +kernel
theorem dX12_words_81 : decode cX12_words 81 = .ok (.getfield 36, 3) := by decide +kernel
theorem dX12_words_84 : decode cX12_words 84 = .ok (.bipush 7, 2) := by decide +kernel
theorem dX12_words_86 : decode cX12_words 86 = .ok (.aload_n 0, 1) := by decide +kernel
theorem dX12_words_87 : decode cX12_words 87 = .ok (.iload_n 2, 1) := by decide +kernel
theorem dX12_words_88 : decode cX12_words 88 = .ok (.invokevirtual 311, 3) := by decide +kernel
theorem dX12_words_91 : decode cX12_words 91 = .ok (.i2l, 1) := by decide +kernel
theorem dX12_words_92 : decode cX12_words 92 = .ok (.lastore, 1) := by decide +kernel
theorem dX12_words_93 : decode cX12_words 93 = .ok (.aload_n 0, 1) := by decide +kernel
theorem dX12_words_94 : decode cX12_words 94 = .ok (.getfield 36, 3) := by decide +kernel
theorem dX12_words_97 : decode cX12_words 97 = .ok (.bipush 8, 2) := by decide +kernel
theorem dX12_words_99 : decode cX12_words 99 = .ok (.aload_n 0, 1) := by decide +kernel
theorem dX12_words_100 : decode cX12_words 100 = .ok (.getfield 39, 3) := by decide +kernel
theorem dX12_words_103 : decode cX12_words 103 = .ok (.bipush 11, 2) := by decide +kernel
theorem dX12_words_105 : decode cX12_words 105 = .ok (.iaload, 1) := by decide +kernel
theorem dX12_words_106 : decode cX12_words 106 = .ok (.i2l, 1) := by decide +kernel
theorem dX12_words_107 : decode cX12_words 107 = .ok (.lastore, 1) := by decide +kernel
theorem dX12_words_108 : decode cX12_words 108 = .ok (.aload_n 0, 1) := by decide +kernel
theorem dX12_words_109 : decode cX12_words 109 = .ok (.getfield 36, 3) := by decide +kernel
theorem dX12_words_112 : decode cX12_words 112 = .ok (.bipush 9, 2) := by decide +kernel
theorem dX12_words_114 : decode cX12_words 114 = .ok (.aload_n 0, 1) := by decide +kernel
theorem dX12_words_115 : decode cX12_words 115 = .ok (.iload_n 1, 1) := by decide +kernel
theorem dX12_words_116 : decode cX12_words 116 = .ok (.invokevirtual 293, 3) := by decide +kernel
theorem dX12_words_119 : decode cX12_words 119 = .ok (.i2l, 1) := by decide +kernel
theorem dX12_words_120 : decode cX12_words 120 = .ok (.lastore, 1) := by decide +kernel
theorem dX12_words_121 : decode cX12_words 121 = .ok (.aload_n 0, 1) := by decide +kernel
theorem dX12_words_122 : decode cX12_words 122 = .ok (.getfield 36, 3) := by decide +kernel
theorem dX12_words_125 : decode cX12_words 125 = .ok (.bipush 10, 2) := by decide +kernel
theorem dX12_words_127 : decode cX12_words 127 = .ok (.aload_n 0, 1) := by decide +kernel
theorem dX12_words_128 : decode cX12_words 128 = .ok (.getfield 39, 3) := by decide +kernel
theorem dX12_words_131 : decode cX12_words 131 = .ok (.bipush 10, 2) := by decide +kernel
theorem dX12_words_133 : decode cX12_words 133 = .ok (.iaload, 1) := by decide +kernel
theorem dX12_words_134 : decode cX12_words 134 = .ok (.i2l, 1) := by decide +kernel
theorem dX12_words_135 : decode cX12_words 135 = .ok (.lastore, 1) := by decide +kernel
theorem dX12_words_136 : decode cX12_words 136 = .ok (.aload_n 0, 1) := by decide +kernel
theorem dX12_words_137 : decode cX12_words 137 = .ok (.getfield 36, 3) := by decide +kernel
theorem dX12_words_140 : decode cX12_words 140 = .ok (.bipush 11, 2) := by decide +kernel
theorem dX12_words_142 : decode cX12_words 142 = .ok (.aload_n 0, 1) := by decide +kernel
theorem dX12_words_143 : decode cX12_words 143 = .ok (.getfield 39, 3) := by decide +kernel
theorem dX12_words_146 : decode cX12_words 146 = .ok (.bipush 12, 2) := by decide +kernel
theorem dX12_words_148 : decode cX12_words 148 = .ok (.iaload, 1) := by decide +kernel
theorem dX12_words_149 : decode cX12_words 149 = .ok (.i2l, 1) := by decide +kernel
theorem dX12_words_150 : decode cX12_words 150 = .ok (.lastore, 1) := by decide +kernel
theorem dX12_words_151 : decode cX12_words 151 = .ok (.aload_n 0, 1) := by decide +kernel
theorem dX12_words_152 : decode cX12_words 152 = .ok (.getfield 36, 3) := by decide +kernel
theorem dX12_words_155 : decode cX12_words 155 = .ok (.bipush 12, 2) := by decide +kernel
theorem dX12_words_157 : decode cX12_words 157 = .ok (.aload_n 0, 1) := by decide +kernel
theorem dX12_words_158 : decode cX12_words 158 = .ok (.iload_n 2, 1) := by decide +kernel
theorem dX12_words_159 : decode cX12_words 159 = .ok (.iconst 3, 1) := by decide +kernel
theorem dX12_words_160 : decode cX12_words 160 = .ok (.invokevirtual 308, 3) := by decide +kernel
theorem dX12_words_163 : decode cX12_words 163 = .ok (.i2l, 1) := by decide +kernel
theorem dX12_words_164 : decode cX12_words 164 = .ok (.lastore, 1) := by decide +kernel
theorem dX12_words_165 : decode cX12_words 165 = .ok (.return_, 1) := by decide +kernel
theorem dX12_mostFor_0 : decode cX12_mostFor 0 = .ok (.aload_n 0, 1) := by decide +kernel
theorem dX12_mostFor_1 : decode cX12_mostFor 1 = .ok (.iload_n 1, 1) := by decide +kernel
theorem dX12_mostFor_2 : decode cX12_mostFor 2 = .ok (.invokevirtual 293, 3) := by decide +kernel
theorem dX12_mostFor_5 : decode cX12_mostFor 5 = .ok (.aload_n 0, 1) := by decide +kernel
theorem dX12_mostFor_6 : decode cX12_mostFor 6 = .ok (.getfield 39, 3) := by decide +kernel
theorem dX12_mostFor_9 : decode cX12_mostFor 9 = .ok (.bipush 11, 2) := by decide +kernel
theorem dX12_mostFor_11 : decode cX12_mostFor 11 = .ok (.iaload, 1) := by decide +kernel
theorem dX12_mostFor_12 : decode cX12_mostFor 12 = .ok (.invokestatic 321, 3) := by decide +kernel
theorem dX12_mostFor_15 : decode cX12_mostFor 15 = .ok (.istore_n 2, 1) := by decide +kernel
theorem dX12_mostFor_16 : decode cX12_mostFor 16 = .ok (.aload_n 0, 1) := by decide +kernel
theorem dX12_mostFor_17 : decode cX12_mostFor 17 = .ok (.getfield 39, 3) := by decide +kernel
theorem dX12_mostFor_20 : decode cX12_mostFor 20 = .ok (.bipush 10, 2) := by decide +kernel
theorem dX12_mostFor_22 : decode cX12_mostFor 22 = .ok (.iaload, 1) := by decide +kernel
theorem dX12_mostFor_23 : decode cX12_mostFor 23 = .ok (.aload_n 0, 1) := by decide +kernel
theorem dX12_mostFor_24 : decode cX12_mostFor 24 = .ok (.iload_n 1, 1) := by decide +kernel
theorem dX12_mostFor_25 : decode cX12_mostFor 25 = .ok (.invokevirtual 296, 3) := by decide +kernel
theorem dX12_mostFor_28 : decode cX12_mostFor 28 = .ok (.isub, 1) := by decide +kernel
theorem dX12_mostFor_29 : decode cX12_mostFor 29 = .ok (.istore_n 3, 1) := by decide +kernel
theorem dX12_mostFor_30 : decode cX12_mostFor 30 = .ok (.iload_n 3, 1) := by decide +kernel
theorem dX12_mostFor_31 : decode cX12_mostFor 31 = .ok (.ifCond .ge 7, 3) := by decide +kernel
theorem dX12_mostFor_34 : decode cX12_mostFor 34 = .ok (.iconst 0, 1) := by decide +kernel
theorem dX12_mostFor_35 : decode cX12_mostFor 35 = .ok (.goto 28, 3) := by decide +kernel
theorem dX12_mostFor_38 : decode cX12_mostFor 38 = .ok (.aload_n 0, 1) := by decide +kernel
theorem dX12_mostFor_39 : decode cX12_mostFor 39 = .ok (.getfield 39, 3) := by decide +kernel
theorem dX12_mostFor_42 : decode cX12_mostFor 42 = .ok (.iconst 1, 1) := by decide +kernel
theorem dX12_mostFor_43 : decode cX12_mostFor 43 = .ok (.iaload, 1) := by decide +kernel
theorem dX12_mostFor_44 : decode cX12_mostFor 44 = .ok (.ifCond .ne 7, 3) := by decide +kernel
theorem dX12_mostFor_47 : decode cX12_mostFor 47 = .ok (.iload_n 2, 1) := by decide +kernel
theorem dX12_mostFor_48 : decode cX12_mostFor 48 = .ok (.goto 15, 3) := by decide +kernel
theorem dX12_mostFor_51 : decode cX12_mostFor 51 = .ok (.iload_n 2, 1) := by decide +kernel
theorem dX12_mostFor_52 : decode cX12_mostFor 52 = .ok (.iload_n 3, 1) := by decide +kernel
theorem dX12_mostFor_53 : decode cX12_mostFor 53 = .ok (.aload_n 0, 1) := by decide +kernel
theorem dX12_mostFor_54 : decode cX12_mostFor 54 = .ok (.getfield 39, 3) := by decide +kernel
theorem dX12_mostFor_57 : decode cX12_mostFor 57 = .ok (.iconst 1, 1) := by decide +kernel
theorem dX12_mostFor_58 : decode cX12_mostFor 58 = .ok (.iaload, 1) := by decide +kernel
theorem dX12_mostFor_59 : decode cX12_mostFor 59 = .ok (.idiv, 1) := by decide +kernel
theorem dX12_mostFor_60 : decode cX12_mostFor 60 = .ok (.invokestatic 321, 3) := by decide +kernel
theorem dX12_mostFor_63 : decode cX12_mostFor 63 = .ok (.ireturn, 1) := by decide +kernel
theorem dX12_sails_0 : decode cX12_sails 0 = .ok (.bipush 13, 2) := by decide +kernel
theorem dX12_sails_2 : decode cX12_sails 2 = .ok (.iconst 4, 1) := by decide +kernel
theorem dX12_sails_3 : decode cX12_sails 3 = .ok (.iload_n 1, 1) := by decide +kernel
theorem dX12_sails_4 : decode cX12_sails 4 = .ok (.imul, 1) := by decide +kernel
theorem dX12_sails_5 : decode cX12_sails 5 = .ok (.iadd, 1) := by decide +kernel
theorem dX12_sails_6 : decode cX12_sails 6 = .ok (.istore 5, 2) := by decide +kernel
theorem dX12_sails_8 : decode cX12_sails 8 = .ok (.aload_n 0, 1) := by decide +kernel
theorem dX12_sails_9 : decode cX12_sails 9 = .ok (.getfield 39, 3) := by decide +kernel
theorem dX12_sails_12 : decode cX12_sails 12 = .ok (.bipush 10, 2) := by decide +kernel
theorem dX12_sails_14 : decode cX12_sails 14 = .ok (.dup2, 1) := by decide +kernel
theorem dX12_sails_15 : decode cX12_sails 15 = .ok (.iaload, 1) := by decide +kernel
theorem dX12_sails_16 : decode cX12_sails 16 = .ok (.aload_n 0, 1) := by decide +kernel
theorem dX12_sails_17 : decode cX12_sails 17 = .ok (.iload_n 1, 1) := by decide +kernel
theorem dX12_sails_18 : decode cX12_sails 18 = .ok (.invokevirtual 296, 3) := by decide +kernel
theorem dX12_sails_21 : decode cX12_sails 21 = .ok (.aload_n 0, 1) := by decide +kernel
theorem dX12_sails_22 : decode cX12_sails 22 = .ok (.getfield 39, 3) := by decide +kernel
theorem dX12_sails_25 : decode cX12_sails 25 = .ok (.iconst 1, 1) := by decide +kernel
theorem dX12_sails_26 : decode cX12_sails 26 = .ok (.iaload, 1) := by decide +kernel
theorem dX12_sails_27 : decode cX12_sails 27 = .ok (.iload_n 3, 1) := by decide +kernel
theorem dX12_sails_28 : decode cX12_sails 28 = .ok (.imul, 1) := by decide +kernel
theorem dX12_sails_29 : decode cX12_sails 29 = .ok (.iadd, 1) := by decide +kernel
theorem dX12_sails_30 : decode cX12_sails 30 = .ok (.iload 4, 2) := by decide +kernel
theorem dX12_sails_32 : decode cX12_sails 32 = .ok (.ifCond .eq 7, 3) := by decide +kernel
theorem dX12_sails_35 : decode cX12_sails 35 = .ok (.iload_n 3, 1) := by decide +kernel
theorem dX12_sails_36 : decode cX12_sails 36 = .ok (.goto 4, 3) := by decide +kernel
theorem dX12_sails_39 : decode cX12_sails 39 = .ok (.iconst 0, 1) := by decide +kernel
theorem dX12_sails_40 : decode cX12_sails 40 = .ok (.iadd, 1) := by decide +kernel
theorem dX12_sails_41 : decode cX12_sails 41 = .ok (.isub, 1) := by decide +kernel
theorem dX12_sails_42 : decode cX12_sails 42 = .ok (.iastore, 1) := by decide +kernel
theorem dX12_sails_43 : decode cX12_sails 43 = .ok (.aload_n 0, 1) := by decide +kernel
theorem dX12_sails_44 : decode cX12_sails 44 = .ok (.getfield 39, 3) := by decide +kernel
theorem dX12_sails_47 : decode cX12_sails 47 = .ok (.bipush 11, 2) := by decide +kernel
theorem dX12_sails_49 : decode cX12_sails 49 = .ok (.dup2, 1) := by decide +kernel
theorem dX12_sails_50 : decode cX12_sails 50 = .ok (.iaload, 1) := by decide +kernel
theorem dX12_sails_51 : decode cX12_sails 51 = .ok (.iload_n 3, 1) := by decide +kernel
theorem dX12_sails_52 : decode cX12_sails 52 = .ok (.isub, 1) := by decide +kernel
theorem dX12_sails_53 : decode cX12_sails 53 = .ok (.iastore, 1) := by decide +kernel
theorem dX12_sails_54 : decode cX12_sails 54 = .ok (.aload_n 0, 1) := by decide +kernel
theorem dX12_sails_55 : decode cX12_sails 55 = .ok (.getfield 39, 3) := by decide +kernel
theorem dX12_sails_58 : decode cX12_sails 58 = .ok (.iload 5, 2) := by decide +kernel
theorem dX12_sails_60 : decode cX12_sails 60 = .ok (.iload_n 2, 1) := by decide +kernel
theorem dX12_sails_61 : decode cX12_sails 61 = .ok (.iastore, 1) := by decide +kernel
theorem dX12_sails_62 : decode cX12_sails 62 = .ok (.aload_n 0, 1) := by decide +kernel
theorem dX12_sails_63 : decode cX12_sails 63 = .ok (.getfield 39, 3) := by decide +kernel
theorem dX12_sails_66 : decode cX12_sails 66 = .ok (.iload 5, 2) := by decide +kernel
theorem dX12_sails_68 : decode cX12_sails 68 = .ok (.iconst 1, 1) := by decide +kernel
theorem dX12_sails_69 : decode cX12_sails 69 = .ok (.iadd, 1) := by decide +kernel
theorem dX12_sails_70 : decode cX12_sails 70 = .ok (.aload_n 0, 1) := by decide +kernel
theorem dX12_sails_71 : decode cX12_sails 71 = .ok (.iload_n 2, 1) := by decide +kernel
theorem dX12_sails_72 : decode cX12_sails 72 = .ok (.invokevirtual 302, 3) := by decide +kernel
theorem dX12_sails_75 : decode cX12_sails 75 = .ok (.iastore, 1) := by decide +kernel
theorem dX12_sails_76 : decode cX12_sails 76 = .ok (.aload_n 0, 1) := by decide +kernel
theorem dX12_sails_77 : decode cX12_sails 77 = .ok (.getfield 39, 3) := by decide +kernel
theorem dX12_sails_80 : decode cX12_sails 80 = .ok (.iload 5, 2) := by decide +kernel
theorem dX12_sails_82 : decode cX12_sails 82 = .ok (.iconst 2, 1) := by decide +kernel
theorem dX12_sails_83 : decode cX12_sails 83 = .ok (.iadd, 1) := by decide +kernel
theorem dX12_sails_84 : decode cX12_sails 84 = .ok (.iload_n 3, 1) := by decide +kernel
theorem dX12_sails_85 : decode cX12_sails 85 = .ok (.iastore, 1) := by decide +kernel
theorem dX12_sails_86 : decode cX12_sails 86 = .ok (.aload_n 0, 1) := by decide +kernel
theorem dX12_sails_87 : decode cX12_sails 87 = .ok (.getfield 39, 3) := by decide +kernel
theorem dX12_sails_90 : decode cX12_sails 90 = .ok (.iload 5, 2) := by decide +kernel
theorem dX12_sails_92 : decode cX12_sails 92 = .ok (.iconst 3, 1) := by decide +kernel
theorem dX12_sails_93 : decode cX12_sails 93 = .ok (.iadd, 1) := by decide +kernel
theorem dX12_sails_94 : decode cX12_sails 94 = .ok (.iload 4, 2) := by decide +kernel
theorem dX12_sails_96 : decode cX12_sails 96 = .ok (.ifCond .eq 7, 3) := by decide +kernel
theorem dX12_sails_99 : decode cX12_sails 99 = .ok (.iconst 1, 1) := by decide +kernel
theorem dX12_sails_100 : decode cX12_sails 100 = .ok (.goto 4, 3) := by decide +kernel
theorem dX12_sails_103 : decode cX12_sails 103 = .ok (.iconst 0, 1) := by decide +kernel
theorem dX12_sails_104 : decode cX12_sails 104 = .ok (.iastore, 1) := by decide +kernel
theorem dX12_sails_105 : decode cX12_sails 105 = .ok (.return_, 1) := by decide +kernel
theorem dX12_sailsBy_0 : decode cX12_sailsBy 0 = .ok (.iconst (-1), 1) := by decide +kernel
theorem dX12_sailsBy_1 : decode cX12_sailsBy 1 = .ok (.istore_n 2, 1) := by decide +kernel
theorem dX12_sailsBy_2 : decode cX12_sailsBy 2 = .ok (.lconst 0, 1) := by decide +kernel
theorem dX12_sailsBy_3 : decode cX12_sailsBy 3 = .ok (.lstore_n 3, 1) := by decide +kernel
theorem dX12_sailsBy_4 : decode cX12_sailsBy 4 = .ok (.iconst 0, 1) := by decide +kernel
theorem dX12_sailsBy_5 : decode cX12_sailsBy 5 = .ok (.istore 5, 2) := by decide +kernel
theorem dX12_sailsBy_7 : decode cX12_sailsBy 7 = .ok (.iload 5, 2) := by decide +kernel
theorem dX12_sailsBy_9 : decode cX12_sailsBy 9 = .ok (.aload_n 0, 1) := by decide +kernel
theorem dX12_sailsBy_10 : decode cX12_sailsBy 10 = .ok (.getfield 39, 3) := by decide +kernel
theorem dX12_sailsBy_13 : decode cX12_sailsBy 13 = .ok (.iconst 3, 1) := by decide +kernel
theorem dX12_sailsBy_14 : decode cX12_sailsBy 14 = .ok (.iaload, 1) := by decide +kernel
theorem dX12_sailsBy_15 : decode cX12_sailsBy 15 = .ok (.if_icmp .ge 42, 3) := by decide +kernel
theorem dX12_sailsBy_18 : decode cX12_sailsBy 18 = .ok (.aload_n 0, 1) := by decide +kernel
theorem dX12_sailsBy_19 : decode cX12_sailsBy 19 = .ok (.iload_n 1, 1) := by decide +kernel
theorem dX12_sailsBy_20 : decode cX12_sailsBy 20 = .ok (.iload 5, 2) := by decide +kernel
theorem dX12_sailsBy_22 : decode cX12_sailsBy 22 = .ok (.invokevirtual 324, 3) := by decide +kernel
theorem dX12_sailsBy_25 : decode cX12_sailsBy 25 = .ok (.aload_n 0, 1) := by decide +kernel
theorem dX12_sailsBy_26 : decode cX12_sailsBy 26 = .ok (.aload_n 0, 1) := by decide +kernel
theorem dX12_sailsBy_27 : decode cX12_sailsBy 27 = .ok (.getfield 42, 3) := by decide +kernel
theorem dX12_sailsBy_30 : decode cX12_sailsBy 30 = .ok (.invokevirtual 327, 3) := by decide +kernel
theorem dX12_sailsBy_33 : decode cX12_sailsBy 33 = .ok (.lstore 6, 2) := by decide +kernel
theorem dX12_sailsBy_35 : decode cX12_sailsBy 35 = .ok (.lload 6, 2) := by decide +kernel
theorem dX12_sailsBy_37 : decode cX12_sailsBy 37 = .ok (.lload_n 3, 1) := by decide +kernel
theorem dX12_sailsBy_38 : decode cX12_sailsBy 38 = .ok (.lcmp, 1) := by decide +kernel
theorem dX12_sailsBy_39 : decode cX12_sailsBy 39 = .ok (.ifCond .gt 6, 3) := by decide +kernel
theorem dX12_sailsBy_42 : decode cX12_sailsBy 42 = .ok (.goto 9, 3) := by decide +kernel
theorem dX12_sailsBy_45 : decode cX12_sailsBy 45 = .ok (.iload 5, 2) := by decide +kernel
theorem dX12_sailsBy_47 : decode cX12_sailsBy 47 = .ok (.istore_n 2, 1) := by decide +kernel
theorem dX12_sailsBy_48 : decode cX12_sailsBy 48 = .ok (.lload 6, 2) := by decide +kernel
theorem dX12_sailsBy_50 : decode cX12_sailsBy 50 = .ok (.lstore_n 3, 1) := by decide +kernel
theorem dX12_sailsBy_51 : decode cX12_sailsBy 51 = .ok (.iinc 5 1, 3) := by decide +kernel
theorem dX12_sailsBy_54 : decode cX12_sailsBy 54 = .ok (.goto (-47), 3) := by decide +kernel
theorem dX12_sailsBy_57 : decode cX12_sailsBy 57 = .ok (.iload_n 2, 1) := by decide +kernel
theorem dX12_sailsBy_58 : decode cX12_sailsBy 58 = .ok (.ifCond .ge 4, 3) := by decide +kernel
theorem dX12_sailsBy_61 : decode cX12_sailsBy 61 = .ok (.return_, 1) := by decide +kernel
theorem dX12_sailsBy_62 : decode cX12_sailsBy 62 = .ok (.aload_n 0, 1) := by decide +kernel
theorem dX12_sailsBy_63 : decode cX12_sailsBy 63 = .ok (.iload_n 1, 1) := by decide +kernel
theorem dX12_sailsBy_64 : decode cX12_sailsBy 64 = .ok (.invokevirtual 331, 3) := by decide +kernel
theorem dX12_sailsBy_67 : decode cX12_sailsBy 67 = .ok (.istore 5, 2) := by decide +kernel
theorem dX12_sailsBy_69 : decode cX12_sailsBy 69 = .ok (.lload_n 3, 1) := by decide +kernel
theorem dX12_sailsBy_70 : decode cX12_sailsBy 70 = .ok (.iload 5, 2) := by decide +kernel
theorem dX12_sailsBy_72 : decode cX12_sailsBy 72 = .ok (.i2l, 1) := by decide +kernel
theorem dX12_sailsBy_73 : decode cX12_sailsBy 73 = .ok (.lcmp, 1) := by decide +kernel
theorem dX12_sailsBy_74 : decode cX12_sailsBy 74 = .ok (.ifCond .ge 7, 3) := by decide +kernel
theorem dX12_sailsBy_77 : decode cX12_sailsBy 77 = .ok (.lload_n 3, 1) := by decide +kernel
theorem dX12_sailsBy_78 : decode cX12_sailsBy 78 = .ok (.l2i, 1) := by decide +kernel
theorem dX12_sailsBy_79 : decode cX12_sailsBy 79 = .ok (.istore 5, 2) := by decide +kernel
theorem dX12_sailsBy_81 : decode cX12_sailsBy 81 = .ok (.iload 5, 2) := by decide +kernel
theorem dX12_sailsBy_83 : decode cX12_sailsBy 83 = .ok (.ifCond .le 12, 3) := by decide +kernel
theorem dX12_sailsBy_86 : decode cX12_sailsBy 86 = .ok (.aload_n 0, 1) := by decide +kernel
theorem dX12_sailsBy_87 : decode cX12_sailsBy 87 = .ok (.iload_n 1, 1) := by decide +kernel
theorem dX12_sailsBy_88 : decode cX12_sailsBy 88 = .ok (.iload_n 2, 1) := by decide +kernel
theorem dX12_sailsBy_89 : decode cX12_sailsBy 89 = .ok (.iload 5, 2) := by decide +kernel
theorem dX12_sailsBy_91 : decode cX12_sailsBy 91 = .ok (.iconst 0, 1) := by decide +kernel
theorem dX12_sailsBy_92 : decode cX12_sailsBy 92 = .ok (.invokevirtual 334, 3) := by decide +kernel
theorem dX12_sailsBy_95 : decode cX12_sailsBy 95 = .ok (.return_, 1) := by decide +kernel
theorem dX12_grows_0 : decode cX12_grows 0 = .ok (.aload_n 0, 1) := by decide +kernel
theorem dX12_grows_1 : decode cX12_grows 1 = .ok (.getfield 39, 3) := by decide +kernel
theorem dX12_grows_4 : decode cX12_grows 4 = .ok (.bipush 45, 2) := by decide +kernel
theorem dX12_grows_6 : decode cX12_grows 6 = .ok (.aload_n 0, 1) := by decide +kernel
theorem dX12_grows_7 : decode cX12_grows 7 = .ok (.getfield 39, 3) := by decide +kernel
theorem dX12_grows_10 : decode cX12_grows 10 = .ok (.bipush 12, 2) := by decide +kernel
theorem dX12_grows_12 : decode cX12_grows 12 = .ok (.iaload, 1) := by decide +kernel
theorem dX12_grows_13 : decode cX12_grows 13 = .ok (.bipush 12, 2) := by decide +kernel
theorem dX12_grows_15 : decode cX12_grows 15 = .ok (.irem, 1) := by decide +kernel
theorem dX12_grows_16 : decode cX12_grows 16 = .ok (.iadd, 1) := by decide +kernel
theorem dX12_grows_17 : decode cX12_grows 17 = .ok (.iaload, 1) := by decide +kernel
theorem dX12_grows_18 : decode cX12_grows 18 = .ok (.aload_n 0, 1) := by decide +kernel
theorem dX12_grows_19 : decode cX12_grows 19 = .ok (.getfield 46, 3) := by decide +kernel
theorem dX12_grows_22 : decode cX12_grows 22 = .ok (.imul, 1) := by decide +kernel
theorem dX12_grows_23 : decode cX12_grows 23 = .ok (.bipush 100, 2) := by decide +kernel
theorem dX12_grows_25 : decode cX12_grows 25 = .ok (.idiv, 1) := by decide +kernel
theorem dX12_grows_26 : decode cX12_grows 26 = .ok (.istore_n 1, 1) := by decide +kernel
theorem dX12_grows_27 : decode cX12_grows 27 = .ok (.aload_n 0, 1) := by decide +kernel
theorem dX12_grows_28 : decode cX12_grows 28 = .ok (.getfield 39, 3) := by decide +kernel
theorem dX12_grows_31 : decode cX12_grows 31 = .ok (.bipush 11, 2) := by decide +kernel
theorem dX12_grows_33 : decode cX12_grows 33 = .ok (.iload_n 1, 1) := by decide +kernel
theorem dX12_grows_34 : decode cX12_grows 34 = .ok (.ifCond .le 21, 3) := by decide +kernel
theorem dX12_grows_37 : decode cX12_grows 37 = .ok (.aload_n 0, 1) := by decide +kernel
theorem dX12_grows_38 : decode cX12_grows 38 = .ok (.getfield 39, 3) := by decide +kernel
theorem dX12_grows_41 : decode cX12_grows 41 = .ok (.bipush 11, 2) := by decide +kernel
theorem dX12_grows_43 : decode cX12_grows 43 = .ok (.iaload, 1) := by decide +kernel
theorem dX12_grows_44 : decode cX12_grows 44 = .ok (.iload_n 1, 1) := by decide +kernel
theorem dX12_grows_45 : decode cX12_grows 45 = .ok (.iadd, 1) := by decide +kernel
theorem dX12_grows_46 : decode cX12_grows 46 = .ok (.sipush 999, 3) := by decide +kernel
theorem dX12_grows_49 : decode cX12_grows 49 = .ok (.invokestatic 321, 3) := by decide +kernel
theorem dX12_grows_52 : decode cX12_grows 52 = .ok (.goto 15, 3) := by decide +kernel
theorem dX12_grows_55 : decode cX12_grows 55 = .ok (.aload_n 0, 1) := by decide +kernel
theorem dX12_grows_56 : decode cX12_grows 56 = .ok (.getfield 39, 3) := by decide +kernel
theorem dX12_grows_59 : decode cX12_grows 59 = .ok (.bipush 11, 2) := by decide +kernel
theorem dX12_grows_61 : decode cX12_grows 61 = .ok (.iaload, 1) := by decide +kernel
theorem dX12_grows_62 : decode cX12_grows 62 = .ok (.bipush 10, 2) := by decide +kernel
theorem dX12_grows_64 : decode cX12_grows 64 = .ok (.invokestatic 314, 3) := by decide +kernel
theorem dX12_grows_67 : decode cX12_grows 67 = .ok (.iastore, 1) := by decide +kernel
theorem dX12_grows_68 : decode cX12_grows 68 = .ok (.return_, 1) := by decide +kernel
theorem dX12_moves_0 : decode cX12_moves 0 = .ok (.bipush 13, 2) := by decide +kernel
theorem dX12_moves_2 : decode cX12_moves 2 = .ok (.iconst 4, 1) := by decide +kernel
theorem dX12_moves_3 : decode cX12_moves 3 = .ok (.iload_n 1, 1) := by decide +kernel
theorem dX12_moves_4 : decode cX12_moves 4 = .ok (.imul, 1) := by decide +kernel
theorem dX12_moves_5 : decode cX12_moves 5 = .ok (.iadd, 1) := by decide +kernel
theorem dX12_moves_6 : decode cX12_moves 6 = .ok (.istore_n 2, 1) := by decide +kernel
theorem dX12_moves_7 : decode cX12_moves 7 = .ok (.aload_n 0, 1) := by decide +kernel
theorem dX12_moves_8 : decode cX12_moves 8 = .ok (.getfield 39, 3) := by decide +kernel
theorem dX12_moves_11 : decode cX12_moves 11 = .ok (.iload_n 2, 1) := by decide +kernel
theorem dX12_moves_12 : decode cX12_moves 12 = .ok (.iaload, 1) := by decide +kernel
theorem dX12_moves_13 : decode cX12_moves 13 = .ok (.istore_n 3, 1) := by decide +kernel
theorem dX12_moves_14 : decode cX12_moves 14 = .ok (.iload_n 3, 1) := by decide +kernel
theorem dX12_moves_15 : decode cX12_moves 15 = .ok (.ifCond .ge 31, 3) := by decide +kernel
theorem dX12_moves_18 : decode cX12_moves 18 = .ok (.aload_n 0, 1) := by decide +kernel
theorem dX12_moves_19 : decode cX12_moves 19 = .ok (.getfield 39, 3) := by decide +kernel
theorem dX12_moves_22 : decode cX12_moves 22 = .ok (.iload_n 2, 1) := by decide +kernel
theorem dX12_moves_23 : decode cX12_moves 23 = .ok (.iconst 1, 1) := by decide +kernel
theorem dX12_moves_24 : decode cX12_moves 24 = .ok (.iadd, 1) := by decide +kernel
theorem dX12_moves_25 : decode cX12_moves 25 = .ok (.dup2, 1) := by decide +kernel
theorem dX12_moves_26 : decode cX12_moves 26 = .ok (.iaload, 1) := by decide +kernel
theorem dX12_moves_27 : decode cX12_moves 27 = .ok (.aload_n 0, 1) := by decide +kernel
theorem dX12_moves_28 : decode cX12_moves 28 = .ok (.getfield 39, 3) := by decide +kernel
theorem dX12_moves_31 : decode cX12_moves 31 = .ok (.iload_n 2, 1) := by decide +kernel
theorem dX12_moves_32 : decode cX12_moves 32 = .ok (.iconst 1, 1) := by decide +kernel
theorem dX12_moves_33 : decode cX12_moves 33 = .ok (.iadd, 1) := by decide +kernel
theorem dX12_moves_34 : decode cX12_moves 34 = .ok (.iaload, 1) := by decide +kernel
theorem dX12_moves_35 : decode cX12_moves 35 = .ok (.ifCond .le 7, 3) := by decide +kernel
theorem dX12_moves_38 : decode cX12_moves 38 = .ok (.iconst 1, 1) := by decide +kernel
theorem dX12_moves_39 : decode cX12_moves 39 = .ok (.goto 4, 3) := by decide +kernel
theorem dX12_moves_42 : decode cX12_moves 42 = .ok (.iconst 0, 1) := by decide +kernel
theorem dX12_moves_43 : decode cX12_moves 43 = .ok (.isub, 1) := by decide +kernel
theorem dX12_moves_44 : decode cX12_moves 44 = .ok (.iastore, 1) := by decide +kernel
theorem dX12_moves_45 : decode cX12_moves 45 = .ok (.return_, 1) := by decide +kernel
theorem dX12_moves_46 : decode cX12_moves 46 = .ok (.aload_n 0, 1) := by decide +kernel
theorem dX12_moves_47 : decode cX12_moves 47 = .ok (.getfield 39, 3) := by decide +kernel
theorem dX12_moves_50 : decode cX12_moves 50 = .ok (.iload_n 2, 1) := by decide +kernel
theorem dX12_moves_51 : decode cX12_moves 51 = .ok (.iconst 2, 1) := by decide +kernel
theorem dX12_moves_52 : decode cX12_moves 52 = .ok (.iadd, 1) := by decide +kernel
theorem dX12_moves_53 : decode cX12_moves 53 = .ok (.aload_n 0, 1) := by decide +kernel
theorem dX12_moves_54 : decode cX12_moves 54 = .ok (.aload_n 0, 1) := by decide +kernel
theorem dX12_moves_55 : decode cX12_moves 55 = .ok (.getfield 39, 3) := by decide +kernel
theorem dX12_moves_58 : decode cX12_moves 58 = .ok (.iload_n 2, 1) := by decide +kernel
theorem dX12_moves_59 : decode cX12_moves 59 = .ok (.iconst 2, 1) := by decide +kernel
theorem dX12_moves_60 : decode cX12_moves 60 = .ok (.iadd, 1) := by decide +kernel
theorem dX12_moves_61 : decode cX12_moves 61 = .ok (.iaload, 1) := by decide +kernel
theorem dX12_moves_62 : decode cX12_moves 62 = .ok (.iload_n 3, 1) := by decide +kernel
theorem dX12_moves_63 : decode cX12_moves 63 = .ok (.aload_n 0, 1) := by decide +kernel
theorem dX12_moves_64 : decode cX12_moves 64 = .ok (.getfield 39, 3) := by decide +kernel
theorem dX12_moves_67 : decode cX12_moves 67 = .ok (.iload_n 2, 1) := by decide +kernel
theorem dX12_moves_68 : decode cX12_moves 68 = .ok (.iconst 3, 1) := by decide +kernel
theorem dX12_moves_69 : decode cX12_moves 69 = .ok (.iadd, 1) := by decide +kernel
theorem dX12_moves_70 : decode cX12_moves 70 = .ok (.iaload, 1) := by decide +kernel
theorem dX12_moves_71 : decode cX12_moves 71 = .ok (.iconst 1, 1) := by decide +kernel
theorem dX12_moves_72 : decode cX12_moves 72 = .ok (.if_icmp .ne 7, 3) := by decide +kernel
theorem dX12_moves_75 : decode cX12_moves 75 = .ok (.iconst 1, 1) := by decide +kernel
theorem dX12_moves_76 : decode cX12_moves 76 = .ok (.goto 4, 3) := by decide +kernel
theorem dX12_moves_79 : decode cX12_moves 79 = .ok (.iconst 0, 1) := by decide +kernel
theorem dX12_moves_80 : decode cX12_moves 80 = .ok (.invokevirtual 338, 3) := by decide +kernel
theorem dX12_moves_83 : decode cX12_moves 83 = .ok (.iastore, 1) := by decide +kernel
theorem dX12_moves_84 : decode cX12_moves 84 = .ok (.aload_n 0, 1) := by decide +kernel
theorem dX12_moves_85 : decode cX12_moves 85 = .ok (.getfield 39, 3) := by decide +kernel
theorem dX12_moves_88 : decode cX12_moves 88 = .ok (.iload_n 2, 1) := by decide +kernel
theorem dX12_moves_89 : decode cX12_moves 89 = .ok (.iconst 1, 1) := by decide +kernel
theorem dX12_moves_90 : decode cX12_moves 90 = .ok (.iadd, 1) := by decide +kernel
theorem dX12_moves_91 : decode cX12_moves 91 = .ok (.dup2, 1) := by decide +kernel
theorem dX12_moves_92 : decode cX12_moves 92 = .ok (.iaload, 1) := by decide +kernel
theorem dX12_moves_93 : decode cX12_moves 93 = .ok (.iconst 1, 1) := by decide +kernel
theorem dX12_moves_94 : decode cX12_moves 94 = .ok (.isub, 1) := by decide +kernel
theorem dX12_moves_95 : decode cX12_moves 95 = .ok (.iastore, 1) := by decide +kernel
theorem dX12_moves_96 : decode cX12_moves 96 = .ok (.aload_n 0, 1) := by decide +kernel
theorem dX12_moves_97 : decode cX12_moves 97 = .ok (.getfield 39, 3) := by decide +kernel
theorem dX12_moves_100 : decode cX12_moves 100 = .ok (.iload_n 2, 1) := by decide +kernel
theorem dX12_moves_101 : decode cX12_moves 101 = .ok (.iconst 1, 1) := by decide +kernel
theorem dX12_moves_102 : decode cX12_moves 102 = .ok (.iadd, 1) := by decide +kernel
theorem dX12_moves_103 : decode cX12_moves 103 = .ok (.iaload, 1) := by decide +kernel
theorem dX12_moves_104 : decode cX12_moves 104 = .ok (.ifCond .le 4, 3) := by decide +kernel
theorem dX12_moves_107 : decode cX12_moves 107 = .ok (.return_, 1) := by decide +kernel
theorem dX12_moves_108 : decode cX12_moves 108 = .ok (.aload_n 0, 1) := by decide +kernel
theorem dX12_moves_109 : decode cX12_moves 109 = .ok (.getfield 39, 3) := by decide +kernel
theorem dX12_moves_112 : decode cX12_moves 112 = .ok (.bipush 25, 2) := by decide +kernel
theorem dX12_moves_114 : decode cX12_moves 114 = .ok (.iconst 5, 1) := by decide +kernel
theorem dX12_moves_115 : decode cX12_moves 115 = .ok (.iload_n 3, 1) := by decide +kernel
theorem dX12_moves_116 : decode cX12_moves 116 = .ok (.imul, 1) := by decide +kernel
theorem dX12_moves_117 : decode cX12_moves 117 = .ok (.iadd, 1) := by decide +kernel
theorem dX12_moves_118 : decode cX12_moves 118 = .ok (.iconst 2, 1) := by decide +kernel
theorem dX12_moves_119 : decode cX12_moves 119 = .ok (.iadd, 1) := by decide +kernel
theorem dX12_moves_120 : decode cX12_moves 120 = .ok (.dup2, 1) := by decide +kernel
theorem dX12_moves_121 : decode cX12_moves 121 = .ok (.iaload, 1) := by decide +kernel
theorem dX12_moves_122 : decode cX12_moves 122 = .ok (.aload_n 0, 1) := by decide +kernel
theorem dX12_moves_123 : decode cX12_moves 123 = .ok (.getfield 39, 3) := by decide +kernel
theorem dX12_moves_126 : decode cX12_moves 126 = .ok (.iload_n 2, 1) := by decide +kernel
theorem dX12_moves_127 : decode cX12_moves 127 = .ok (.iconst 2, 1) := by decide +kernel
theorem dX12_moves_128 : decode cX12_moves 128 = .ok (.iadd, 1) := by decide +kernel
theorem dX12_moves_129 : decode cX12_moves 129 = .ok (.iaload, 1) := by decide +kernel
theorem dX12_moves_130 : decode cX12_moves 130 = .ok (.iadd, 1) := by decide +kernel
theorem dX12_moves_131 : decode cX12_moves 131 = .ok (.iastore, 1) := by decide +kernel
theorem dX12_moves_132 : decode cX12_moves 132 = .ok (.aload_n 0, 1) := by decide +kernel
theorem dX12_moves_133 : decode cX12_moves 133 = .ok (.getfield 39, 3) := by decide +kernel
theorem dX12_moves_136 : decode cX12_moves 136 = .ok (.iload_n 2, 1) := by decide +kernel
theorem dX12_moves_137 : decode cX12_moves 137 = .ok (.iconst (-1), 1) := by decide +kernel
theorem dX12_moves_138 : decode cX12_moves 138 = .ok (.iastore, 1) := by decide +kernel
theorem dX12_moves_139 : decode cX12_moves 139 = .ok (.aload_n 0, 1) := by decide +kernel
theorem dX12_moves_140 : decode cX12_moves 140 = .ok (.getfield 39, 3) := by decide +kernel
theorem dX12_moves_143 : decode cX12_moves 143 = .ok (.iload_n 2, 1) := by decide +kernel
theorem dX12_moves_144 : decode cX12_moves 144 = .ok (.iconst 1, 1) := by decide +kernel
theorem dX12_moves_145 : decode cX12_moves 145 = .ok (.iadd, 1) := by decide +kernel
theorem dX12_moves_146 : decode cX12_moves 146 = .ok (.aload_n 0, 1) := by decide +kernel
theorem dX12_moves_147 : decode cX12_moves 147 = .ok (.iload_n 3, 1) := by decide +kernel
theorem dX12_moves_148 : decode cX12_moves 148 = .ok (.invokevirtual 302, 3) := by decide +kernel
theorem dX12_moves_151 : decode cX12_moves 151 = .ok (.iastore, 1) := by decide +kernel
theorem dX12_moves_152 : decode cX12_moves 152 = .ok (.aload_n 0, 1) := by decide +kernel
theorem dX12_moves_153 : decode cX12_moves 153 = .ok (.getfield 39, 3) := by decide +kernel
theorem dX12_moves_156 : decode cX12_moves 156 = .ok (.iload_n 2, 1) := by decide +kernel
theorem dX12_moves_157 : decode cX12_moves 157 = .ok (.iconst 2, 1) := by decide +kernel
theorem dX12_moves_158 : decode cX12_moves 158 = .ok (.iadd, 1) := by decide +kernel
theorem dX12_moves_159 : decode cX12_moves 159 = .ok (.iconst 0, 1) := by decide +kernel
theorem dX12_moves_160 : decode cX12_moves 160 = .ok (.iastore, 1) := by decide +kernel
theorem dX12_moves_161 : decode cX12_moves 161 = .ok (.aload_n 0, 1) := by decide +kernel
theorem dX12_moves_162 : decode cX12_moves 162 = .ok (.getfield 39, 3) := by decide +kernel
theorem dX12_moves_165 : decode cX12_moves 165 = .ok (.iload_n 2, 1) := by decide +kernel
theorem dX12_moves_166 : decode cX12_moves 166 = .ok (.iconst 3, 1) := by decide +kernel
theorem dX12_moves_167 : decode cX12_moves 167 = .ok (.iadd, 1) := by decide +kernel
theorem dX12_moves_168 : decode cX12_moves 168 = .ok (.iconst 0, 1) := by decide +kernel
theorem dX12_moves_169 : decode cX12_moves 169 = .ok (.iastore, 1) := by decide +kernel
theorem dX12_moves_170 : decode cX12_moves 170 = .ok (.return_, 1) := by decide +kernel
theorem dX12_sells_0 : decode cX12_sells 0 = .ok (.bipush 25, 2) := by decide +kernel
theorem dX12_sells_2 : decode cX12_sells 2 = .ok (.iconst 5, 1) := by decide +kernel
theorem dX12_sells_3 : decode cX12_sells 3 = .ok (.iload_n 1, 1) := by decide +kernel
theorem dX12_sells_4 : decode cX12_sells 4 = .ok (.imul, 1) := by decide +kernel
theorem dX12_sells_5 : decode cX12_sells 5 = .ok (.iadd, 1) := by decide +kernel
theorem dX12_sells_6 : decode cX12_sells 6 = .ok (.istore_n 2, 1) := by decide +kernel
theorem dX12_sells_7 : decode cX12_sells 7 = .ok (.aload_n 0, 1) := by decide +kernel
theorem dX12_sells_8 : decode cX12_sells 8 = .ok (.getfield 39, 3) := by decide +kernel
theorem dX12_sells_11 : decode cX12_sells 11 = .ok (.iload_n 2, 1) := by decide +kernel
theorem dX12_sells_12 : decode cX12_sells 12 = .ok (.iconst 2, 1) := by decide +kernel
theorem dX12_sells_13 : decode cX12_sells 13 = .ok (.iadd, 1) := by decide +kernel
theorem dX12_sells_14 : decode cX12_sells 14 = .ok (.iaload, 1) := by decide +kernel
theorem dX12_sells_15 : decode cX12_sells 15 = .ok (.istore_n 3, 1) := by decide +kernel
theorem dX12_sells_16 : decode cX12_sells 16 = .ok (.aload_n 0, 1) := by decide +kernel
theorem dX12_sells_17 : decode cX12_sells 17 = .ok (.getfield 39, 3) := by decide +kernel
theorem dX12_sells_20 : decode cX12_sells 20 = .ok (.iload_n 2, 1) := by decide +kernel
theorem dX12_sells_21 : decode cX12_sells 21 = .ok (.iaload, 1) := by decide +kernel
theorem dX12_sells_22 : decode cX12_sells 22 = .ok (.istore 4, 2) := by decide +kernel
theorem dX12_sells_24 : decode cX12_sells 24 = .ok (.iload_n 3, 1) := by decide +kernel
theorem dX12_sells_25 : decode cX12_sells 25 = .ok (.iload 4, 2) := by decide +kernel
theorem dX12_sells_27 : decode cX12_sells 27 = .ok (.if_icmp .ge 7, 3) := by decide +kernel
theorem dX12_sells_30 : decode cX12_sells 30 = .ok (.iload_n 3, 1) := by decide +kernel
theorem dX12_sells_31 : decode cX12_sells 31 = .ok (.goto 5, 3) := by decide +kernel
theorem dX12_sells_34 : decode cX12_sells 34 = .ok (.iload 4, 2) := by decide +kernel
