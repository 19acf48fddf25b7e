theorem dX12_fleet_80 : decode cX12_fleet 80 = .ok (.iconst 2, 1) := by decide +kernel
theorem dX12_fleet_81 : decode cX12_fleet 81 = .ok (.iaload, 1) := by decide +kernel
theorem dX12_fleet_82 : decode cX12_fleet 82 = .ok (.if_icmp .ge 77, 3) := by decide +kernel
theorem dX12_fleet_85 : decode cX12_fleet 85 = .ok (.aload_n 0, 1) := by decide +kernel
theorem dX12_fleet_86 : decode cX12_fleet 86 = .ok (.iload 5, 2) := by decide +kernel
theorem dX12_fleet_88 : decode cX12_fleet 88 = .ok (.iload 7, 2) := by decide +kernel
theorem dX12_fleet_90 : decode cX12_fleet 90 = .ok (.invokevirtual 407, 3) := by decide +kernel
theorem dX12_fleet_93 : decode cX12_fleet 93 = .ok (.istore 8, 2) := by decide +kernel
theorem dX12_fleet_95 : decode cX12_fleet 95 = .ok (.iload 8, 2) := by decide +kernel
theorem dX12_fleet_97 : decode cX12_fleet 97 = .ok (.ifCond .ge 6, 3) := by decide +kernel
theorem dX12_fleet_100 : decode cX12_fleet 100 = .ok (.goto 53, 3) := by decide +kernel
theorem dX12_fleet_103 : decode cX12_fleet 103 = .ok (.iload 6, 2) := by decide +kernel
theorem dX12_fleet_105 : decode cX12_fleet 105 = .ok (.ifCond .eq 16, 3) := by decide +kernel
theorem dX12_fleet_108 : decode cX12_fleet 108 = .ok (.aload_n 0, 1) := by decide +kernel
theorem dX12_fleet_109 : decode cX12_fleet 109 = .ok (.iload 7, 2) := by decide +kernel
theorem dX12_fleet_111 : decode cX12_fleet 111 = .ok (.invokevirtual 342, 3) := by decide +kernel
theorem dX12_fleet_114 : decode cX12_fleet 114 = .ok (.ifCond .eq 7, 3) := by decide +kernel
theorem dX12_fleet_117 : decode cX12_fleet 117 = .ok (.iconst 1, 1) := by decide +kernel
theorem dX12_fleet_118 : decode cX12_fleet 118 = .ok (.goto 4, 3) := by decide +kernel
theorem dX12_fleet_121 : decode cX12_fleet 121 = .ok (.iconst 0, 1) := by decide +kernel
theorem dX12_fleet_122 : decode cX12_fleet 122 = .ok (.istore 6, 2) := by decide +kernel
theorem dX12_fleet_124 : decode cX12_fleet 124 = .ok (.iload 6, 2) := by decide +kernel
theorem dX12_fleet_126 : decode cX12_fleet 126 = .ok (.ifCond .eq 27, 3) := by decide +kernel
theorem dX12_fleet_129 : decode cX12_fleet 129 = .ok (.aload_n 0, 1) := by decide +kernel
theorem dX12_fleet_130 : decode cX12_fleet 130 = .ok (.iload 7, 2) := by decide +kernel
theorem dX12_fleet_132 : decode cX12_fleet 132 = .ok (.invokevirtual 331, 3) := by decide +kernel
theorem dX12_fleet_135 : decode cX12_fleet 135 = .ok (.ifCond .le 18, 3) := by decide +kernel
theorem dX12_fleet_138 : decode cX12_fleet 138 = .ok (.aload_n 0, 1) := by decide +kernel
theorem dX12_fleet_139 : decode cX12_fleet 139 = .ok (.iload 7, 2) := by decide +kernel
theorem dX12_fleet_141 : decode cX12_fleet 141 = .ok (.iload 8, 2) := by decide +kernel
theorem dX12_fleet_143 : decode cX12_fleet 143 = .ok (.aload_n 0, 1) := by decide +kernel
theorem dX12_fleet_144 : decode cX12_fleet 144 = .ok (.iload 7, 2) := by decide +kernel
theorem dX12_fleet_146 : decode cX12_fleet 146 = .ok (.invokevirtual 331, 3) := by decide +kernel
theorem dX12_fleet_149 : decode cX12_fleet 149 = .ok (.iconst 0, 1) := by decide +kernel
theorem dX12_fleet_150 : decode cX12_fleet 150 = .ok (.invokevirtual 334, 3) := by decide +kernel
theorem dX12_fleet_153 : decode cX12_fleet 153 = .ok (.iinc 7 1, 3) := by decide +kernel
theorem dX12_fleet_156 : decode cX12_fleet 156 = .ok (.goto (-82), 3) := by decide +kernel
theorem dX12_fleet_159 : decode cX12_fleet 159 = .ok (.aload_n 0, 1) := by decide +kernel
theorem dX12_fleet_160 : decode cX12_fleet 160 = .ok (.iload 6, 2) := by decide +kernel
theorem dX12_fleet_162 : decode cX12_fleet 162 = .ok (.ifCond .eq 7, 3) := by decide +kernel
theorem dX12_fleet_165 : decode cX12_fleet 165 = .ok (.iload_n 1, 1) := by decide +kernel
theorem dX12_fleet_166 : decode cX12_fleet 166 = .ok (.goto 4, 3) := by decide +kernel
theorem dX12_fleet_169 : decode cX12_fleet 169 = .ok (.iconst 0, 1) := by decide +kernel
theorem dX12_fleet_170 : decode cX12_fleet 170 = .ok (.invokevirtual 401, 3) := by decide +kernel
theorem dX12_fleet_173 : decode cX12_fleet 173 = .ok (.istore 7, 2) := by decide +kernel
theorem dX12_fleet_175 : decode cX12_fleet 175 = .ok (.iload 6, 2) := by decide +kernel
theorem dX12_fleet_177 : decode cX12_fleet 177 = .ok (.ifCond .eq 20, 3) := by decide +kernel
theorem dX12_fleet_180 : decode cX12_fleet 180 = .ok (.iload 7, 2) := by decide +kernel
theorem dX12_fleet_182 : decode cX12_fleet 182 = .ok (.iload 4, 2) := by decide +kernel
theorem dX12_fleet_184 : decode cX12_fleet 184 = .ok (.if_icmp .gt 6, 3) := by decide +kernel
theorem dX12_fleet_187 : decode cX12_fleet 187 = .ok (.goto 10, 3) := by decide +kernel
theorem dX12_fleet_190 : decode cX12_fleet 190 = .ok (.iload 5, 2) := by decide +kernel
theorem dX12_fleet_192 : decode cX12_fleet 192 = .ok (.istore_n 3, 1) := by decide +kernel
theorem dX12_fleet_193 : decode cX12_fleet 193 = .ok (.iload 7, 2) := by decide +kernel
theorem dX12_fleet_195 : decode cX12_fleet 195 = .ok (.istore 4, 2) := by decide +kernel
theorem dX12_fleet_197 : decode cX12_fleet 197 = .ok (.iinc 5 1, 3) := by decide +kernel
theorem dX12_fleet_200 : decode cX12_fleet 200 = .ok (.goto (-154), 3) := by decide +kernel
theorem dX12_fleet_203 : decode cX12_fleet 203 = .ok (.iload_n 2, 1) := by decide +kernel
theorem dX12_fleet_204 : decode cX12_fleet 204 = .ok (.ifCond .ne 6, 3) := by decide +kernel
theorem dX12_fleet_207 : decode cX12_fleet 207 = .ok (.iload 4, 2) := by decide +kernel
theorem dX12_fleet_209 : decode cX12_fleet 209 = .ok (.ireturn, 1) := by decide +kernel
theorem dX12_fleet_210 : decode cX12_fleet 210 = .ok (.iload_n 2, 1) := by decide +kernel
theorem dX12_fleet_211 : decode cX12_fleet 211 = .ok (.iconst 1, 1) := by decide +kernel
theorem dX12_fleet_212 : decode cX12_fleet 212 = .ok (.isub, 1) := by decide +kernel
theorem dX12_fleet_213 : decode cX12_fleet 213 = .ok (.aload_n 0, 1) := by decide +kernel
theorem dX12_fleet_214 : decode cX12_fleet 214 = .ok (.getfield 39, 3) := by decide +kernel
theorem dX12_fleet_217 : decode cX12_fleet 217 = .ok (.iconst 2, 1) := by decide +kernel
theorem dX12_fleet_218 : decode cX12_fleet 218 = .ok (.iaload, 1) := by decide +kernel
theorem dX12_fleet_219 : decode cX12_fleet 219 = .ok (.if_icmp .ge 24, 3) := by decide +kernel
theorem dX12_fleet_222 : decode cX12_fleet 222 = .ok (.aload_n 0, 1) := by decide +kernel
theorem dX12_fleet_223 : decode cX12_fleet 223 = .ok (.iload_n 2, 1) := by decide +kernel
theorem dX12_fleet_224 : decode cX12_fleet 224 = .ok (.iconst 1, 1) := by decide +kernel
theorem dX12_fleet_225 : decode cX12_fleet 225 = .ok (.isub, 1) := by decide +kernel
theorem dX12_fleet_226 : decode cX12_fleet 226 = .ok (.invokevirtual 342, 3) := by decide +kernel
theorem dX12_fleet_229 : decode cX12_fleet 229 = .ok (.ifCond .eq 14, 3) := by decide +kernel
theorem dX12_fleet_232 : decode cX12_fleet 232 = .ok (.aload_n 0, 1) := by decide +kernel
theorem dX12_fleet_233 : decode cX12_fleet 233 = .ok (.iload_n 3, 1) := by decide +kernel
theorem dX12_fleet_234 : decode cX12_fleet 234 = .ok (.iload_n 2, 1) := by decide +kernel
theorem dX12_fleet_235 : decode cX12_fleet 235 = .ok (.iconst 1, 1) := by decide +kernel
theorem dX12_fleet_236 : decode cX12_fleet 236 = .ok (.isub, 1) := by decide +kernel
theorem dX12_fleet_237 : decode cX12_fleet 237 = .ok (.invokevirtual 407, 3) := by decide +kernel
theorem dX12_fleet_240 : decode cX12_fleet 240 = .ok (.goto 5, 3) := by decide +kernel
theorem dX12_fleet_243 : decode cX12_fleet 243 = .ok (.bipush (-2), 2) := by decide +kernel
theorem dX12_fleet_245 : decode cX12_fleet 245 = .ok (.ireturn, 1) := by decide +kernel
theorem dX12_give_0 : decode cX12_give 0 = .ok (.aload_n 0, 1) := by decide +kernel
theorem dX12_give_1 : decode cX12_give 1 = .ok (.iload_n 1, 1) := by decide +kernel
theorem dX12_give_2 : decode cX12_give 2 = .ok (.invokevirtual 299, 3) := by decide +kernel
theorem dX12_give_5 : decode cX12_give 5 = .ok (.ifCond .eq 25, 3) := by decide +kernel
theorem dX12_give_8 : decode cX12_give 8 = .ok (.iload_n 2, 1) := by decide +kernel
theorem dX12_give_9 : decode cX12_give 9 = .ok (.i2l, 1) := by decide +kernel
theorem dX12_give_10 : decode cX12_give 10 = .ok (.lconst 1, 1) := by decide +kernel
theorem dX12_give_11 : decode cX12_give 11 = .ok (.ldc2_w 399, 3) := by decide +kernel
theorem dX12_give_14 : decode cX12_give 14 = .ok (.invokestatic 112, 3) := by decide +kernel
theorem dX12_give_17 : decode cX12_give 17 = .ok (.ifCond .eq 13, 3) := by decide +kernel
theorem dX12_give_20 : decode cX12_give 20 = .ok (.iload_n 3, 1) := by decide +kernel
theorem dX12_give_21 : decode cX12_give 21 = .ok (.i2l, 1) := by decide +kernel
theorem dX12_give_22 : decode cX12_give 22 = .ok (.lconst 0, 1) := by decide +kernel
theorem dX12_give_23 : decode cX12_give 23 = .ok (.lconst 1, 1) := by decide +kernel
theorem dX12_give_24 : decode cX12_give 24 = .ok (.invokestatic 112, 3) := by decide +kernel
theorem dX12_give_27 : decode cX12_give 27 = .ok (.ifCond .ne 5, 3) := by decide +kernel
theorem dX12_give_30 : decode cX12_give 30 = .ok (.iconst (-1), 1) := by decide +kernel
theorem dX12_give_31 : decode cX12_give 31 = .ok (.ireturn, 1) := by decide +kernel
theorem dX12_give_32 : decode cX12_give 32 = .ok (.aload_n 0, 1) := by decide +kernel
theorem dX12_give_33 : decode cX12_give 33 = .ok (.invokevirtual 388, 3) := by decide +kernel
theorem dX12_give_36 : decode cX12_give 36 = .ok (.iconst 0, 1) := by decide +kernel
theorem dX12_give_37 : decode cX12_give 37 = .ok (.istore 4, 2) := by decide +kernel
theorem dX12_give_39 : decode cX12_give 39 = .ok (.iconst (-1), 1) := by decide +kernel
theorem dX12_give_40 : decode cX12_give 40 = .ok (.istore 5, 2) := by decide +kernel
theorem dX12_give_42 : decode cX12_give 42 = .ok (.aload_n 0, 1) := by decide +kernel
theorem dX12_give_43 : decode cX12_give 43 = .ok (.iload_n 1, 1) := by decide +kernel
theorem dX12_give_44 : decode cX12_give 44 = .ok (.iconst 2, 1) := by decide +kernel
theorem dX12_give_45 : decode cX12_give 45 = .ok (.invokevirtual 308, 3) := by decide +kernel
theorem dX12_give_48 : decode cX12_give 48 = .ok (.istore 6, 2) := by decide +kernel
theorem dX12_give_50 : decode cX12_give 50 = .ok (.iconst 0, 1) := by decide +kernel
theorem dX12_give_51 : decode cX12_give 51 = .ok (.istore 7, 2) := by decide +kernel
theorem dX12_give_53 : decode cX12_give 53 = .ok (.iload 7, 2) := by decide +kernel
theorem dX12_give_55 : decode cX12_give 55 = .ok (.iload 6, 2) := by decide +kernel
theorem dX12_give_57 : decode cX12_give 57 = .ok (.if_icmp .gt 41, 3) := by decide +kernel
theorem dX12_give_60 : decode cX12_give 60 = .ok (.aload_n 0, 1) := by decide +kernel
theorem dX12_give_61 : decode cX12_give 61 = .ok (.iload_n 1, 1) := by decide +kernel
theorem dX12_give_62 : decode cX12_give 62 = .ok (.iload 7, 2) := by decide +kernel
theorem dX12_give_64 : decode cX12_give 64 = .ok (.invokevirtual 372, 3) := by decide +kernel
theorem dX12_give_67 : decode cX12_give 67 = .ok (.aload_n 0, 1) := by decide +kernel
theorem dX12_give_68 : decode cX12_give 68 = .ok (.iload_n 2, 1) := by decide +kernel
theorem dX12_give_69 : decode cX12_give 69 = .ok (.invokevirtual 401, 3) := by decide +kernel
theorem dX12_give_72 : decode cX12_give 72 = .ok (.istore 8, 2) := by decide +kernel
theorem dX12_give_74 : decode cX12_give 74 = .ok (.iload 8, 2) := by decide +kernel
theorem dX12_give_76 : decode cX12_give 76 = .ok (.iload 5, 2) := by decide +kernel
theorem dX12_give_78 : decode cX12_give 78 = .ok (.if_icmp .gt 6, 3) := by decide +kernel
theorem dX12_give_81 : decode cX12_give 81 = .ok (.goto 11, 3) := by decide +kernel
theorem dX12_give_84 : decode cX12_give 84 = .ok (.iload 7, 2) := by decide +kernel
theorem dX12_give_86 : decode cX12_give 86 = .ok (.istore 4, 2) := by decide +kernel
theorem dX12_give_88 : decode cX12_give 88 = .ok (.iload 8, 2) := by decide +kernel
theorem dX12_give_90 : decode cX12_give 90 = .ok (.istore 5, 2) := by decide +kernel
theorem dX12_give_92 : decode cX12_give 92 = .ok (.iinc 7 1, 3) := by decide +kernel
theorem dX12_give_95 : decode cX12_give 95 = .ok (.goto (-42), 3) := by decide +kernel
theorem dX12_give_98 : decode cX12_give 98 = .ok (.iload_n 3, 1) := by decide +kernel
theorem dX12_give_99 : decode cX12_give 99 = .ok (.ifCond .ne 8, 3) := by decide +kernel
theorem dX12_give_102 : decode cX12_give 102 = .ok (.iload 5, 2) := by decide +kernel
theorem dX12_give_104 : decode cX12_give 104 = .ok (.goto 5, 3) := by decide +kernel
theorem dX12_give_107 : decode cX12_give 107 = .ok (.iload 4, 2) := by decide +kernel
theorem dX12_give_109 : decode cX12_give 109 = .ok (.ireturn, 1) := by decide +kernel
theorem dX12_site_0 : decode cX12_site 0 = .ok (.aload_n 0, 1) := by decide +kernel
theorem dX12_site_1 : decode cX12_site 1 = .ok (.invokevirtual 357, 3) := by decide +kernel
theorem dX12_site_4 : decode cX12_site 4 = .ok (.ifCond .eq 25, 3) := by decide +kernel
theorem dX12_site_7 : decode cX12_site 7 = .ok (.iload_n 1, 1) := by decide +kernel
theorem dX12_site_8 : decode cX12_site 8 = .ok (.i2l, 1) := by decide +kernel
theorem dX12_site_9 : decode cX12_site 9 = .ok (.lconst 1, 1) := by decide +kernel
theorem dX12_site_10 : decode cX12_site 10 = .ok (.ldc2_w 399, 3) := by decide +kernel
theorem dX12_site_13 : decode cX12_site 13 = .ok (.invokestatic 112, 3) := by decide +kernel
theorem dX12_site_16 : decode cX12_site 16 = .ok (.ifCond .eq 13, 3) := by decide +kernel
theorem dX12_site_19 : decode cX12_site 19 = .ok (.iload_n 2, 1) := by decide +kernel
theorem dX12_site_20 : decode cX12_site 20 = .ok (.i2l, 1) := by decide +kernel
theorem dX12_site_21 : decode cX12_site 21 = .ok (.lconst 0, 1) := by decide +kernel
theorem dX12_site_22 : decode cX12_site 22 = .ok (.lconst 1, 1) := by decide +kernel
theorem dX12_site_23 : decode cX12_site 23 = .ok (.invokestatic 112, 3) := by decide +kernel
theorem dX12_site_26 : decode cX12_site 26 = .ok (.ifCond .ne 6, 3) := by decide +kernel
theorem dX12_site_29 : decode cX12_site 29 = .ok (.bipush (-2), 2) := by decide +kernel
theorem dX12_site_31 : decode cX12_site 31 = .ok (.ireturn, 1) := by decide +kernel
theorem dX12_site_32 : decode cX12_site 32 = .ok (.aload_n 0, 1) := by decide +kernel
theorem dX12_site_33 : decode cX12_site 33 = .ok (.invokevirtual 388, 3) := by decide +kernel
theorem dX12_site_36 : decode cX12_site 36 = .ok (.iconst (-1), 1) := by decide +kernel
theorem dX12_site_37 : decode cX12_site 37 = .ok (.istore_n 3, 1) := by decide +kernel
theorem dX12_site_38 : decode cX12_site 38 = .ok (.aload_n 0, 1) := by decide +kernel
theorem dX12_site_39 : decode cX12_site 39 = .ok (.iload_n 1, 1) := by decide +kernel
theorem dX12_site_40 : decode cX12_site 40 = .ok (.invokevirtual 401, 3) := by decide +kernel
theorem dX12_site_43 : decode cX12_site 43 = .ok (.istore 4, 2) := by decide +kernel
theorem dX12_site_45 : decode cX12_site 45 = .ok (.iconst 0, 1) := by decide +kernel
theorem dX12_site_46 : decode cX12_site 46 = .ok (.istore 5, 2) := by decide +kernel
theorem dX12_site_48 : decode cX12_site 48 = .ok (.iload 5, 2) := by decide +kernel
theorem dX12_site_50 : decode cX12_site 50 = .ok (.aload_n 0, 1) := by decide +kernel
theorem dX12_site_51 : decode cX12_site 51 = .ok (.getfield 39, 3) := by decide +kernel
theorem dX12_site_54 : decode cX12_site 54 = .ok (.iconst 3, 1) := by decide +kernel
theorem dX12_site_55 : decode cX12_site 55 = .ok (.iaload, 1) := by decide +kernel
theorem dX12_site_56 : decode cX12_site 56 = .ok (.if_icmp .ge 51, 3) := by decide +kernel
theorem dX12_site_59 : decode cX12_site 59 = .ok (.aload_n 0, 1) := by decide +kernel
theorem dX12_site_60 : decode cX12_site 60 = .ok (.iload 5, 2) := by decide +kernel
theorem dX12_site_62 : decode cX12_site 62 = .ok (.invokevirtual 375, 3) := by decide +kernel
theorem dX12_site_65 : decode cX12_site 65 = .ok (.ifCond .ne 6, 3) := by decide +kernel
theorem dX12_site_68 : decode cX12_site 68 = .ok (.goto 33, 3) := by decide +kernel
theorem dX12_site_71 : decode cX12_site 71 = .ok (.aload_n 0, 1) := by decide +kernel
theorem dX12_site_72 : decode cX12_site 72 = .ok (.iload 5, 2) := by decide +kernel
theorem dX12_site_74 : decode cX12_site 74 = .ok (.invokevirtual 378, 3) := by decide +kernel
theorem dX12_site_77 : decode cX12_site 77 = .ok (.aload_n 0, 1) := by decide +kernel
theorem dX12_site_78 : decode cX12_site 78 = .ok (.iload_n 1, 1) := by decide +kernel
theorem dX12_site_79 : decode cX12_site 79 = .ok (.invokevirtual 401, 3) := by decide +kernel
theorem dX12_site_82 : decode cX12_site 82 = .ok (.istore 6, 2) := by decide +kernel
theorem dX12_site_84 : decode cX12_site 84 = .ok (.iload 6, 2) := by decide +kernel
theorem dX12_site_86 : decode cX12_site 86 = .ok (.iload 4, 2) := by decide +kernel
theorem dX12_site_88 : decode cX12_site 88 = .ok (.if_icmp .gt 6, 3) := by decide +kernel
theorem dX12_site_91 : decode cX12_site 91 = .ok (.goto 10, 3) := by decide +kernel
theorem dX12_site_94 : decode cX12_site 94 = .ok (.iload 5, 2) := by decide +kernel
theorem dX12_site_96 : decode cX12_site 96 = .ok (.istore_n 3, 1) := by decide +kernel
theorem dX12_site_97 : decode cX12_site 97 = .ok (.iload 6, 2) := by decide +kernel
theorem dX12_site_99 : decode cX12_site 99 = .ok (.istore 4, 2) := by decide +kernel
theorem dX12_site_101 : decode cX12_site 101 = .ok (.iinc 5 1, 3) := by decide +kernel
theorem dX12_site_104 : decode cX12_site 104 = .ok (.goto (-56), 3) := by decide +kernel
theorem dX12_site_107 : decode cX12_site 107 = .ok (.iload_n 2, 1) := by decide +kernel
theorem dX12_site_108 : decode cX12_site 108 = .ok (.ifCond .ne 8, 3) := by decide +kernel
theorem dX12_site_111 : decode cX12_site 111 = .ok (.iload 4, 2) := by decide +kernel
theorem dX12_site_113 : decode cX12_site 113 = .ok (.goto 4, 3) := by decide +kernel
theorem dX12_site_116 : decode cX12_site 116 = .ok (.iload_n 3, 1) := by decide +kernel
theorem dX12_site_117 : decode cX12_site 117 = .ok (.ireturn, 1) := by decide +kernel
theorem dX12_pricing_0 : decode cX12_pricing 0 = .ok (.aload_n 0, 1) := by decide +kernel
theorem dX12_pricing_1 : decode cX12_pricing 1 = .ok (.iload_n 1, 1) := by decide +kernel
theorem dX12_pricing_2 : decode cX12_pricing 2 = .ok (.invokevirtual 299, 3) := by decide +kernel
theorem dX12_pricing_5 : decode cX12_pricing 5 = .ok (.ifCond .eq 25, 3) := by decide +kernel
theorem dX12_pricing_8 : decode cX12_pricing 8 = .ok (.iload_n 2, 1) := by decide +kernel
theorem dX12_pricing_9 : decode cX12_pricing 9 = .ok (.i2l, 1) := by decide +kernel
theorem dX12_pricing_10 : decode cX12_pricing 10 = .ok (.lconst 1, 1) := by decide +kernel
theorem dX12_pricing_11 : decode cX12_pricing 11 = .ok (.ldc2_w 399, 3) := by decide +kernel
theorem dX12_pricing_14 : decode cX12_pricing 14 = .ok (.invokestatic 112, 3) := by decide +kernel
theorem dX12_pricing_17 : decode cX12_pricing 17 = .ok (.ifCond .eq 13, 3) := by decide +kernel
theorem dX12_pricing_20 : decode cX12_pricing 20 = .ok (.iload_n 3, 1) := by decide +kernel
theorem dX12_pricing_21 : decode cX12_pricing 21 = .ok (.i2l, 1) := by decide +kernel
theorem dX12_pricing_22 : decode cX12_pricing 22 = .ok (.lconst 0, 1) := by decide +kernel
theorem dX12_pricing_23 : decode cX12_pricing 23 = .ok (.lconst 1, 1) := by decide +kernel
theorem dX12_pricing_24 : decode cX12_pricing 24 = .ok (.invokestatic 112, 3) := by decide +kernel
theorem dX12_pricing_27 : decode cX12_pricing 27 = .ok (.ifCond .ne 5, 3) := by decide +kernel
theorem dX12_pricing_30 : decode cX12_pricing 30 = .ok (.iconst (-1), 1) := by decide +kernel
theorem dX12_pricing_31 : decode cX12_pricing 31 = .ok (.ireturn, 1) := by decide +kernel
theorem dX12_pricing_32 : decode cX12_pricing 32 = .ok (.aload_n 0, 1) := by decide +kernel
theorem dX12_pricing_33 : decode cX12_pricing 33 = .ok (.invokevirtual 388, 3) := by decide +kernel
theorem dX12_pricing_36 : decode cX12_pricing 36 = .ok (.iconst 0, 1) := by decide +kernel
theorem dX12_pricing_37 : decode cX12_pricing 37 = .ok (.istore 4, 2) := by decide +kernel
theorem dX12_pricing_39 : decode cX12_pricing 39 = .ok (.iconst (-1), 1) := by decide +kernel
theorem dX12_pricing_40 : decode cX12_pricing 40 = .ok (.istore 5, 2) := by decide +kernel
theorem dX12_pricing_42 : decode cX12_pricing 42 = .ok (.iconst 1, 1) := by decide +kernel
theorem dX12_pricing_43 : decode cX12_pricing 43 = .ok (.istore 6, 2) := by decide +kernel
theorem dX12_pricing_45 : decode cX12_pricing 45 = .ok (.iload 6, 2) := by decide +kernel
theorem dX12_pricing_47 : decode cX12_pricing 47 = .ok (.bipush 99, 2) := by decide +kernel
theorem dX12_pricing_49 : decode cX12_pricing 49 = .ok (.if_icmp .gt 52, 3) := by decide +kernel
theorem dX12_pricing_52 : decode cX12_pricing 52 = .ok (.iload 6, 2) := by decide +kernel
theorem dX12_pricing_54 : decode cX12_pricing 54 = .ok (.aload_n 0, 1) := by decide +kernel
theorem dX12_pricing_55 : decode cX12_pricing 55 = .ok (.iload_n 1, 1) := by decide +kernel
theorem dX12_pricing_56 : decode cX12_pricing 56 = .ok (.iconst 1, 1) := by decide +kernel
theorem dX12_pricing_57 : decode cX12_pricing 57 = .ok (.invokevirtual 308, 3) := by decide +kernel
theorem dX12_pricing_60 : decode cX12_pricing 60 = .ok (.if_icmp .eq 10, 3) := by decide +kernel
theorem dX12_pricing_63 : decode cX12_pricing 63 = .ok (.aload_n 0, 1) := by decide +kernel
theorem dX12_pricing_64 : decode cX12_pricing 64 = .ok (.iload_n 1, 1) := by decide +kernel
theorem dX12_pricing_65 : decode cX12_pricing 65 = .ok (.iload 6, 2) := by decide +kernel
theorem dX12_pricing_67 : decode cX12_pricing 67 = .ok (.invokevirtual 381, 3) := by decide +kernel
theorem dX12_pricing_70 : decode cX12_pricing 70 = .ok (.aload_n 0, 1) := by decide +kernel
theorem dX12_pricing_71 : decode cX12_pricing 71 = .ok (.iload_n 2, 1) := by decide +kernel
theorem dX12_pricing_72 : decode cX12_pricing 72 = .ok (.invokevirtual 401, 3) := by decide +kernel
theorem dX12_pricing_75 : decode cX12_pricing 75 = .ok (.istore 7, 2) := by decide +kernel
theorem dX12_pricing_77 : decode cX12_pricing 77 = .ok (.iload 7, 2) := by decide +kernel
theorem dX12_pricing_79 : decode cX12_pricing 79 = .ok (.iload 5, 2) := by decide +kernel
theorem dX12_pricing_81 : decode cX12_pricing 81 = .ok (.if_icmp .gt 6, 3) := by decide +kernel
theorem dX12_pricing_84 : decode cX12_pricing 84 = .ok (.goto 11, 3) := by decide +kernel
theorem dX12_pricing_87 : decode cX12_pricing 87 = .ok (.iload 6, 2) := by decide +kernel
theorem dX12_pricing_89 : decode cX12_pricing 89 = .ok (.istore 4, 2) := by decide +kernel
theorem dX12_pricing_91 : decode cX12_pricing 91 = .ok (.iload 7, 2) := by decide +kernel
theorem dX12_pricing_93 : decode cX12_pricing 93 = .ok (.istore 5, 2) := by decide +kernel
theorem dX12_pricing_95 : decode cX12_pricing 95 = .ok (.iinc 6 1, 3) := by decide +kernel
theorem dX12_pricing_98 : decode cX12_pricing 98 = .ok (.goto (-53), 3) := by decide +kernel
theorem dX12_pricing_101 : decode cX12_pricing 101 = .ok (.iload_n 3, 1) := by decide +kernel
theorem dX12_pricing_102 : decode cX12_pricing 102 = .ok (.ifCond .ne 8, 3) := by decide +kernel
theorem dX12_pricing_105 : decode cX12_pricing 105 = .ok (.iload 5, 2) := by decide +kernel
theorem dX12_pricing_107 : decode cX12_pricing 107 = .ok (.goto 5, 3) := by decide +kernel
theorem dX12_pricing_110 : decode cX12_pricing 110 = .ok (.iload 4, 2) := by decide +kernel
theorem dX12_pricing_112 : decode cX12_pricing 112 = .ok (.ireturn, 1) := by decide +kernel
theorem dX12_priceBy_0 : decode cX12_priceBy 0 = .ok (.aload_n 0, 1) := by decide +kernel
theorem dX12_priceBy_1 : decode cX12_priceBy 1 = .ok (.iload_n 1, 1) := by decide +kernel
theorem dX12_priceBy_2 : decode cX12_priceBy 2 = .ok (.iconst 1, 1) := by decide +kernel
theorem dX12_priceBy_3 : decode cX12_priceBy 3 = .ok (.invokevirtual 308, 3) := by decide +kernel
theorem dX12_priceBy_6 : decode cX12_priceBy 6 = .ok (.iload_n 2, 1) := by decide +kernel
theorem dX12_priceBy_7 : decode cX12_priceBy 7 = .ok (.imul, 1) := by decide +kernel
theorem dX12_priceBy_8 : decode cX12_priceBy 8 = .ok (.bipush 10, 2) := by decide +kernel
theorem dX12_priceBy_10 : decode cX12_priceBy 10 = .ok (.idiv, 1) := by decide +kernel
theorem dX12_priceBy_11 : decode cX12_priceBy 11 = .ok (.istore_n 3, 1) := by decide +kernel
theorem dX12_priceBy_12 : decode cX12_priceBy 12 = .ok (.iload_n 3, 1) := by decide +kernel
theorem dX12_priceBy_13 : decode cX12_priceBy 13 = .ok (.iconst 1, 1) := by decide +kernel
theorem dX12_priceBy_14 : decode cX12_priceBy 14 = .ok (.if_icmp .ge 7, 3) := by decide +kernel
theorem dX12_priceBy_17 : decode cX12_priceBy 17 = .ok (.iconst 1, 1) := by decide +kernel
theorem dX12_priceBy_18 : decode cX12_priceBy 18 = .ok (.goto 4, 3) := by decide +kernel
theorem dX12_priceBy_21 : decode cX12_priceBy 21 = .ok (.iload_n 3, 1) := by decide +kernel
theorem dX12_priceBy_22 : decode cX12_priceBy 22 = .ok (.ireturn, 1) := by decide +kernel
theorem dX12_earns_0 : decode cX12_earns 0 = .ok (.aload_n 0, 1) := by decide +kernel
theorem dX12_earns_1 : decode cX12_earns 1 = .ok (.iload_n 1, 1) := by decide +kernel
theorem dX12_earns_2 : decode cX12_earns 2 = .ok (.iload_n 2, 1) := by decide +kernel
theorem dX12_earns_3 : decode cX12_earns 3 = .ok (.invokevirtual 410, 3) := by decide +kernel
theorem dX12_earns_6 : decode cX12_earns 6 = .ok (.istore 4, 2) := by decide +kernel
theorem dX12_earns_8 : decode cX12_earns 8 = .ok (.aload_n 0, 1) := by decide +kernel
theorem dX12_earns_9 : decode cX12_earns 9 = .ok (.iload_n 1, 1) := by decide +kernel
theorem dX12_earns_10 : decode cX12_earns 10 = .ok (.iload_n 3, 1) := by decide +kernel
theorem dX12_earns_11 : decode cX12_earns 11 = .ok (.invokevirtual 410, 3) := by decide +kernel
theorem dX12_earns_14 : decode cX12_earns 14 = .ok (.istore 5, 2) := by decide +kernel
theorem dX12_earns_16 : decode cX12_earns 16 = .ok (.aload_n 0, 1) := by decide +kernel
theorem dX12_earns_17 : decode cX12_earns 17 = .ok (.iload_n 1, 1) := by decide +kernel
theorem dX12_earns_18 : decode cX12_earns 18 = .ok (.iconst 0, 1) := by decide +kernel
theorem dX12_earns_19 : decode cX12_earns 19 = .ok (.invokevirtual 308, 3) := by decide +kernel
theorem dX12_earns_22 : decode cX12_earns 22 = .ok (.istore 6, 2) := by decide +kernel
theorem dX12_earns_24 : decode cX12_earns 24 = .ok (.iload 4, 2) := by decide +kernel
theorem dX12_earns_26 : decode cX12_earns 26 = .ok (.iload 5, 2) := by decide +kernel
theorem dX12_earns_28 : decode cX12_earns 28 = .ok (.if_icmp .ge 11, 3) := by decide +kernel
theorem dX12_earns_31 : decode cX12_earns 31 = .ok (.iload 6, 2) := by decide +kernel
theorem dX12_earns_33 : decode cX12_earns 33 = .ok (.iload 4, 2) := by decide +kernel
theorem dX12_earns_35 : decode cX12_earns 35 = .ok (.imul, 1) := by decide +kernel
theorem dX12_earns_36 : decode cX12_earns 36 = .ok (.goto 21, 3) := by decide +kernel
theorem dX12_earns_39 : decode cX12_earns 39 = .ok (.iload 4, 2) := by decide +kernel
theorem dX12_earns_41 : decode cX12_earns 41 = .ok (.iload 5, 2) := by decide +kernel
theorem dX12_earns_43 : decode cX12_earns 43 = .ok (.if_icmp .ne 13, 3) := by decide +kernel
theorem dX12_earns_46 : decode cX12_earns 46 = .ok (.iload 6, 2) := by decide +kernel
theorem dX12_earns_48 : decode cX12_earns 48 = .ok (.iconst 2, 1) := by decide +kernel
theorem dX12_earns_49 : decode cX12_earns 49 = .ok (.idiv, 1) := by decide +kernel
theorem dX12_earns_50 : decode cX12_earns 50 = .ok (.iload 4, 2) := by decide +kernel
theorem dX12_earns_52 : decode cX12_earns 52 = .ok (.imul, 1) := by decide +kernel
theorem dX12_earns_53 : decode cX12_earns 53 = .ok (.goto 4, 3) := by decide +kernel
theorem dX12_earns_56 : decode cX12_earns 56 = .ok (.iconst 0, 1) := by decide +kernel
theorem dX12_earns_57 : decode cX12_earns 57 = .ok (.ireturn, 1) := by decide +kernel
theorem dX12_isRest_0 : decode cX12_isRest 0 = .ok (.iconst 1, 1) := by decide +kernel
theorem dX12_isRest_1 : decode cX12_isRest 1 = .ok (.istore 4, 2) := by decide +kernel
theorem dX12_isRest_3 : decode cX12_isRest 3 = .ok (.iload 4, 2) := by decide +kernel
theorem dX12_isRest_5 : decode cX12_isRest 5 = .ok (.bipush 10, 2) := by decide +kernel
theorem dX12_isRest_7 : decode cX12_isRest 7 = .ok (.if_icmp .gt 47, 3) := by decide +kernel
theorem dX12_isRest_10 : decode cX12_isRest 10 = .ok (.aload_n 0, 1) := by decide +kernel
theorem dX12_isRest_11 : decode cX12_isRest 11 = .ok (.iload_n 1, 1) := by decide +kernel
theorem dX12_isRest_12 : decode cX12_isRest 12 = .ok (.iload 4, 2) := by decide +kernel
theorem dX12_isRest_14 : decode cX12_isRest 14 = .ok (.iload_n 3, 1) := by decide +kernel
theorem dX12_isRest_15 : decode cX12_isRest 15 = .ok (.invokevirtual 413, 3) := by decide +kernel
theorem dX12_isRest_18 : decode cX12_isRest 18 = .ok (.aload_n 0, 1) := by decide +kernel
theorem dX12_isRest_19 : decode cX12_isRest 19 = .ok (.iload_n 1, 1) := by decide +kernel
theorem dX12_isRest_20 : decode cX12_isRest 20 = .ok (.iload_n 2, 1) := by decide +kernel
theorem dX12_isRest_21 : decode cX12_isRest 21 = .ok (.iload_n 3, 1) := by decide +kernel
theorem dX12_isRest_22 : decode cX12_isRest 22 = .ok (.invokevirtual 413, 3) := by decide +kernel
theorem dX12_isRest_25 : decode cX12_isRest 25 = .ok (.if_icmp .gt 21, 3) := by decide +kernel
theorem dX12_isRest_28 : decode cX12_isRest 28 = .ok (.aload_n 0, 1) := by decide +kernel
theorem dX12_isRest_29 : decode cX12_isRest 29 = .ok (.iload_n 1, 1) := by decide +kernel
theorem dX12_isRest_30 : decode cX12_isRest 30 = .ok (.iload 4, 2) := by decide +kernel
theorem dX12_isRest_32 : decode cX12_isRest 32 = .ok (.iload_n 2, 1) := by decide +kernel
theorem dX12_isRest_33 : decode cX12_isRest 33 = .ok (.invokevirtual 413, 3) := by decide +kernel
theorem dX12_isRest_36 : decode cX12_isRest 36 = .ok (.aload_n 0, 1) := by decide +kernel
theorem dX12_isRest_37 : decode cX12_isRest 37 = .ok (.iload_n 1, 1) := by decide +kernel
theorem dX12_isRest_38 : decode cX12_isRest 38 = .ok (.iload_n 3, 1) := by decide +kernel
theorem dX12_isRest_39 : decode cX12_isRest 39 = .ok (.iload_n 2, 1) := by decide +kernel
theorem dX12_isRest_40 : decode cX12_isRest 40 = .ok (.invokevirtual 413, 3) := by decide +kernel
theorem dX12_isRest_43 : decode cX12_isRest 43 = .ok (.if_icmp .le 5, 3) := by decide +kernel
theorem dX12_isRest_46 : decode cX12_isRest 46 = .ok (.iconst 0, 1) := by decide +kernel
theorem dX12_isRest_47 : decode cX12_isRest 47 = .ok (.ireturn, 1) := by decide +kernel
theorem dX12_isRest_48 : decode cX12_isRest 48 = .ok (.iinc 4 1, 3) := by decide +kernel
theorem dX12_isRest_51 : decode cX12_isRest 51 = .ok (.goto (-48), 3) := by decide +kernel
theorem dX12_isRest_54 : decode cX12_isRest 54 = .ok (.iconst 1, 1) := by decide +kernel
theorem dX12_isRest_55 : decode cX12_isRest 55 = .ok (.ireturn, 1) := by decide +kernel
theorem dX12_war_0 : decode cX12_war 0 = .ok (.aload_n 0, 1) := by decide +kernel
theorem dX12_war_1 : decode cX12_war 1 = .ok (.iload_n 1, 1) := by decide +kernel
theorem dX12_war_2 : decode cX12_war 2 = .ok (.invokevirtual 299, 3) := by decide +kernel
theorem dX12_war_5 : decode cX12_war 5 = .ok (.ifCond .eq 15, 3) := by decide +kernel
theorem dX12_war_8 : decode cX12_war 8 = .ok (.iload_n 2, 1) := by decide +kernel
theorem dX12_war_9 : decode cX12_war 9 = .ok (.i2l, 1) := by decide +kernel
theorem dX12_war_10 : decode cX12_war 10 = .ok (.lconst 0, 1) := by decide +kernel
theorem dX12_war_11 : decode cX12_war 11 = .ok (.ldc2_w 417, 3) := by decide +kernel
theorem dX12_war_14 : decode cX12_war 14 = .ok (.invokestatic 112, 3) := by decide +kernel
theorem dX12_war_17 : decode cX12_war 17 = .ok (.ifCond .ne 5, 3) := by decide +kernel
theorem dX12_war_20 : decode cX12_war 20 = .ok (.iconst (-1), 1) := by decide +kernel
theorem dX12_war_21 : decode cX12_war 21 = .ok (.ireturn, 1) := by decide +kernel
theorem dX12_war_22 : decode cX12_war 22 = .ok (.iconst 0, 1) := by decide +kernel
theorem dX12_war_23 : decode cX12_war 23 = .ok (.istore_n 3, 1) := by decide +kernel
theorem dX12_war_24 : decode cX12_war 24 = .ok (.iconst (-1), 1) := by decide +kernel
theorem dX12_war_25 : decode cX12_war 25 = .ok (.istore 4, 2) := by decide +kernel
theorem dX12_war_27 : decode cX12_war 27 = .ok (.iconst 0, 1) := by decide +kernel
theorem dX12_war_28 : decode cX12_war 28 = .ok (.istore 5, 2) := by decide +kernel
theorem dX12_war_30 : decode cX12_war 30 = .ok (.iload 5, 2) := by decide +kernel
theorem dX12_war_32 : decode cX12_war 32 = .ok (.bipush 100, 2) := by decide +kernel
theorem dX12_war_34 : decode cX12_war 34 = .ok (.if_icmp .ge 45, 3) := by decide +kernel
theorem dX12_war_37 : decode cX12_war 37 = .ok (.aload_n 0, 1) := by decide +kernel
theorem dX12_war_38 : decode cX12_war 38 = .ok (.iload_n 1, 1) := by decide +kernel
theorem dX12_war_39 : decode cX12_war 39 = .ok (.iload 5, 2) := by decide +kernel
theorem dX12_war_41 : decode cX12_war 41 = .ok (.bipush 10, 2) := by decide +kernel
theorem dX12_war_43 : decode cX12_war 43 = .ok (.idiv, 1) := by decide +kernel
theorem dX12_war_44 : decode cX12_war 44 = .ok (.iconst 1, 1) := by decide +kernel
theorem dX12_war_45 : decode cX12_war 45 = .ok (.iadd, 1) := by decide +kernel
theorem dX12_war_46 : decode cX12_war 46 = .ok (.iload 5, 2) := by decide +kernel
theorem dX12_war_48 : decode cX12_war 48 = .ok (.bipush 10, 2) := by decide +kernel
theorem dX12_war_50 : decode cX12_war 50 = .ok (.irem, 1) := by decide +kernel
theorem dX12_war_51 : decode cX12_war 51 = .ok (.iconst 1, 1) := by decide +kernel
theorem dX12_war_52 : decode cX12_war 52 = .ok (.iadd, 1) := by decide +kernel
theorem dX12_war_53 : decode cX12_war 53 = .ok (.invokevirtual 419, 3) := by decide +kernel
theorem dX12_war_56 : decode cX12_war 56 = .ok (.ifCond .ne 6, 3) := by decide +kernel
theorem dX12_war_59 : decode cX12_war 59 = .ok (.goto 14, 3) := by decide +kernel
theorem dX12_war_62 : decode cX12_war 62 = .ok (.iload_n 3, 1) := by decide +kernel
theorem dX12_war_63 : decode cX12_war 63 = .ok (.ifCond .ne 7, 3) := by decide +kernel
theorem dX12_war_66 : decode cX12_war 66 = .ok (.iload 5, 2) := by decide +kernel
theorem dX12_war_68 : decode cX12_war 68 = .ok (.istore 4, 2) := by decide +kernel
theorem dX12_war_70 : decode cX12_war 70 = .ok (.iinc 3 1, 3) := by decide +kernel
theorem dX12_war_73 : decode cX12_war 73 = .ok (.iinc 5 1, 3) := by decide +kernel
theorem dX12_war_76 : decode cX12_war 76 = .ok (.goto (-46), 3) := by decide +kernel
theorem dX12_war_79 : decode cX12_war 79 = .ok (.iload_n 2, 1) := by decide +kernel
theorem dX12_war_80 : decode cX12_war 80 = .ok (.ifCond .ne 5, 3) := by decide +kernel
theorem dX12_war_83 : decode cX12_war 83 = .ok (.iload_n 3, 1) := by decide +kernel
theorem dX12_war_84 : decode cX12_war 84 = .ok (.ireturn, 1) := by decide +kernel
theorem dX12_war_85 : decode cX12_war 85 = .ok (.iload 4, 2) := by decide +kernel
theorem dX12_war_87 : decode cX12_war 87 = .ok (.ifCond .ge 8, 3) := by decide +kernel
theorem dX12_war_90 : decode cX12_war 90 = .ok (.bipush (-2), 2) := by decide +kernel
theorem dX12_war_92 : decode cX12_war 92 = .ok (.goto 25, 3) := by decide +kernel
theorem dX12_war_95 : decode cX12_war 95 = .ok (.iload_n 2, 1) := by decide +kernel
theorem dX12_war_96 : decode cX12_war 96 = .ok (.iconst 1, 1) := by decide +kernel
theorem dX12_war_97 : decode cX12_war 97 = .ok (.if_icmp .ne 13, 3) := by decide +kernel
theorem dX12_war_100 : decode cX12_war 100 = .ok (.iload 4, 2) := by decide +kernel
theorem dX12_war_102 : decode cX12_war 102 = .ok (.bipush 10, 2) := by decide +kernel
theorem dX12_war_104 : decode cX12_war 104 = .ok (.idiv, 1) := by decide +kernel
theorem dX12_war_105 : decode cX12_war 105 = .ok (.iconst 1, 1) := by decide +kernel
theorem dX12_war_106 : decode cX12_war 106 = .ok (.iadd, 1) := by decide +kernel
theorem dX12_war_107 : decode cX12_war 107 = .ok (.goto 10, 3) := by decide +kernel
theorem dX12_war_110 : decode cX12_war 110 = .ok (.iload 4, 2) := by decide +kernel
theorem dX12_war_112 : decode cX12_war 112 = .ok (.bipush 10, 2) := by decide +kernel
theorem dX12_war_114 : decode cX12_war 114 = .ok (.irem, 1) := by decide +kernel
theorem dX12_war_115 : decode cX12_war 115 = .ok (.iconst 1, 1) := by decide +kernel
theorem dX12_war_116 : decode cX12_war 116 = .ok (.iadd, 1) := by decide +kernel
theorem dX12_war_117 : decode cX12_war 117 = .ok (.ireturn, 1) := by decide +kernel
theorem dX12_blocksAtSea_0 : decode cX12_blocksAtSea 0 = .ok (.iconst 0, 1) := by decide +kernel
theorem dX12_blocksAtSea_1 : decode cX12_blocksAtSea 1 = .ok (.istore_n 1, 1) := by decide +kernel
theorem dX12_blocksAtSea_2 : decode cX12_blocksAtSea 2 = .ok (.iconst 0, 1) := by decide +kernel
theorem dX12_blocksAtSea_3 : decode cX12_blocksAtSea 3 = .ok (.istore_n 2, 1) := by decide +kernel
theorem dX12_blocksAtSea_4 : decode cX12_blocksAtSea 4 = .ok (.iload_n 2, 1) := by decide +kernel
theorem dX12_blocksAtSea_5 : decode cX12_blocksAtSea 5 = .ok (.aload_n 0, 1) := by decide +kernel
theorem dX12_blocksAtSea_6 : decode cX12_blocksAtSea 6 = .ok (.getfield 39, 3) := by decide +kernel
theorem dX12_blocksAtSea_9 : decode cX12_blocksAtSea 9 = .ok (.iconst 3, 1) := by decide +kernel
theorem dX12_blocksAtSea_10 : decode cX12_blocksAtSea 10 = .ok (.iaload, 1) := by decide +kernel
theorem dX12_blocksAtSea_11 : decode cX12_blocksAtSea 11 = .ok (.if_icmp .ge 17, 3) := by decide +kernel
theorem dX12_blocksAtSea_14 : decode cX12_blocksAtSea 14 = .ok (.iload_n 1, 1) := by decide +kernel
theorem dX12_blocksAtSea_15 : decode cX12_blocksAtSea 15 = .ok (.aload_n 0, 1) := by decide +kernel
theorem dX12_blocksAtSea_16 : decode cX12_blocksAtSea 16 = .ok (.iload_n 2, 1) := by decide +kernel
theorem dX12_blocksAtSea_17 : decode cX12_blocksAtSea 17 = .ok (.invokevirtual 311, 3) := by decide +kernel
theorem dX12_blocksAtSea_20 : decode cX12_blocksAtSea 20 = .ok (.iadd, 1) := by decide +kernel
theorem dX12_blocksAtSea_21 : decode cX12_blocksAtSea 21 = .ok (.istore_n 1, 1) := by decide +kernel
theorem dX12_blocksAtSea_22 : decode cX12_blocksAtSea 22 = .ok (.iinc 2 1, 3) := by decide +kernel
theorem dX12_blocksAtSea_25 : decode cX12_blocksAtSea 25 = .ok (.goto (-21), 3) := by decide +kernel
theorem dX12_blocksAtSea_28 : decode cX12_blocksAtSea 28 = .ok (.iload_n 1, 1) := by decide +kernel
theorem dX12_blocksAtSea_29 : decode cX12_blocksAtSea 29 = .ok (.ireturn, 1) := by decide +kernel
theorem dX12_isOut_0 : decode cX12_isOut 0 = .ok (.aload_n 0, 1) := by decide +kernel
theorem dX12_isOut_1 : decode cX12_isOut 1 = .ok (.invokevirtual 422, 3) := by decide +kernel
theorem dX12_isOut_4 : decode cX12_isOut 4 = .ok (.ifCond .le 5, 3) := by decide +kernel
theorem dX12_isOut_7 : decode cX12_isOut 7 = .ok (.iconst 0, 1) := by decide +kernel
theorem dX12_isOut_8 : decode cX12_isOut 8 = .ok (.ireturn, 1) := by decide +kernel
theorem dX12_isOut_9 : decode cX12_isOut 9 = .ok (.iconst 0, 1) := by decide +kernel
theorem dX12_isOut_10 : decode cX12_isOut 10 = .ok (.istore_n 1, 1) := by decide +kernel
theorem dX12_isOut_11 : decode cX12_isOut 11 = .ok (.iload_n 1, 1) := by decide +kernel
theorem dX12_isOut_12 : decode cX12_isOut 12 = .ok (.aload_n 0, 1) := by decide +kernel
theorem dX12_isOut_13 : decode cX12_isOut 13 = .ok (.getfield 39, 3) := by decide +kernel
theorem dX12_isOut_16 : decode cX12_isOut 16 = .ok (.iconst 3, 1) := by decide +kernel
theorem dX12_isOut_17 : decode cX12_isOut 17 = .ok (.iaload, 1) := by decide +kernel
theorem dX12_isOut_18 : decode cX12_isOut 18 = .ok (.if_icmp .ge 20, 3) := by decide +kernel
theorem dX12_isOut_21 : decode cX12_isOut 21 = .ok (.aload_n 0, 1) := by decide +kernel
theorem dX12_isOut_22 : decode cX12_isOut 22 = .ok (.iload_n 1, 1) := by decide +kernel
theorem dX12_isOut_23 : decode cX12_isOut 23 = .ok (.iconst 2, 1) := by decide +kernel
theorem dX12_isOut_24 : decode cX12_isOut 24 = .ok (.invokevirtual 308, 3) := by decide +kernel
theorem dX12_isOut_27 : decode cX12_isOut 27 = .ok (.ifCond .le 5, 3) := by decide +kernel
theorem dX12_isOut_30 : decode cX12_isOut 30 = .ok (.iconst 0, 1) := by decide +kernel
theorem dX12_isOut_31 : decode cX12_isOut 31 = .ok (.ireturn, 1) := by decide +kernel
theorem dX12_isOut_32 : decode cX12_isOut 32 = .ok (.iinc 1 1, 3) := by decide +kernel
theorem dX12_isOut_35 : decode cX12_isOut 35 = .ok (.goto (-24), 3) := by decide +kernel
theorem dX12_isOut_38 : decode cX12_isOut 38 = .ok (.iconst 0, 1) := by decide +kernel
theorem dX12_isOut_39 : decode cX12_isOut 39 = .ok (.istore_n 1, 1) := by decide +kernel
theorem dX12_isOut_40 : decode cX12_isOut 40 = .ok (.iload_n 1, 1) := by decide +kernel
theorem dX12_isOut_41 : decode cX12_isOut 41 = .ok (.aload_n 0, 1) := by decide +kernel
theorem dX12_isOut_42 : decode cX12_isOut 42 = .ok (.getfield 39, 3) := by decide +kernel
theorem dX12_isOut_45 : decode cX12_isOut 45 = .ok (.iconst 2, 1) := by decide +kernel
theorem dX12_isOut_46 : decode cX12_isOut 46 = .ok (.iaload, 1) := by decide +kernel
theorem dX12_isOut_47 : decode cX12_isOut 47 = .ok (.if_icmp .ge 30, 3) := by decide +kernel
theorem dX12_isOut_50 : decode cX12_isOut 50 = .ok (.aload_n 0, 1) := by decide +kernel
theorem dX12_isOut_51 : decode cX12_isOut 51 = .ok (.getfield 39, 3) := by decide +kernel
theorem dX12_isOut_54 : decode cX12_isOut 54 = .ok (.iconst 3, 1) := by decide +kernel
theorem dX12_isOut_55 : decode cX12_isOut 55 = .ok (.iaload, 1) := by decide +kernel
theorem dX12_isOut_56 : decode cX12_isOut 56 = .ok (.ifCond .le 15, 3) := by decide +kernel
theorem dX12_isOut_59 : decode cX12_isOut 59 = .ok (.aload_n 0, 1) := by decide +kernel
theorem dX12_isOut_60 : decode cX12_isOut 60 = .ok (.iload_n 1, 1) := by decide +kernel
theorem dX12_isOut_61 : decode cX12_isOut 61 = .ok (.iconst 1, 1) := by decide +kernel
theorem dX12_isOut_62 : decode cX12_isOut 62 = .ok (.iconst 0, 1) := by decide +kernel
theorem dX12_isOut_63 : decode cX12_isOut 63 = .ok (.invokevirtual 368, 3) := by decide +kernel
theorem dX12_isOut_66 : decode cX12_isOut 66 = .ok (.ifCond .eq 5, 3) := by decide +kernel
theorem dX12_isOut_69 : decode cX12_isOut 69 = .ok (.iconst 0, 1) := by decide +kernel
theorem dX12_isOut_70 : decode cX12_isOut 70 = .ok (.ireturn, 1) := by decide +kernel
theorem dX12_isOut_71 : decode cX12_isOut 71 = .ok (.iinc 1 1, 3) := by decide +kernel
theorem dX12_isOut_74 : decode cX12_isOut 74 = .ok (.goto (-34), 3) := by decide +kernel
theorem dX12_isOut_77 : decode cX12_isOut 77 = .ok (.iconst 1, 1) := by decide +kernel
theorem dX12_isOut_78 : decode cX12_isOut 78 = .ok (.ireturn, 1) := by decide +kernel
theorem dX12_out_0 : decode cX12_out 0 = .ok (.aload_n 0, 1) := by decide +kernel
theorem dX12_out_1 : decode cX12_out 1 = .ok (.invokevirtual 357, 3) := by decide +kernel
theorem dX12_out_4 : decode cX12_out 4 = .ok (.ifCond .ne 5, 3) := by decide +kernel
theorem dX12_out_7 : decode cX12_out 7 = .ok (.iconst (-1), 1) := by decide +kernel
theorem dX12_out_8 : decode cX12_out 8 = .ok (.ireturn, 1) := by decide +kernel
theorem dX12_out_9 : decode cX12_out 9 = .ok (.bipush (-2), 2) := by decide +kernel
theorem dX12_out_11 : decode cX12_out 11 = .ok (.istore_n 1, 1) := by decide +kernel
theorem dX12_out_12 : decode cX12_out 12 = .ok (.aload_n 0, 1) := by decide +kernel
theorem dX12_out_13 : decode cX12_out 13 = .ok (.invokevirtual 388, 3) := by decide +kernel
theorem dX12_out_16 : decode cX12_out 16 = .ok (.iconst 0, 1) := by decide +kernel
theorem dX12_out_17 : decode cX12_out 17 = .ok (.istore_n 2, 1) := by decide +kernel
theorem dX12_out_18 : decode cX12_out 18 = .ok (.iload_n 2, 1) := by decide +kernel
theorem dX12_out_19 : decode cX12_out 19 = .ok (.bipush 60, 2) := by decide +kernel
theorem dX12_out_21 : decode cX12_out 21 = .ok (.if_icmp .ge 33, 3) := by decide +kernel
theorem dX12_out_24 : decode cX12_out 24 = .ok (.iload_n 1, 1) := by decide +kernel
theorem dX12_out_25 : decode cX12_out 25 = .ok (.ifCond .ge 29, 3) := by decide +kernel
theorem dX12_out_28 : decode cX12_out 28 = .ok (.aload_n 0, 1) := by decide +kernel
theorem dX12_out_29 : decode cX12_out 29 = .ok (.invokevirtual 425, 3) := by decide +kernel
theorem dX12_out_32 : decode cX12_out 32 = .ok (.ifCond .eq 11, 3) := by decide +kernel
theorem dX12_out_35 : decode cX12_out 35 = .ok (.aload_n 0, 1) := by decide +kernel
theorem dX12_out_36 : decode cX12_out 36 = .ok (.getfield 39, 3) := by decide +kernel
theorem dX12_out_39 : decode cX12_out 39 = .ok (.bipush 12, 2) := by decide +kernel
theorem dX12_out_41 : decode cX12_out 41 = .ok (.iaload, 1) := by decide +kernel
theorem dX12_out_42 : decode cX12_out 42 = .ok (.istore_n 1, 1) := by decide +kernel
theorem dX12_out_43 : decode cX12_out 43 = .ok (.aload_n 0, 1) := by decide +kernel
theorem dX12_out_44 : decode cX12_out 44 = .ok (.invokevirtual 363, 3) := by decide +kernel
theorem dX12_out_47 : decode cX12_out 47 = .ok (.pop, 1) := by decide +kernel
theorem dX12_out_48 : decode cX12_out 48 = .ok (.iinc 2 1, 3) := by decide +kernel
theorem dX12_out_51 : decode cX12_out 51 = .ok (.goto (-33), 3) := by decide +kernel
theorem dX12_out_54 : decode cX12_out 54 = .ok (.aload_n 0, 1) := by decide +kernel
theorem dX12_out_55 : decode cX12_out 55 = .ok (.invokevirtual 391, 3) := by decide +kernel
theorem dX12_out_58 : decode cX12_out 58 = .ok (.iload_n 1, 1) := by decide +kernel
theorem dX12_out_59 : decode cX12_out 59 = .ok (.ireturn, 1) := by decide +kernel
theorem dX12_hatch_0 : decode cX12_hatch 0 = .ok (.aload_n 0, 1) := by decide +kernel
theorem dX12_hatch_1 : decode cX12_hatch 1 = .ok (.iload_n 1, 1) := by decide +kernel
theorem dX12_hatch_2 : decode cX12_hatch 2 = .ok (.invokevirtual 299, 3) := by decide +kernel
theorem dX12_hatch_5 : decode cX12_hatch 5 = .ok (.ifCond .eq 28, 3) := by decide +kernel
theorem dX12_hatch_8 : decode cX12_hatch 8 = .ok (.iload_n 2, 1) := by decide +kernel
theorem dX12_hatch_9 : decode cX12_hatch 9 = .ok (.i2l, 1) := by decide +kernel
theorem dX12_hatch_10 : decode cX12_hatch 10 = .ok (.lconst 0, 1) := by decide +kernel
theorem dX12_hatch_11 : decode cX12_hatch 11 = .ok (.ldc2_w 366, 3) := by decide +kernel
theorem dX12_hatch_14 : decode cX12_hatch 14 = .ok (.invokestatic 112, 3) := by decide +kernel
theorem dX12_hatch_17 : decode cX12_hatch 17 = .ok (.ifCond .eq 16, 3) := by decide +kernel
theorem dX12_hatch_20 : decode cX12_hatch 20 = .ok (.iload 4, 2) := by decide +kernel
theorem dX12_hatch_22 : decode cX12_hatch 22 = .ok (.i2l, 1) := by decide +kernel
theorem dX12_hatch_23 : decode cX12_hatch 23 = .ok (.lconst 0, 1) := by decide +kernel
theorem dX12_hatch_24 : decode cX12_hatch 24 = .ok (.ldc2_w 417, 3) := by decide +kernel
theorem dX12_hatch_27 : decode cX12_hatch 27 = .ok (.invokestatic 112, 3) := by decide +kernel
theorem dX12_hatch_30 : decode cX12_hatch 30 = .ok (.ifCond .ne 5, 3) := by decide +kernel
theorem dX12_hatch_33 : decode cX12_hatch 33 = .ok (.iconst (-1), 1) := by decide +kernel
theorem dX12_hatch_34 : decode cX12_hatch 34 = .ok (.ireturn, 1) := by decide +kernel
theorem dX12_hatch_35 : decode cX12_hatch 35 = .ok (.iconst 0, 1) := by decide +kernel
theorem dX12_hatch_36 : decode cX12_hatch 36 = .ok (.istore 5, 2) := by decide +kernel
theorem dX12_hatch_38 : decode cX12_hatch 38 = .ok (.bipush (-2), 2) := by decide +kernel
theorem dX12_hatch_40 : decode cX12_hatch 40 = .ok (.istore 6, 2) := by decide +kernel
theorem dX12_hatch_42 : decode cX12_hatch 42 = .ok (.bipush (-2), 2) := by decide +kernel
theorem dX12_hatch_44 : decode cX12_hatch 44 = .ok (.istore 7, 2) := by decide +kernel
theorem dX12_hatch_46 : decode cX12_hatch 46 = .ok (.iconst 0, 1) := by decide +kernel
theorem dX12_hatch_47 : decode cX12_hatch 47 = .ok (.istore 8, 2) := by decide +kernel
theorem dX12_hatch_49 : decode cX12_hatch 49 = .ok (.iload 8, 2) := by decide +kernel
theorem dX12_hatch_51 : decode cX12_hatch 51 = .ok (.sipush 999, 3) := by decide +kernel
theorem dX12_hatch_54 : decode cX12_hatch 54 = .ok (.if_icmp .gt 40, 3) := by decide +kernel
theorem dX12_hatch_57 : decode cX12_hatch 57 = .ok (.aload_n 0, 1) := by decide +kernel
theorem dX12_hatch_58 : decode cX12_hatch 58 = .ok (.iload_n 1, 1) := by decide +kernel
theorem dX12_hatch_59 : decode cX12_hatch 59 = .ok (.iload 8, 2) := by decide +kernel
theorem dX12_hatch_61 : decode cX12_hatch 61 = .ok (.iload_n 3, 1) := by decide +kernel
theorem dX12_hatch_62 : decode cX12_hatch 62 = .ok (.invokevirtual 396, 3) := by decide +kernel
theorem dX12_hatch_65 : decode cX12_hatch 65 = .ok (.iload_n 2, 1) := by decide +kernel
theorem dX12_hatch_66 : decode cX12_hatch 66 = .ok (.if_icmp .eq 6, 3) := by decide +kernel
theorem dX12_hatch_69 : decode cX12_hatch 69 = .ok (.goto 19, 3) := by decide +kernel
theorem dX12_hatch_72 : decode cX12_hatch 72 = .ok (.iload 5, 2) := by decide +kernel
theorem dX12_hatch_74 : decode cX12_hatch 74 = .ok (.ifCond .ne 7, 3) := by decide +kernel
theorem dX12_hatch_77 : decode cX12_hatch 77 = .ok (.iload 8, 2) := by decide +kernel
theorem dX12_hatch_79 : decode cX12_hatch 79 = .ok (.istore 6, 2) := by decide +kernel
theorem dX12_hatch_81 : decode cX12_hatch 81 = .ok (.iload 8, 2) := by decide +kernel
theorem dX12_hatch_83 : decode cX12_hatch 83 = .ok (.istore 7, 2) := by decide +kernel
theorem dX12_hatch_85 : decode cX12_hatch 85 = .ok (.iinc 5 1, 3) := by decide +kernel
theorem dX12_hatch_88 : decode cX12_hatch 88 = .ok (.iinc 8 1, 3) := by decide +kernel
theorem dX12_hatch_91 : decode cX12_hatch 91 = .ok (.goto (-42), 3) := by decide +kernel
theorem dX12_hatch_94 : decode cX12_hatch 94 = .ok (.iload 4, 2) := by decide +kernel
theorem dX12_hatch_96 : decode cX12_hatch 96 = .ok (.ifCond .ne 8, 3) := by decide +kernel
theorem dX12_hatch_99 : decode cX12_hatch 99 = .ok (.iload 5, 2) := by decide +kernel
theorem dX12_hatch_101 : decode cX12_hatch 101 = .ok (.goto 16, 3) := by decide +kernel
theorem dX12_hatch_104 : decode cX12_hatch 104 = .ok (.iload 4, 2) := by decide +kernel
theorem dX12_hatch_106 : decode cX12_hatch 106 = .ok (.iconst 1, 1) := by decide +kernel
theorem dX12_hatch_107 : decode cX12_hatch 107 = .ok (.if_icmp .ne 8, 3) := by decide +kernel
theorem dX12_hatch_110 : decode cX12_hatch 110 = .ok (.iload 6, 2) := by decide +kernel
theorem dX12_hatch_112 : decode cX12_hatch 112 = .ok (.goto 5, 3) := by decide +kernel
theorem dX12_hatch_115 : decode cX12_hatch 115 = .ok (.iload 7, 2) := by decide +kernel
theorem dX12_hatch_117 : decode cX12_hatch 117 = .ok (.ireturn, 1) := by decide +kernel
theorem dX12_note_0 : decode cX12_note 0 = .ok (.iload_n 1, 1) := by decide +kernel
theorem dX12_note_1 : decode cX12_note 1 = .ok (.iconst (-1), 1) := by decide +kernel
theorem dX12_note_2 : decode cX12_note 2 = .ok (.if_icmp .ne 13, 3) := by decide +kernel
theorem dX12_note_5 : decode cX12_note 5 = .ok (.aload_n 0, 1) := by decide +kernel
theorem dX12_note_6 : decode cX12_note 6 = .ok (.getfield 39, 3) := by decide +kernel
theorem dX12_note_9 : decode cX12_note 9 = .ok (.bipush 105, 2) := by decide +kernel
theorem dX12_note_11 : decode cX12_note 11 = .ok (.iconst 0, 1) := by decide +kernel
theorem dX12_note_12 : decode cX12_note 12 = .ok (.iastore, 1) := by decide +kernel
theorem dX12_note_13 : decode cX12_note 13 = .ok (.iconst 0, 1) := by decide +kernel
theorem dX12_note_14 : decode cX12_note 14 = .ok (.ireturn, 1) := by decide +kernel
theorem dX12_note_15 : decode cX12_note 15 = .ok (.aload_n 0, 1) := by decide +kernel
theorem dX12_note_16 : decode cX12_note 16 = .ok (.invokevirtual 357, 3) := by decide +kernel
theorem dX12_note_19 : decode cX12_note 19 = .ok (.ifCond .eq 39, 3) := by decide +kernel
theorem dX12_note_22 : decode cX12_note 22 = .ok (.iload_n 1, 1) := by decide +kernel
theorem dX12_note_23 : decode cX12_note 23 = .ok (.i2l, 1) := by decide +kernel
theorem dX12_note_24 : decode cX12_note 24 = .ok (.lconst 0, 1) := by decide +kernel
theorem dX12_note_25 : decode cX12_note 25 = .ok (.ldc2_w 384, 3) := by decide +kernel
theorem dX12_note_28 : decode cX12_note 28 = .ok (.invokestatic 112, 3) := by decide +kernel
theorem dX12_note_31 : decode cX12_note 31 = .ok (.ifCond .eq 27, 3) := by decide +kernel
theorem dX12_note_34 : decode cX12_note 34 = .ok (.iload_n 2, 1) := by decide +kernel
theorem dX12_note_35 : decode cX12_note 35 = .ok (.i2l, 1) := by decide +kernel
theorem dX12_note_36 : decode cX12_note 36 = .ok (.lconst 0, 1) := by decide +kernel
theorem dX12_note_37 : decode cX12_note 37 = .ok (.ldc2_w 428, 3) := by decide +kernel
theorem dX12_note_40 : decode cX12_note 40 = .ok (.invokestatic 112, 3) := by decide +kernel
theorem dX12_note_43 : decode cX12_note 43 = .ok (.ifCond .eq 15, 3) := by decide +kernel
theorem dX12_note_46 : decode cX12_note 46 = .ok (.aload_n 0, 1) := by decide +kernel
theorem dX12_note_47 : decode cX12_note 47 = .ok (.getfield 39, 3) := by decide +kernel
theorem dX12_note_50 : decode cX12_note 50 = .ok (.bipush 105, 2) := by decide +kernel
theorem dX12_note_52 : decode cX12_note 52 = .ok (.iaload, 1) := by decide +kernel
theorem dX12_note_53 : decode cX12_note 53 = .ok (.bipush 10, 2) := by decide +kernel
theorem dX12_note_55 : decode cX12_note 55 = .ok (.if_icmp .ne 6, 3) := by decide +kernel
theorem dX12_note_58 : decode cX12_note 58 = .ok (.bipush (-2), 2) := by decide +kernel
theorem dX12_note_60 : decode cX12_note 60 = .ok (.ireturn, 1) := by decide +kernel
theorem dX12_note_61 : decode cX12_note 61 = .ok (.aload_n 0, 1) := by decide +kernel
theorem dX12_note_62 : decode cX12_note 62 = .ok (.getfield 39, 3) := by decide +kernel
theorem dX12_note_65 : decode cX12_note 65 = .ok (.bipush 85, 2) := by decide +kernel
theorem dX12_note_67 : decode cX12_note 67 = .ok (.iconst 2, 1) := by decide +kernel
theorem dX12_note_68 : decode cX12_note 68 = .ok (.aload_n 0, 1) := by decide +kernel
theorem dX12_note_69 : decode cX12_note 69 = .ok (.getfield 39, 3) := by decide +kernel
theorem dX12_note_72 : decode cX12_note 72 = .ok (.bipush 105, 2) := by decide +kernel
theorem dX12_note_74 : decode cX12_note 74 = .ok (.iaload, 1) := by decide +kernel
theorem dX12_note_75 : decode cX12_note 75 = .ok (.imul, 1) := by decide +kernel
theorem dX12_note_76 : decode cX12_note 76 = .ok (.iadd, 1) := by decide +kernel
theorem dX12_note_77 : decode cX12_note 77 = .ok (.iload_n 1, 1) := by decide +kernel
theorem dX12_note_78 : decode cX12_note 78 = .ok (.iastore, 1) := by decide +kernel
theorem dX12_note_79 : decode cX12_note 79 = .ok (.aload_n 0, 1) := by decide +kernel
theorem dX12_note_80 : decode cX12_note 80 = .ok (.getfield 39, 3) := by decide +kernel
theorem dX12_note_83 : decode cX12_note 83 = .ok (.bipush 85, 2) := by decide +kernel
theorem dX12_note_85 : decode cX12_note 85 = .ok (.iconst 2, 1) := by decide +kernel
theorem dX12_note_86 : decode cX12_note 86 = .ok (.aload_n 0, 1) := by decide +kernel
theorem dX12_note_87 : decode cX12_note 87 = .ok (.getfield 39, 3) := by decide +kernel
theorem dX12_note_90 : decode cX12_note 90 = .ok (.bipush 105, 2) := by decide +kernel
theorem dX12_note_92 : decode cX12_note 92 = .ok (.iaload, 1) := by decide +kernel
theorem dX12_note_93 : decode cX12_note 93 = .ok (.imul, 1) := by decide +kernel
theorem dX12_note_94 : decode cX12_note 94 = .ok (.iadd, 1) := by decide +kernel
theorem dX12_note_95 : decode cX12_note 95 = .ok (.iconst 1, 1) := by decide +kernel
theorem dX12_note_96 : decode cX12_note 96 = .ok (.iadd, 1) := by decide +kernel
theorem dX12_note_97 : decode cX12_note 97 = .ok (.iload_n 2, 1) := by decide +kernel
theorem dX12_note_98 : decode cX12_note 98 = .ok (.iastore, 1) := by decide +kernel
theorem dX12_note_99 : decode cX12_note 99 = .ok (.aload_n 0, 1) := by decide +kernel
theorem dX12_note_100 : decode cX12_note 100 = .ok (.getfield 39, 3) := by decide +kernel
theorem dX12_note_103 : decode cX12_note 103 = .ok (.bipush 105, 2) := by decide +kernel
theorem dX12_note_105 : decode cX12_note 105 = .ok (.dup2, 1) := by decide +kernel
theorem dX12_note_106 : decode cX12_note 106 = .ok (.iaload, 1) := by decide +kernel
theorem dX12_note_107 : decode cX12_note 107 = .ok (.iconst 1, 1) := by decide +kernel
theorem dX12_note_108 : decode cX12_note 108 = .ok (.iadd, 1) := by decide +kernel
theorem dX12_note_109 : decode cX12_note 109 = .ok (.iastore, 1) := by decide +kernel
theorem dX12_note_110 : decode cX12_note 110 = .ok (.aload_n 0, 1) := by decide +kernel
theorem dX12_note_111 : decode cX12_note 111 = .ok (.getfield 39, 3) := by decide +kernel
theorem dX12_note_114 : decode cX12_note 114 = .ok (.bipush 105, 2) := by decide +kernel
theorem dX12_note_116 : decode cX12_note 116 = .ok (.iaload, 1) := by decide +kernel
theorem dX12_note_117 : decode cX12_note 117 = .ok (.ireturn, 1) := by decide +kernel
theorem dX12_spot_0 : decode cX12_spot 0 = .ok (.bipush 61, 2) := by decide +kernel
theorem dX12_spot_2 : decode cX12_spot 2 = .ok (.iload_n 0, 1) := by decide +kernel
theorem dX12_spot_3 : decode cX12_spot 3 = .ok (.imul, 1) := by decide +kernel
theorem dX12_spot_4 : decode cX12_spot 4 = .ok (.iload_n 1, 1) := by decide +kernel
theorem dX12_spot_5 : decode cX12_spot 5 = .ok (.iadd, 1) := by decide +kernel
theorem dX12_spot_6 : decode cX12_spot 6 = .ok (.ireturn, 1) := by decide +kernel
theorem dX12_fillsFits_0 : decode cX12_fillsFits 0 = .ok (.aload_n 0, 1) := by decide +kernel
theorem dX12_fillsFits_1 : decode cX12_fillsFits 1 = .ok (.getfield 42, 3) := by decide +kernel
theorem dX12_fillsFits_4 : decode cX12_fillsFits 4 = .ok (.istore_n 1, 1) := by decide +kernel
theorem dX12_fillsFits_5 : decode cX12_fillsFits 5 = .ok (.aload_n 0, 1) := by decide +kernel
theorem dX12_fillsFits_6 : decode cX12_fillsFits 6 = .ok (.invokevirtual 388, 3) := by decide +kernel
theorem dX12_fillsFits_9 : decode cX12_fillsFits 9 = .ok (.iconst (-1), 1) := by decide +kernel
theorem dX12_fillsFits_10 : decode cX12_fillsFits 10 = .ok (.istore_n 2, 1) := by decide +kernel
theorem dX12_fillsFits_11 : decode cX12_fillsFits 11 = .ok (.iload_n 2, 1) := by decide +kernel
theorem dX12_fillsFits_12 : decode cX12_fillsFits 12 = .ok (.aload_n 0, 1) := by decide +kernel
theorem dX12_fillsFits_13 : decode cX12_fillsFits 13 = .ok (.getfield 254, 3) := by decide +kernel
theorem dX12_fillsFits_16 : decode cX12_fillsFits 16 = .ok (.if_icmp .ge 138, 3) := by decide +kernel
theorem dX12_fillsFits_19 : decode cX12_fillsFits 19 = .ok (.aload_n 0, 1) := by decide +kernel
theorem dX12_fillsFits_20 : decode cX12_fillsFits 20 = .ok (.iload_n 2, 1) := by decide +kernel
theorem dX12_fillsFits_21 : decode cX12_fillsFits 21 = .ok (.putfield 42, 3) := by decide +kernel
theorem dX12_fillsFits_24 : decode cX12_fillsFits 24 = .ok (.aload_n 0, 1) := by decide +kernel
theorem dX12_fillsFits_25 : decode cX12_fillsFits 25 = .ok (.invokevirtual 260, 3) := by decide +kernel
theorem dX12_fillsFits_28 : decode cX12_fillsFits 28 = .ok (.iconst 0, 1) := by decide +kernel
theorem dX12_fillsFits_29 : decode cX12_fillsFits 29 = .ok (.istore_n 3, 1) := by decide +kernel
theorem dX12_fillsFits_30 : decode cX12_fillsFits 30 = .ok (.iload_n 3, 1) := by decide +kernel
theorem dX12_fillsFits_31 : decode cX12_fillsFits 31 = .ok (.bipush 60, 2) := by decide +kernel
theorem dX12_fillsFits_33 : decode cX12_fillsFits 33 = .ok (.if_icmp .gt 33, 3) := by decide +kernel
theorem dX12_fillsFits_36 : decode cX12_fillsFits 36 = .ok (.aload_n 0, 1) := by decide +kernel
theorem dX12_fillsFits_37 : decode cX12_fillsFits 37 = .ok (.getfield 59, 3) := by decide +kernel
theorem dX12_fillsFits_40 : decode cX12_fillsFits 40 = .ok (.iload_n 2, 1) := by decide +kernel
theorem dX12_fillsFits_41 : decode cX12_fillsFits 41 = .ok (.iconst 1, 1) := by decide +kernel
theorem dX12_fillsFits_42 : decode cX12_fillsFits 42 = .ok (.iadd, 1) := by decide +kernel
theorem dX12_fillsFits_43 : decode cX12_fillsFits 43 = .ok (.iload_n 3, 1) := by decide +kernel
theorem dX12_fillsFits_44 : decode cX12_fillsFits 44 = .ok (.invokestatic 430, 3) := by decide +kernel
theorem dX12_fillsFits_47 : decode cX12_fillsFits 47 = .ok (.aload_n 0, 1) := by decide +kernel
theorem dX12_fillsFits_48 : decode cX12_fillsFits 48 = .ok (.getfield 39, 3) := by decide +kernel
theorem dX12_fillsFits_51 : decode cX12_fillsFits 51 = .ok (.bipush 10, 2) := by decide +kernel
theorem dX12_fillsFits_53 : decode cX12_fillsFits 53 = .ok (.iaload, 1) := by decide +kernel
theorem dX12_fillsFits_54 : decode cX12_fillsFits 54 = .ok (.iastore, 1) := by decide +kernel
theorem dX12_fillsFits_55 : decode cX12_fillsFits 55 = .ok (.aload_n 0, 1) := by decide +kernel
theorem dX12_fillsFits_56 : decode cX12_fillsFits 56 = .ok (.invokevirtual 363, 3) := by decide +kernel
theorem dX12_fillsFits_59 : decode cX12_fillsFits 59 = .ok (.pop, 1) := by decide +kernel
theorem dX12_fillsFits_60 : decode cX12_fillsFits 60 = .ok (.iinc 3 1, 3) := by decide +kernel
theorem dX12_fillsFits_63 : decode cX12_fillsFits 63 = .ok (.goto (-33), 3) := by decide +kernel
theorem dX12_fillsFits_66 : decode cX12_fillsFits 66 = .ok (.iconst 1, 1) := by decide +kernel
theorem dX12_fillsFits_67 : decode cX12_fillsFits 67 = .ok (.istore_n 3, 1) := by decide +kernel
theorem dX12_fillsFits_68 : decode cX12_fillsFits 68 = .ok (.iconst 0, 1) := by decide +kernel
theorem dX12_fillsFits_69 : decode cX12_fillsFits 69 = .ok (.istore 4, 2) := by decide +kernel
theorem dX12_fillsFits_71 : decode cX12_fillsFits 71 = .ok (.iload 4, 2) := by decide +kernel
theorem dX12_fillsFits_73 : decode cX12_fillsFits 73 = .ok (.aload_n 0, 1) := by decide +kernel
theorem dX12_fillsFits_74 : decode cX12_fillsFits 74 = .ok (.getfield 39, 3) := by decide +kernel
theorem dX12_fillsFits_77 : decode cX12_fillsFits 77 = .ok (.bipush 105, 2) := by decide +kernel
theorem dX12_fillsFits_79 : decode cX12_fillsFits 79 = .ok (.iaload, 1) := by decide +kernel
theorem dX12_fillsFits_80 : decode cX12_fillsFits 80 = .ok (.if_icmp .ge 59, 3) := by decide +kernel
theorem dX12_fillsFits_83 : decode cX12_fillsFits 83 = .ok (.iload_n 3, 1) := by decide +kernel
theorem dX12_fillsFits_84 : decode cX12_fillsFits 84 = .ok (.ifCond .eq 47, 3) := by decide +kernel
theorem dX12_fillsFits_87 : decode cX12_fillsFits 87 = .ok (.aload_n 0, 1) := by decide +kernel
theorem dX12_fillsFits_88 : decode cX12_fillsFits 88 = .ok (.getfield 59, 3) := by decide +kernel
theorem dX12_fillsFits_91 : decode cX12_fillsFits 91 = .ok (.iload_n 2, 1) := by decide +kernel
theorem dX12_fillsFits_92 : decode cX12_fillsFits 92 = .ok (.iconst 1, 1) := by decide +kernel
theorem dX12_fillsFits_93 : decode cX12_fillsFits 93 = .ok (.iadd, 1) := by decide +kernel
theorem dX12_fillsFits_94 : decode cX12_fillsFits 94 = .ok (.aload_n 0, 1) := by decide +kernel
theorem dX12_fillsFits_95 : decode cX12_fillsFits 95 = .ok (.getfield 39, 3) := by decide +kernel
theorem dX12_fillsFits_98 : decode cX12_fillsFits 98 = .ok (.bipush 85, 2) := by decide +kernel
theorem dX12_fillsFits_100 : decode cX12_fillsFits 100 = .ok (.iconst 2, 1) := by decide +kernel
theorem dX12_fillsFits_101 : decode cX12_fillsFits 101 = .ok (.iload 4, 2) := by decide +kernel
theorem dX12_fillsFits_103 : decode cX12_fillsFits 103 = .ok (.imul, 1) := by decide +kernel
theorem dX12_fillsFits_104 : decode cX12_fillsFits 104 = .ok (.iadd, 1) := by decide +kernel
theorem dX12_fillsFits_105 : decode cX12_fillsFits 105 = .ok (.iaload, 1) := by decide +kernel
theorem dX12_fillsFits_106 : decode cX12_fillsFits 106 = .ok (.invokestatic 430, 3) := by decide +kernel
theorem dX12_fillsFits_109 : decode cX12_fillsFits 109 = .ok (.iaload, 1) := by decide +kernel
theorem dX12_fillsFits_110 : decode cX12_fillsFits 110 = .ok (.aload_n 0, 1) := by decide +kernel
theorem dX12_fillsFits_111 : decode cX12_fillsFits 111 = .ok (.getfield 39, 3) := by decide +kernel
theorem dX12_fillsFits_114 : decode cX12_fillsFits 114 = .ok (.bipush 85, 2) := by decide +kernel
theorem dX12_fillsFits_116 : decode cX12_fillsFits 116 = .ok (.iconst 2, 1) := by decide +kernel
theorem dX12_fillsFits_117 : decode cX12_fillsFits 117 = .ok (.iload 4, 2) := by decide +kernel
theorem dX12_fillsFits_119 : decode cX12_fillsFits 119 = .ok (.imul, 1) := by decide +kernel
theorem dX12_fillsFits_120 : decode cX12_fillsFits 120 = .ok (.iadd, 1) := by decide +kernel
theorem dX12_fillsFits_121 : decode cX12_fillsFits 121 = .ok (.iconst 1, 1) := by decide +kernel
theorem dX12_fillsFits_122 : decode cX12_fillsFits 122 = .ok (.iadd, 1) := by decide +kernel
theorem dX12_fillsFits_123 : decode cX12_fillsFits 123 = .ok (.iaload, 1) := by decide +kernel
theorem dX12_fillsFits_124 : decode cX12_fillsFits 124 = .ok (.if_icmp .ne 7, 3) := by decide +kernel
theorem dX12_fillsFits_127 : decode cX12_fillsFits 127 = .ok (.iconst 1, 1) := by decide +kernel
theorem dX12_fillsFits_128 : decode cX12_fillsFits 128 = .ok (.goto 4, 3) := by decide +kernel
theorem dX12_fillsFits_131 : decode cX12_fillsFits 131 = .ok (.iconst 0, 1) := by decide +kernel
theorem dX12_fillsFits_132 : decode cX12_fillsFits 132 = .ok (.istore_n 3, 1) := by decide +kernel
theorem dX12_fillsFits_133 : decode cX12_fillsFits 133 = .ok (.iinc 4 1, 3) := by decide +kernel
theorem dX12_fillsFits_136 : decode cX12_fillsFits 136 = .ok (.goto (-65), 3) := by decide +kernel
theorem dX12_fillsFits_139 : decode cX12_fillsFits 139 = .ok (.aload_n 0, 1) := by decide +kernel
theorem dX12_fillsFits_140 : decode cX12_fillsFits 140 = .ok (.getfield 55, 3) := by decide +kernel
theorem dX12_fillsFits_143 : decode cX12_fillsFits 143 = .ok (.iload_n 2, 1) := by decide +kernel
theorem dX12_fillsFits_144 : decode cX12_fillsFits 144 = .ok (.iconst 1, 1) := by decide +kernel
theorem dX12_fillsFits_145 : decode cX12_fillsFits 145 = .ok (.iadd, 1) := by decide +kernel
theorem dX12_fillsFits_146 : decode cX12_fillsFits 146 = .ok (.iload_n 3, 1) := by decide +kernel
theorem dX12_fillsFits_147 : decode cX12_fillsFits 147 = .ok (.bastore, 1) := by decide +kernel
theorem dX12_fillsFits_148 : decode cX12_fillsFits 148 = .ok (.iinc 2 1, 3) := by decide +kernel
theorem dX12_fillsFits_151 : decode cX12_fillsFits 151 = .ok (.goto (-140), 3) := by decide +kernel
theorem dX12_fillsFits_154 : decode cX12_fillsFits 154 = .ok (.aload_n 0, 1) := by decide +kernel
theorem dX12_fillsFits_155 : decode cX12_fillsFits 155 = .ok (.iload_n 1, 1) := by decide +kernel
theorem dX12_fillsFits_156 : decode cX12_fillsFits 156 = .ok (.putfield 42, 3) := by decide +kernel
theorem dX12_fillsFits_159 : decode cX12_fillsFits 159 = .ok (.aload_n 0, 1) := by decide +kernel
theorem dX12_fillsFits_160 : decode cX12_fillsFits 160 = .ok (.invokevirtual 391, 3) := by decide +kernel
theorem dX12_fillsFits_163 : decode cX12_fillsFits 163 = .ok (.return_, 1) := by decide +kernel
theorem dX12_ruled_0 : decode cX12_ruled 0 = .ok (.aload_n 0, 1) := by decide +kernel
theorem dX12_ruled_1 : decode cX12_ruled 1 = .ok (.invokevirtual 357, 3) := by decide +kernel
theorem dX12_ruled_4 : decode cX12_ruled 4 = .ok (.ifCond .eq 13, 3) := by decide +kernel
theorem dX12_ruled_7 : decode cX12_ruled 7 = .ok (.iload_n 1, 1) := by decide +kernel
theorem dX12_ruled_8 : decode cX12_ruled 8 = .ok (.i2l, 1) := by decide +kernel
theorem dX12_ruled_9 : decode cX12_ruled 9 = .ok (.lconst 0, 1) := by decide +kernel
theorem dX12_ruled_10 : decode cX12_ruled 10 = .ok (.lconst 1, 1) := by decide +kernel
theorem dX12_ruled_11 : decode cX12_ruled 11 = .ok (.invokestatic 112, 3) := by decide +kernel
theorem dX12_ruled_14 : decode cX12_ruled 14 = .ok (.ifCond .ne 6, 3) := by decide +kernel
theorem dX12_ruled_17 : decode cX12_ruled 17 = .ok (.bipush (-3), 2) := by decide +kernel
theorem dX12_ruled_19 : decode cX12_ruled 19 = .ok (.ireturn, 1) := by decide +kernel
theorem dX12_ruled_20 : decode cX12_ruled 20 = .ok (.aload_n 0, 1) := by decide +kernel
theorem dX12_ruled_21 : decode cX12_ruled 21 = .ok (.invokevirtual 433, 3) := by decide +kernel
theorem dX12_ruled_24 : decode cX12_ruled 24 = .ok (.iconst 0, 1) := by decide +kernel
theorem dX12_ruled_25 : decode cX12_ruled 25 = .ok (.istore_n 2, 1) := by decide +kernel
theorem dX12_ruled_26 : decode cX12_ruled 26 = .ok (.bipush (-2), 2) := by decide +kernel
theorem dX12_ruled_28 : decode cX12_ruled 28 = .ok (.istore_n 3, 1) := by decide +kernel
theorem dX12_ruled_29 : decode cX12_ruled 29 = .ok (.aload_n 0, 1) := by decide +kernel
theorem dX12_ruled_30 : decode cX12_ruled 30 = .ok (.getfield 254, 3) := by decide +kernel
theorem dX12_ruled_33 : decode cX12_ruled 33 = .ok (.istore 4, 2) := by decide +kernel
theorem dX12_ruled_35 : decode cX12_ruled 35 = .ok (.iload 4, 2) := by decide +kernel
theorem dX12_ruled_37 : decode cX12_ruled 37 = .ok (.ifCond .lt 30, 3) := by decide +kernel
theorem dX12_ruled_40 : decode cX12_ruled 40 = .ok (.aload_n 0, 1) := by decide +kernel
theorem dX12_ruled_41 : decode cX12_ruled 41 = .ok (.getfield 55, 3) := by decide +kernel
theorem dX12_ruled_44 : decode cX12_ruled 44 = .ok (.iload 4, 2) := by decide +kernel
theorem dX12_ruled_46 : decode cX12_ruled 46 = .ok (.baload, 1) := by decide +kernel
theorem dX12_ruled_47 : decode cX12_ruled 47 = .ok (.ifCond .ne 6, 3) := by decide +kernel
theorem dX12_ruled_50 : decode cX12_ruled 50 = .ok (.goto 11, 3) := by decide +kernel
theorem dX12_ruled_53 : decode cX12_ruled 53 = .ok (.iload 4, 2) := by decide +kernel
theorem dX12_ruled_55 : decode cX12_ruled 55 = .ok (.iconst 1, 1) := by decide +kernel
theorem dX12_ruled_56 : decode cX12_ruled 56 = .ok (.isub, 1) := by decide +kernel
theorem dX12_ruled_57 : decode cX12_ruled 57 = .ok (.istore_n 3, 1) := by decide +kernel
theorem dX12_ruled_58 : decode cX12_ruled 58 = .ok (.iinc 2 1, 3) := by decide +kernel
theorem dX12_ruled_61 : decode cX12_ruled 61 = .ok (.iinc 4 (-1), 3) := by decide +kernel
theorem dX12_ruled_64 : decode cX12_ruled 64 = .ok (.goto (-29), 3) := by decide +kernel
theorem dX12_ruled_67 : decode cX12_ruled 67 = .ok (.iload_n 1, 1) := by decide +kernel
theorem dX12_ruled_68 : decode cX12_ruled 68 = .ok (.ifCond .ne 7, 3) := by decide +kernel
theorem dX12_ruled_71 : decode cX12_ruled 71 = .ok (.iload_n 2, 1) := by decide +kernel
theorem dX12_ruled_72 : decode cX12_ruled 72 = .ok (.goto 4, 3) := by decide +kernel
theorem dX12_ruled_75 : decode cX12_ruled 75 = .ok (.iload_n 3, 1) := by decide +kernel
theorem dX12_ruled_76 : decode cX12_ruled 76 = .ok (.ireturn, 1) := by decide +kernel
theorem dX12_alikeAt_0 : decode cX12_alikeAt 0 = .ok (.iconst 0, 1) := by decide +kernel
theorem dX12_alikeAt_1 : decode cX12_alikeAt 1 = .ok (.istore_n 2, 1) := by decide +kernel
theorem dX12_alikeAt_2 : decode cX12_alikeAt 2 = .ok (.iconst 0, 1) := by decide +kernel
theorem dX12_alikeAt_3 : decode cX12_alikeAt 3 = .ok (.istore_n 3, 1) := by decide +kernel
theorem dX12_alikeAt_4 : decode cX12_alikeAt 4 = .ok (.iload_n 3, 1) := by decide +kernel
theorem dX12_alikeAt_5 : decode cX12_alikeAt 5 = .ok (.aload_n 0, 1) := by decide +kernel
theorem dX12_alikeAt_6 : decode cX12_alikeAt 6 = .ok (.getfield 254, 3) := by decide +kernel
theorem dX12_alikeAt_9 : decode cX12_alikeAt 9 = .ok (.if_icmp .gt 96, 3) := by decide +kernel
theorem dX12_alikeAt_12 : decode cX12_alikeAt 12 = .ok (.iconst 0, 1) := by decide +kernel
theorem dX12_alikeAt_13 : decode cX12_alikeAt 13 = .ok (.istore 4, 2) := by decide +kernel
theorem dX12_alikeAt_15 : decode cX12_alikeAt 15 = .ok (.iconst 0, 1) := by decide +kernel
theorem dX12_alikeAt_16 : decode cX12_alikeAt 16 = .ok (.istore 5, 2) := by decide +kernel
theorem dX12_alikeAt_18 : decode cX12_alikeAt 18 = .ok (.iload 5, 2) := by decide +kernel
theorem dX12_alikeAt_20 : decode cX12_alikeAt 20 = .ok (.aload_n 0, 1) := by decide +kernel
theorem dX12_alikeAt_21 : decode cX12_alikeAt 21 = .ok (.getfield 254, 3) := by decide +kernel
theorem dX12_alikeAt_24 : decode cX12_alikeAt 24 = .ok (.if_icmp .gt 62, 3) := by decide +kernel
theorem dX12_alikeAt_27 : decode cX12_alikeAt 27 = .ok (.aload_n 0, 1) := by decide +kernel
theorem dX12_alikeAt_28 : decode cX12_alikeAt 28 = .ok (.getfield 55, 3) := by decide +kernel
theorem dX12_alikeAt_31 : decode cX12_alikeAt 31 = .ok (.iload_n 3, 1) := by decide +kernel
theorem dX12_alikeAt_32 : decode cX12_alikeAt 32 = .ok (.baload, 1) := by decide +kernel
theorem dX12_alikeAt_33 : decode cX12_alikeAt 33 = .ok (.ifCond .eq 53, 3) := by decide +kernel
theorem dX12_alikeAt_36 : decode cX12_alikeAt 36 = .ok (.iload 4, 2) := by decide +kernel
theorem dX12_alikeAt_38 : decode cX12_alikeAt 38 = .ok (.aload_n 0, 1) := by decide +kernel
theorem dX12_alikeAt_39 : decode cX12_alikeAt 39 = .ok (.getfield 55, 3) := by decide +kernel
theorem dX12_alikeAt_42 : decode cX12_alikeAt 42 = .ok (.iload 5, 2) := by decide +kernel
theorem dX12_alikeAt_44 : decode cX12_alikeAt 44 = .ok (.baload, 1) := by decide +kernel
theorem dX12_alikeAt_45 : decode cX12_alikeAt 45 = .ok (.ifCond .eq 31, 3) := by decide +kernel
theorem dX12_alikeAt_48 : decode cX12_alikeAt 48 = .ok (.aload_n 0, 1) := by decide +kernel
theorem dX12_alikeAt_49 : decode cX12_alikeAt 49 = .ok (.getfield 59, 3) := by decide +kernel
theorem dX12_alikeAt_52 : decode cX12_alikeAt 52 = .ok (.iload_n 3, 1) := by decide +kernel
theorem dX12_alikeAt_53 : decode cX12_alikeAt 53 = .ok (.iload_n 1, 1) := by decide +kernel
theorem dX12_alikeAt_54 : decode cX12_alikeAt 54 = .ok (.invokestatic 430, 3) := by decide +kernel
theorem dX12_alikeAt_57 : decode cX12_alikeAt 57 = .ok (.iaload, 1) := by decide +kernel
theorem dX12_alikeAt_58 : decode cX12_alikeAt 58 = .ok (.aload_n 0, 1) := by decide +kernel
theorem dX12_alikeAt_59 : decode cX12_alikeAt 59 = .ok (.getfield 59, 3) := by decide +kernel
theorem dX12_alikeAt_62 : decode cX12_alikeAt 62 = .ok (.iload 5, 2) := by decide +kernel
theorem dX12_alikeAt_64 : decode cX12_alikeAt 64 = .ok (.iload_n 1, 1) := by decide +kernel
theorem dX12_alikeAt_65 : decode cX12_alikeAt 65 = .ok (.invokestatic 430, 3) := by decide +kernel
theorem dX12_alikeAt_68 : decode cX12_alikeAt 68 = .ok (.iaload, 1) := by decide +kernel
theorem dX12_alikeAt_69 : decode cX12_alikeAt 69 = .ok (.if_icmp .ne 7, 3) := by decide +kernel
theorem dX12_alikeAt_72 : decode cX12_alikeAt 72 = .ok (.iconst 1, 1) := by decide +kernel
theorem dX12_alikeAt_73 : decode cX12_alikeAt 73 = .ok (.goto 4, 3) := by decide +kernel
theorem dX12_alikeAt_76 : decode cX12_alikeAt 76 = .ok (.iconst 0, 1) := by decide +kernel
theorem dX12_alikeAt_77 : decode cX12_alikeAt 77 = .ok (.iadd, 1) := by decide +kernel
theorem dX12_alikeAt_78 : decode cX12_alikeAt 78 = .ok (.istore 4, 2) := by decide +kernel
theorem dX12_alikeAt_80 : decode cX12_alikeAt 80 = .ok (.iinc 5 1, 3) := by decide +kernel
theorem dX12_alikeAt_83 : decode cX12_alikeAt 83 = .ok (.goto (-65), 3) := by decide +kernel
theorem dX12_alikeAt_86 : decode cX12_alikeAt 86 = .ok (.iload 4, 2) := by decide +kernel
theorem dX12_alikeAt_88 : decode cX12_alikeAt 88 = .ok (.iload_n 2, 1) := by decide +kernel
theorem dX12_alikeAt_89 : decode cX12_alikeAt 89 = .ok (.if_icmp .le 8, 3) := by decide +kernel
theorem dX12_alikeAt_92 : decode cX12_alikeAt 92 = .ok (.iload 4, 2) := by decide +kernel
theorem dX12_alikeAt_94 : decode cX12_alikeAt 94 = .ok (.goto 4, 3) := by decide +kernel
theorem dX12_alikeAt_97 : decode cX12_alikeAt 97 = .ok (.iload_n 2, 1) := by decide +kernel
theorem dX12_alikeAt_98 : decode cX12_alikeAt 98 = .ok (.istore_n 2, 1) := by decide +kernel
theorem dX12_alikeAt_99 : decode cX12_alikeAt 99 = .ok (.iinc 3 1, 3) := by decide +kernel
theorem dX12_alikeAt_102 : decode cX12_alikeAt 102 = .ok (.goto (-98), 3) := by decide +kernel
theorem dX12_alikeAt_105 : decode cX12_alikeAt 105 = .ok (.iload_n 2, 1) := by decide +kernel
theorem dX12_alikeAt_106 : decode cX12_alikeAt 106 = .ok (.ireturn, 1) := by decide +kernel
theorem dX12_look_0 : decode cX12_look 0 = .ok (.aload_n 0, 1) := by decide +kernel
theorem dX12_look_1 : decode cX12_look 1 = .ok (.invokevirtual 357, 3) := by decide +kernel
theorem dX12_look_4 : decode cX12_look 4 = .ok (.ifCond .eq 13, 3) := by decide +kernel
theorem dX12_look_7 : decode cX12_look 7 = .ok (.iload_n 1, 1) := by decide +kernel
theorem dX12_look_8 : decode cX12_look 8 = .ok (.i2l, 1) := by decide +kernel
theorem dX12_look_9 : decode cX12_look 9 = .ok (.lconst 0, 1) := by decide +kernel
theorem dX12_look_10 : decode cX12_look 10 = .ok (.lconst 1, 1) := by decide +kernel
theorem dX12_look_11 : decode cX12_look 11 = .ok (.invokestatic 112, 3) := by decide +kernel
theorem dX12_look_14 : decode cX12_look 14 = .ok (.ifCond .ne 5, 3) := by decide +kernel
theorem dX12_look_17 : decode cX12_look 17 = .ok (.iconst (-1), 1) := by decide +kernel
theorem dX12_look_18 : decode cX12_look 18 = .ok (.ireturn, 1) := by decide +kernel
theorem dX12_look_19 : decode cX12_look 19 = .ok (.aload_n 0, 1) := by decide +kernel
theorem dX12_look_20 : decode cX12_look 20 = .ok (.invokevirtual 433, 3) := by decide +kernel
theorem dX12_look_23 : decode cX12_look 23 = .ok (.iconst 0, 1) := by decide +kernel
theorem dX12_look_24 : decode cX12_look 24 = .ok (.istore_n 2, 1) := by decide +kernel
theorem dX12_look_25 : decode cX12_look 25 = .ok (.iconst 1, 1) := by decide +kernel
theorem dX12_look_26 : decode cX12_look 26 = .ok (.istore_n 3, 1) := by decide +kernel
theorem dX12_look_27 : decode cX12_look 27 = .ok (.iload_n 3, 1) := by decide +kernel
theorem dX12_look_28 : decode cX12_look 28 = .ok (.bipush 60, 2) := by decide +kernel
theorem dX12_look_30 : decode cX12_look 30 = .ok (.if_icmp .gt 24, 3) := by decide +kernel
theorem dX12_look_33 : decode cX12_look 33 = .ok (.aload_n 0, 1) := by decide +kernel
theorem dX12_look_34 : decode cX12_look 34 = .ok (.iload_n 3, 1) := by decide +kernel
theorem dX12_look_35 : decode cX12_look 35 = .ok (.invokevirtual 436, 3) := by decide +kernel
theorem dX12_look_38 : decode cX12_look 38 = .ok (.aload_n 0, 1) := by decide +kernel
theorem dX12_look_39 : decode cX12_look 39 = .ok (.iload_n 2, 1) := by decide +kernel
theorem dX12_look_40 : decode cX12_look 40 = .ok (.invokevirtual 436, 3) := by decide +kernel
theorem dX12_look_43 : decode cX12_look 43 = .ok (.if_icmp .ge 5, 3) := by decide +kernel
theorem dX12_look_46 : decode cX12_look 46 = .ok (.iload_n 3, 1) := by decide +kernel
theorem dX12_look_47 : decode cX12_look 47 = .ok (.istore_n 2, 1) := by decide +kernel
theorem dX12_look_48 : decode cX12_look 48 = .ok (.iinc 3 1, 3) := by decide +kernel
theorem dX12_look_51 : decode cX12_look 51 = .ok (.goto (-24), 3) := by decide +kernel
theorem dX12_look_54 : decode cX12_look 54 = .ok (.aload_n 0, 1) := by decide +kernel
theorem dX12_look_55 : decode cX12_look 55 = .ok (.iload_n 2, 1) := by decide +kernel
theorem dX12_look_56 : decode cX12_look 56 = .ok (.invokevirtual 436, 3) := by decide +kernel
theorem dX12_look_59 : decode cX12_look 59 = .ok (.ifCond .ne 8, 3) := by decide +kernel
theorem dX12_look_62 : decode cX12_look 62 = .ok (.bipush (-2), 2) := by decide +kernel
theorem dX12_look_64 : decode cX12_look 64 = .ok (.goto 16, 3) := by decide +kernel
theorem dX12_look_67 : decode cX12_look 67 = .ok (.iload_n 1, 1) := by decide +kernel
theorem dX12_look_68 : decode cX12_look 68 = .ok (.ifCond .ne 7, 3) := by decide +kernel
theorem dX12_look_71 : decode cX12_look 71 = .ok (.iload_n 2, 1) := by decide +kernel
theorem dX12_look_72 : decode cX12_look 72 = .ok (.goto 8, 3) := by decide +kernel
theorem dX12_look_75 : decode cX12_look 75 = .ok (.aload_n 0, 1) := by decide +kernel
theorem dX12_look_76 : decode cX12_look 76 = .ok (.iload_n 2, 1) := by decide +kernel
theorem dX12_look_77 : decode cX12_look 77 = .ok (.invokevirtual 436, 3) := by decide +kernel
theorem dX12_look_80 : decode cX12_look 80 = .ok (.ireturn, 1) := by decide +kernel
theorem dX12_seed_0 : decode cX12_seed 0 = .ok (.iload_n 1, 1) := by decide +kernel
theorem dX12_seed_1 : decode cX12_seed 1 = .ok (.ifCond .ge 5, 3) := by decide +kernel
theorem dX12_seed_4 : decode cX12_seed 4 = .ok (.iconst (-1), 1) := by decide +kernel
theorem dX12_seed_5 : decode cX12_seed 5 = .ok (.ireturn, 1) := by decide +kernel
theorem dX12_seed_6 : decode cX12_seed 6 = .ok (.aload_n 0, 1) := by decide +kernel
theorem dX12_seed_7 : decode cX12_seed 7 = .ok (.getfield 439, 3) := by decide +kernel
theorem dX12_seed_10 : decode cX12_seed 10 = .ok (.istore_n 2, 1) := by decide +kernel
theorem dX12_seed_11 : decode cX12_seed 11 = .ok (.aload_n 0, 1) := by decide +kernel
theorem dX12_seed_12 : decode cX12_seed 12 = .ok (.iload_n 1, 1) := by decide +kernel
theorem dX12_seed_13 : decode cX12_seed 13 = .ok (.putfield 439, 3) := by decide +kernel
theorem dX12_seed_16 : decode cX12_seed 16 = .ok (.iload_n 2, 1) := by decide +kernel
theorem dX12_seed_17 : decode cX12_seed 17 = .ok (.ireturn, 1) := by decide +kernel
theorem dX12_draw_0 : decode cX12_draw 0 = .ok (.aload_n 0, 1) := by decide +kernel
theorem dX12_draw_1 : decode cX12_draw 1 = .ok (.aload_n 0, 1) := by decide +kernel
