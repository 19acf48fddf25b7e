theorem dX11_ruled_58 : decode cX11_ruled 58 = .ok (.aload_n 0, 1) := by decide +kernel
theorem dX11_ruled_59 : decode cX11_ruled 59 = .ok (.getfield 59, 3) := by decide +kernel
theorem dX11_ruled_62 : decode cX11_ruled 62 = .ok (.invokevirtual 278, 3) := by decide +kernel
theorem dX11_ruled_65 : decode cX11_ruled 65 = .ok (.ireturn, 1) := by decide +kernel
theorem dX11_look_0 : decode cX11_look 0 = .ok (.aload_n 0, 1) := by decide +kernel
theorem dX11_look_1 : decode cX11_look 1 = .ok (.getfield 26, 3) := by decide +kernel
theorem dX11_look_4 : decode cX11_look 4 = .ok (.getfield 95, 3) := by decide +kernel
theorem dX11_look_7 : decode cX11_look 7 = .ok (.getfield 141, 3) := by decide +kernel
theorem dX11_look_10 : decode cX11_look 10 = .ok (.ifCond .eq 12, 3) := by decide +kernel
theorem dX11_look_13 : decode cX11_look 13 = .ok (.iload_n 1, 1) := by decide +kernel
theorem dX11_look_14 : decode cX11_look 14 = .ok (.iconst 0, 1) := by decide +kernel
theorem dX11_look_15 : decode cX11_look 15 = .ok (.iconst 1, 1) := by decide +kernel
theorem dX11_look_16 : decode cX11_look 16 = .ok (.invokestatic 75, 3) := by decide +kernel
theorem dX11_look_19 : decode cX11_look 19 = .ok (.ifCond .ne 5, 3) := by decide +kernel
theorem dX11_look_22 : decode cX11_look 22 = .ok (.iconst (-1), 1) := by decide +kernel
theorem dX11_look_23 : decode cX11_look 23 = .ok (.ireturn, 1) := by decide +kernel
theorem dX11_look_24 : decode cX11_look 24 = .ok (.aload_n 0, 1) := by decide +kernel
theorem dX11_look_25 : decode cX11_look 25 = .ok (.getfield 59, 3) := by decide +kernel
theorem dX11_look_28 : decode cX11_look 28 = .ok (.aload_n 0, 1) := by decide +kernel
theorem dX11_look_29 : decode cX11_look 29 = .ok (.getfield 26, 3) := by decide +kernel
theorem dX11_look_32 : decode cX11_look 32 = .ok (.aload_n 0, 1) := by decide +kernel
theorem dX11_look_33 : decode cX11_look 33 = .ok (.getfield 18, 3) := by decide +kernel
theorem dX11_look_36 : decode cX11_look 36 = .ok (.aload_n 0, 1) := by decide +kernel
theorem dX11_look_37 : decode cX11_look 37 = .ok (.getfield 101, 3) := by decide +kernel
theorem dX11_look_40 : decode cX11_look 40 = .ok (.invokevirtual 270, 3) := by decide +kernel
theorem dX11_look_43 : decode cX11_look 43 = .ok (.aload_n 0, 1) := by decide +kernel
theorem dX11_look_44 : decode cX11_look 44 = .ok (.getfield 59, 3) := by decide +kernel
theorem dX11_look_47 : decode cX11_look 47 = .ok (.invokevirtual 274, 3) := by decide +kernel
theorem dX11_look_50 : decode cX11_look 50 = .ok (.ifCond .ne 6, 3) := by decide +kernel
theorem dX11_look_53 : decode cX11_look 53 = .ok (.bipush (-2), 2) := by decide +kernel
theorem dX11_look_55 : decode cX11_look 55 = .ok (.ireturn, 1) := by decide +kernel
theorem dX11_look_56 : decode cX11_look 56 = .ok (.aload_n 0, 1) := by decide +kernel
theorem dX11_look_57 : decode cX11_look 57 = .ok (.getfield 59, 3) := by decide +kernel
theorem dX11_look_60 : decode cX11_look 60 = .ok (.invokevirtual 281, 3) := by decide +kernel
theorem dX11_look_63 : decode cX11_look 63 = .ok (.istore_n 2, 1) := by decide +kernel
theorem dX11_look_64 : decode cX11_look 64 = .ok (.iload_n 1, 1) := by decide +kernel
theorem dX11_look_65 : decode cX11_look 65 = .ok (.ifCond .ne 7, 3) := by decide +kernel
theorem dX11_look_68 : decode cX11_look 68 = .ok (.iload_n 2, 1) := by decide +kernel
theorem dX11_look_69 : decode cX11_look 69 = .ok (.goto 11, 3) := by decide +kernel
theorem dX11_look_72 : decode cX11_look 72 = .ok (.aload_n 0, 1) := by decide +kernel
theorem dX11_look_73 : decode cX11_look 73 = .ok (.getfield 59, 3) := by decide +kernel
theorem dX11_look_76 : decode cX11_look 76 = .ok (.iload_n 2, 1) := by decide +kernel
theorem dX11_look_77 : decode cX11_look 77 = .ok (.invokevirtual 284, 3) := by decide +kernel
theorem dX11_look_80 : decode cX11_look 80 = .ok (.ireturn, 1) := by decide +kernel
theorem dX11_seed_0 : decode cX11_seed 0 = .ok (.iload_n 1, 1) := by decide +kernel
theorem dX11_seed_1 : decode cX11_seed 1 = .ok (.ifCond .ge 5, 3) := by decide +kernel
theorem dX11_seed_4 : decode cX11_seed 4 = .ok (.iconst (-1), 1) := by decide +kernel
theorem dX11_seed_5 : decode cX11_seed 5 = .ok (.ireturn, 1) := by decide +kernel
theorem dX11_seed_6 : decode cX11_seed 6 = .ok (.aload_n 0, 1) := by decide +kernel
theorem dX11_seed_7 : decode cX11_seed 7 = .ok (.getfield 26, 3) := by decide +kernel
theorem dX11_seed_10 : decode cX11_seed 10 = .ok (.getfield 287, 3) := by decide +kernel
theorem dX11_seed_13 : decode cX11_seed 13 = .ok (.istore_n 2, 1) := by decide +kernel
theorem dX11_seed_14 : decode cX11_seed 14 = .ok (.aload_n 0, 1) := by decide +kernel
theorem dX11_seed_15 : decode cX11_seed 15 = .ok (.getfield 26, 3) := by decide +kernel
theorem dX11_seed_18 : decode cX11_seed 18 = .ok (.iload_n 1, 1) := by decide +kernel
theorem dX11_seed_19 : decode cX11_seed 19 = .ok (.putfield 287, 3) := by decide +kernel
theorem dX11_seed_22 : decode cX11_seed 22 = .ok (.iload_n 2, 1) := by decide +kernel
theorem dX11_seed_23 : decode cX11_seed 23 = .ok (.ireturn, 1) := by decide +kernel
theorem dX11_years_0 : decode cX11_years 0 = .ok (.aload_n 0, 1) := by decide +kernel
theorem dX11_years_1 : decode cX11_years 1 = .ok (.getfield 26, 3) := by decide +kernel
theorem dX11_years_4 : decode cX11_years 4 = .ok (.getfield 95, 3) := by decide +kernel
theorem dX11_years_7 : decode cX11_years 7 = .ok (.getfield 141, 3) := by decide +kernel
theorem dX11_years_10 : decode cX11_years 10 = .ok (.ifCond .eq 32, 3) := by decide +kernel
theorem dX11_years_13 : decode cX11_years 13 = .ok (.iload_n 1, 1) := by decide +kernel
theorem dX11_years_14 : decode cX11_years 14 = .ok (.iconst 1, 1) := by decide +kernel
theorem dX11_years_15 : decode cX11_years 15 = .ok (.bipush 10, 2) := by decide +kernel
theorem dX11_years_17 : decode cX11_years 17 = .ok (.invokestatic 75, 3) := by decide +kernel
theorem dX11_years_20 : decode cX11_years 20 = .ok (.ifCond .eq 22, 3) := by decide +kernel
theorem dX11_years_23 : decode cX11_years 23 = .ok (.iload_n 2, 1) := by decide +kernel
theorem dX11_years_24 : decode cX11_years 24 = .ok (.iconst 1, 1) := by decide +kernel
theorem dX11_years_25 : decode cX11_years 25 = .ok (.bipush 60, 2) := by decide +kernel
theorem dX11_years_27 : decode cX11_years 27 = .ok (.invokestatic 75, 3) := by decide +kernel
theorem dX11_years_30 : decode cX11_years 30 = .ok (.ifCond .eq 12, 3) := by decide +kernel
theorem dX11_years_33 : decode cX11_years 33 = .ok (.iload_n 3, 1) := by decide +kernel
theorem dX11_years_34 : decode cX11_years 34 = .ok (.iconst 0, 1) := by decide +kernel
theorem dX11_years_35 : decode cX11_years 35 = .ok (.iconst 1, 1) := by decide +kernel
theorem dX11_years_36 : decode cX11_years 36 = .ok (.invokestatic 75, 3) := by decide +kernel
theorem dX11_years_39 : decode cX11_years 39 = .ok (.ifCond .ne 5, 3) := by decide +kernel
theorem dX11_years_42 : decode cX11_years 42 = .ok (.iconst (-1), 1) := by decide +kernel
theorem dX11_years_43 : decode cX11_years 43 = .ok (.ireturn, 1) := by decide +kernel
theorem dX11_years_44 : decode cX11_years 44 = .ok (.aload_n 0, 1) := by decide +kernel
theorem dX11_years_45 : decode cX11_years 45 = .ok (.getfield 52, 3) := by decide +kernel
theorem dX11_years_48 : decode cX11_years 48 = .ok (.aload_n 0, 1) := by decide +kernel
theorem dX11_years_49 : decode cX11_years 49 = .ok (.getfield 26, 3) := by decide +kernel
theorem dX11_years_52 : decode cX11_years 52 = .ok (.aload_n 0, 1) := by decide +kernel
theorem dX11_years_53 : decode cX11_years 53 = .ok (.invokevirtual 151, 3) := by decide +kernel
theorem dX11_years_56 : decode cX11_years 56 = .ok (.iload_n 1, 1) := by decide +kernel
theorem dX11_years_57 : decode cX11_years 57 = .ok (.iload_n 2, 1) := by decide +kernel
theorem dX11_years_58 : decode cX11_years 58 = .ok (.invokevirtual 290, 3) := by decide +kernel
theorem dX11_years_61 : decode cX11_years 61 = .ok (.aload_n 0, 1) := by decide +kernel
theorem dX11_years_62 : decode cX11_years 62 = .ok (.getfield 52, 3) := by decide +kernel
theorem dX11_years_65 : decode cX11_years 65 = .ok (.getfield 233, 3) := by decide +kernel
theorem dX11_years_68 : decode cX11_years 68 = .ok (.iload_n 3, 1) := by decide +kernel
theorem dX11_years_69 : decode cX11_years 69 = .ok (.iaload, 1) := by decide +kernel
theorem dX11_years_70 : decode cX11_years 70 = .ok (.ireturn, 1) := by decide +kernel
theorem dX11_count_0 : decode cX11_count 0 = .ok (.aload_n 0, 1) := by decide +kernel
theorem dX11_count_1 : decode cX11_count 1 = .ok (.getfield 26, 3) := by decide +kernel
theorem dX11_count_4 : decode cX11_count 4 = .ok (.getfield 95, 3) := by decide +kernel
theorem dX11_count_7 : decode cX11_count 7 = .ok (.astore_n 2, 1) := by decide +kernel
theorem dX11_count_8 : decode cX11_count 8 = .ok (.iload_n 1, 1) := by decide +kernel
theorem dX11_count_9 : decode cX11_count 9 = .ok (.tableswitch 171 0 15 #[79, 84, 89, 94, 99, 104, 109, 117, 122, 127, 132, 137, 142, 150, 155, 163], 79) := by decide +kernel
theorem dX11_count_88 : decode cX11_count 88 = .ok (.aload_n 2, 1) := by decide +kernel
theorem dX11_count_89 : decode cX11_count 89 = .ok (.getfield 167, 3) := by decide +kernel
theorem dX11_count_92 : decode cX11_count 92 = .ok (.ireturn, 1) := by decide +kernel
theorem dX11_count_93 : decode cX11_count 93 = .ok (.aload_n 2, 1) := by decide +kernel
theorem dX11_count_94 : decode cX11_count 94 = .ok (.getfield 294, 3) := by decide +kernel
theorem dX11_count_97 : decode cX11_count 97 = .ok (.ireturn, 1) := by decide +kernel
theorem dX11_count_98 : decode cX11_count 98 = .ok (.aload_n 2, 1) := by decide +kernel
theorem dX11_count_99 : decode cX11_count 99 = .ok (.getfield 210, 3) := by decide +kernel
theorem dX11_count_102 : decode cX11_count 102 = .ok (.ireturn, 1) := by decide +kernel
theorem dX11_count_103 : decode cX11_count 103 = .ok (.aload_n 2, 1) := by decide +kernel
theorem dX11_count_104 : decode cX11_count 104 = .ok (.getfield 297, 3) := by decide +kernel
theorem dX11_count_107 : decode cX11_count 107 = .ok (.ireturn, 1) := by decide +kernel
theorem dX11_count_108 : decode cX11_count 108 = .ok (.aload_n 2, 1) := by decide +kernel
theorem dX11_count_109 : decode cX11_count 109 = .ok (.getfield 98, 3) := by decide +kernel
theorem dX11_count_112 : decode cX11_count 112 = .ok (.ireturn, 1) := by decide +kernel
theorem dX11_count_113 : decode cX11_count 113 = .ok (.aload_n 0, 1) := by decide +kernel
theorem dX11_count_114 : decode cX11_count 114 = .ok (.getfield 101, 3) := by decide +kernel
theorem dX11_count_117 : decode cX11_count 117 = .ok (.ireturn, 1) := by decide +kernel
theorem dX11_count_118 : decode cX11_count 118 = .ok (.aload_n 0, 1) := by decide +kernel
theorem dX11_count_119 : decode cX11_count 119 = .ok (.getfield 26, 3) := by decide +kernel
theorem dX11_count_122 : decode cX11_count 122 = .ok (.getfield 109, 3) := by decide +kernel
theorem dX11_count_125 : decode cX11_count 125 = .ok (.ireturn, 1) := by decide +kernel
theorem dX11_count_126 : decode cX11_count 126 = .ok (.aload_n 2, 1) := by decide +kernel
theorem dX11_count_127 : decode cX11_count 127 = .ok (.getfield 145, 3) := by decide +kernel
theorem dX11_count_130 : decode cX11_count 130 = .ok (.ireturn, 1) := by decide +kernel
theorem dX11_count_131 : decode cX11_count 131 = .ok (.aload_n 2, 1) := by decide +kernel
theorem dX11_count_132 : decode cX11_count 132 = .ok (.invokevirtual 300, 3) := by decide +kernel
theorem dX11_count_135 : decode cX11_count 135 = .ok (.ireturn, 1) := by decide +kernel
theorem dX11_count_136 : decode cX11_count 136 = .ok (.aload_n 2, 1) := by decide +kernel
theorem dX11_count_137 : decode cX11_count 137 = .ok (.invokevirtual 303, 3) := by decide +kernel
theorem dX11_count_140 : decode cX11_count 140 = .ok (.ireturn, 1) := by decide +kernel
theorem dX11_count_141 : decode cX11_count 141 = .ok (.aload_n 2, 1) := by decide +kernel
theorem dX11_count_142 : decode cX11_count 142 = .ok (.invokevirtual 306, 3) := by decide +kernel
theorem dX11_count_145 : decode cX11_count 145 = .ok (.ireturn, 1) := by decide +kernel
theorem dX11_count_146 : decode cX11_count 146 = .ok (.aload_n 2, 1) := by decide +kernel
theorem dX11_count_147 : decode cX11_count 147 = .ok (.invokevirtual 309, 3) := by decide +kernel
theorem dX11_count_150 : decode cX11_count 150 = .ok (.ireturn, 1) := by decide +kernel
theorem dX11_count_151 : decode cX11_count 151 = .ok (.aload_n 0, 1) := by decide +kernel
theorem dX11_count_152 : decode cX11_count 152 = .ok (.getfield 26, 3) := by decide +kernel
theorem dX11_count_155 : decode cX11_count 155 = .ok (.getfield 262, 3) := by decide +kernel
theorem dX11_count_158 : decode cX11_count 158 = .ok (.ireturn, 1) := by decide +kernel
theorem dX11_count_159 : decode cX11_count 159 = .ok (.aload_n 0, 1) := by decide +kernel
theorem dX11_count_160 : decode cX11_count 160 = .ok (.getfield 191, 3) := by decide +kernel
theorem dX11_count_163 : decode cX11_count 163 = .ok (.ireturn, 1) := by decide +kernel
theorem dX11_count_164 : decode cX11_count 164 = .ok (.aload_n 0, 1) := by decide +kernel
theorem dX11_count_165 : decode cX11_count 165 = .ok (.getfield 26, 3) := by decide +kernel
theorem dX11_count_168 : decode cX11_count 168 = .ok (.getfield 287, 3) := by decide +kernel
theorem dX11_count_171 : decode cX11_count 171 = .ok (.ireturn, 1) := by decide +kernel
theorem dX11_count_172 : decode cX11_count 172 = .ok (.aload_n 0, 1) := by decide +kernel
theorem dX11_count_173 : decode cX11_count 173 = .ok (.getfield 10, 3) := by decide +kernel
theorem dX11_count_176 : decode cX11_count 176 = .ok (.getfield 71, 3) := by decide +kernel
theorem dX11_count_179 : decode cX11_count 179 = .ok (.ireturn, 1) := by decide +kernel
theorem dX11_count_180 : decode cX11_count 180 = .ok (.iconst (-1), 1) := by decide +kernel
theorem dX11_count_181 : decode cX11_count 181 = .ok (.ireturn, 1) := by decide +kernel
theorem dX11_image_0 : decode cX11_image 0 = .ok (.iload_n 1, 1) := by decide +kernel
theorem dX11_image_1 : decode cX11_image 1 = .ok (.iconst 0, 1) := by decide +kernel
theorem dX11_image_2 : decode cX11_image 2 = .ok (.aload_n 0, 1) := by decide +kernel
theorem dX11_image_3 : decode cX11_image 3 = .ok (.getfield 37, 3) := by decide +kernel
theorem dX11_image_6 : decode cX11_image 6 = .ok (.arraylength, 1) := by decide +kernel
theorem dX11_image_7 : decode cX11_image 7 = .ok (.iconst 1, 1) := by decide +kernel
theorem dX11_image_8 : decode cX11_image 8 = .ok (.isub, 1) := by decide +kernel
theorem dX11_image_9 : decode cX11_image 9 = .ok (.invokestatic 75, 3) := by decide +kernel
theorem dX11_image_12 : decode cX11_image 12 = .ok (.ifCond .ne 5, 3) := by decide +kernel
theorem dX11_image_15 : decode cX11_image 15 = .ok (.iconst (-1), 1) := by decide +kernel
theorem dX11_image_16 : decode cX11_image 16 = .ok (.ireturn, 1) := by decide +kernel
theorem dX11_image_17 : decode cX11_image 17 = .ok (.aload_n 0, 1) := by decide +kernel
theorem dX11_image_18 : decode cX11_image 18 = .ok (.getfield 37, 3) := by decide +kernel
theorem dX11_image_21 : decode cX11_image 21 = .ok (.iload_n 1, 1) := by decide +kernel
theorem dX11_image_22 : decode cX11_image 22 = .ok (.aaload, 1) := by decide +kernel
theorem dX11_image_23 : decode cX11_image 23 = .ok (.aload_n 0, 1) := by decide +kernel
theorem dX11_image_24 : decode cX11_image 24 = .ok (.getfield 26, 3) := by decide +kernel
theorem dX11_image_27 : decode cX11_image 27 = .ok (.invokevirtual 312, 3) := by decide +kernel
theorem dX11_image_30 : decode cX11_image 30 = .ok (.aload_n 0, 1) := by decide +kernel
theorem dX11_image_31 : decode cX11_image 31 = .ok (.getfield 41, 3) := by decide +kernel
theorem dX11_image_34 : decode cX11_image 34 = .ok (.iload_n 1, 1) := by decide +kernel
theorem dX11_image_35 : decode cX11_image 35 = .ok (.iconst 1, 1) := by decide +kernel
theorem dX11_image_36 : decode cX11_image 36 = .ok (.bastore, 1) := by decide +kernel
theorem dX11_image_37 : decode cX11_image 37 = .ok (.aload_n 0, 1) := by decide +kernel
theorem dX11_image_38 : decode cX11_image 38 = .ok (.getfield 26, 3) := by decide +kernel
theorem dX11_image_41 : decode cX11_image 41 = .ok (.getfield 95, 3) := by decide +kernel
theorem dX11_image_44 : decode cX11_image 44 = .ok (.getfield 145, 3) := by decide +kernel
theorem dX11_image_47 : decode cX11_image 47 = .ok (.ireturn, 1) := by decide +kernel
theorem dX11_back_0 : decode cX11_back 0 = .ok (.iload_n 1, 1) := by decide +kernel
theorem dX11_back_1 : decode cX11_back 1 = .ok (.iconst 0, 1) := by decide +kernel
theorem dX11_back_2 : decode cX11_back 2 = .ok (.aload_n 0, 1) := by decide +kernel
theorem dX11_back_3 : decode cX11_back 3 = .ok (.getfield 37, 3) := by decide +kernel
theorem dX11_back_6 : decode cX11_back 6 = .ok (.arraylength, 1) := by decide +kernel
theorem dX11_back_7 : decode cX11_back 7 = .ok (.iconst 1, 1) := by decide +kernel
theorem dX11_back_8 : decode cX11_back 8 = .ok (.isub, 1) := by decide +kernel
theorem dX11_back_9 : decode cX11_back 9 = .ok (.invokestatic 75, 3) := by decide +kernel
theorem dX11_back_12 : decode cX11_back 12 = .ok (.ifCond .eq 12, 3) := by decide +kernel
theorem dX11_back_15 : decode cX11_back 15 = .ok (.aload_n 0, 1) := by decide +kernel
theorem dX11_back_16 : decode cX11_back 16 = .ok (.getfield 41, 3) := by decide +kernel
theorem dX11_back_19 : decode cX11_back 19 = .ok (.iload_n 1, 1) := by decide +kernel
theorem dX11_back_20 : decode cX11_back 20 = .ok (.baload, 1) := by decide +kernel
theorem dX11_back_21 : decode cX11_back 21 = .ok (.ifCond .ne 5, 3) := by decide +kernel
theorem dX11_back_24 : decode cX11_back 24 = .ok (.iconst (-1), 1) := by decide +kernel
theorem dX11_back_25 : decode cX11_back 25 = .ok (.ireturn, 1) := by decide +kernel
theorem dX11_back_26 : decode cX11_back 26 = .ok (.aload_n 0, 1) := by decide +kernel
theorem dX11_back_27 : decode cX11_back 27 = .ok (.getfield 26, 3) := by decide +kernel
theorem dX11_back_30 : decode cX11_back 30 = .ok (.aload_n 0, 1) := by decide +kernel
theorem dX11_back_31 : decode cX11_back 31 = .ok (.getfield 37, 3) := by decide +kernel
theorem dX11_back_34 : decode cX11_back 34 = .ok (.iload_n 1, 1) := by decide +kernel
theorem dX11_back_35 : decode cX11_back 35 = .ok (.aaload, 1) := by decide +kernel
theorem dX11_back_36 : decode cX11_back 36 = .ok (.invokevirtual 312, 3) := by decide +kernel
theorem dX11_back_39 : decode cX11_back 39 = .ok (.aload_n 0, 1) := by decide +kernel
theorem dX11_back_40 : decode cX11_back 40 = .ok (.invokevirtual 92, 3) := by decide +kernel
theorem dX11_back_43 : decode cX11_back 43 = .ok (.aload_n 0, 1) := by decide +kernel
theorem dX11_back_44 : decode cX11_back 44 = .ok (.getfield 26, 3) := by decide +kernel
theorem dX11_back_47 : decode cX11_back 47 = .ok (.getfield 95, 3) := by decide +kernel
theorem dX11_back_50 : decode cX11_back 50 = .ok (.getfield 145, 3) := by decide +kernel
theorem dX11_back_53 : decode cX11_back 53 = .ok (.ireturn, 1) := by decide +kernel
theorem dX11_isWithin_0 : decode cX11_isWithin 0 = .ok (.iload_n 0, 1) := by decide +kernel
theorem dX11_isWithin_1 : decode cX11_isWithin 1 = .ok (.iload_n 1, 1) := by decide +kernel
theorem dX11_isWithin_2 : decode cX11_isWithin 2 = .ok (.if_icmp .lt 12, 3) := by decide +kernel
theorem dX11_isWithin_5 : decode cX11_isWithin 5 = .ok (.iload_n 0, 1) := by decide +kernel
theorem dX11_isWithin_6 : decode cX11_isWithin 6 = .ok (.iload_n 2, 1) := by decide +kernel
theorem dX11_isWithin_7 : decode cX11_isWithin 7 = .ok (.if_icmp .gt 7, 3) := by decide +kernel
theorem dX11_isWithin_10 : decode cX11_isWithin 10 = .ok (.iconst 1, 1) := by decide +kernel
theorem dX11_isWithin_11 : decode cX11_isWithin 11 = .ok (.goto 4, 3) := by decide +kernel
theorem dX11_isWithin_14 : decode cX11_isWithin 14 = .ok (.iconst 0, 1) := by decide +kernel
theorem dX11_isWithin_15 : decode cX11_isWithin 15 = .ok (.ireturn, 1) := by decide +kernel
theorem dX11_ruleInForce_0 : decode cX11_ruleInForce 0 = .ok (.aload_n 0, 1) := by decide +kernel
theorem dX11_ruleInForce_1 : decode cX11_ruleInForce 1 = .ok (.getfield 26, 3) := by decide +kernel
theorem dX11_ruleInForce_4 : decode cX11_ruleInForce 4 = .ok (.getfield 109, 3) := by decide +kernel
theorem dX11_ruleInForce_7 : decode cX11_ruleInForce 7 = .ok (.iconst 0, 1) := by decide +kernel
theorem dX11_ruleInForce_8 : decode cX11_ruleInForce 8 = .ok (.aload_n 0, 1) := by decide +kernel
theorem dX11_ruleInForce_9 : decode cX11_ruleInForce 9 = .ok (.getfield 101, 3) := by decide +kernel
theorem dX11_ruleInForce_12 : decode cX11_ruleInForce 12 = .ok (.iconst 1, 1) := by decide +kernel
theorem dX11_ruleInForce_13 : decode cX11_ruleInForce 13 = .ok (.isub, 1) := by decide +kernel
theorem dX11_ruleInForce_14 : decode cX11_ruleInForce 14 = .ok (.invokestatic 75, 3) := by decide +kernel
theorem dX11_ruleInForce_17 : decode cX11_ruleInForce 17 = .ok (.ifCond .eq 18, 3) := by decide +kernel
theorem dX11_ruleInForce_20 : decode cX11_ruleInForce 20 = .ok (.aload_n 0, 1) := by decide +kernel
theorem dX11_ruleInForce_21 : decode cX11_ruleInForce 21 = .ok (.getfield 18, 3) := by decide +kernel
theorem dX11_ruleInForce_24 : decode cX11_ruleInForce 24 = .ok (.aload_n 0, 1) := by decide +kernel
theorem dX11_ruleInForce_25 : decode cX11_ruleInForce 25 = .ok (.getfield 26, 3) := by decide +kernel
theorem dX11_ruleInForce_28 : decode cX11_ruleInForce 28 = .ok (.getfield 109, 3) := by decide +kernel
theorem dX11_ruleInForce_31 : decode cX11_ruleInForce 31 = .ok (.aaload, 1) := by decide +kernel
theorem dX11_ruleInForce_32 : decode cX11_ruleInForce 32 = .ok (.goto 4, 3) := by decide +kernel
theorem dX11_ruleInForce_35 : decode cX11_ruleInForce 35 = .ok (.aconst_null, 1) := by decide +kernel
theorem dX11_ruleInForce_36 : decode cX11_ruleInForce 36 = .ok (.areturn, 1) := by decide +kernel
theorem dX11_keepPast_0 : decode cX11_keepPast 0 = .ok (.aload_n 0, 1) := by decide +kernel
theorem dX11_keepPast_1 : decode cX11_keepPast 1 = .ok (.getfield 45, 3) := by decide +kernel
theorem dX11_keepPast_4 : decode cX11_keepPast 4 = .ok (.aload_n 0, 1) := by decide +kernel
theorem dX11_keepPast_5 : decode cX11_keepPast 5 = .ok (.getfield 194, 3) := by decide +kernel
theorem dX11_keepPast_8 : decode cX11_keepPast 8 = .ok (.aaload, 1) := by decide +kernel
theorem dX11_keepPast_9 : decode cX11_keepPast 9 = .ok (.aload_n 0, 1) := by decide +kernel
theorem dX11_keepPast_10 : decode cX11_keepPast 10 = .ok (.getfield 26, 3) := by decide +kernel
theorem dX11_keepPast_13 : decode cX11_keepPast 13 = .ok (.getfield 95, 3) := by decide +kernel
theorem dX11_keepPast_16 : decode cX11_keepPast 16 = .ok (.invokevirtual 203, 3) := by decide +kernel
theorem dX11_keepPast_19 : decode cX11_keepPast 19 = .ok (.aload_n 0, 1) := by decide +kernel
theorem dX11_keepPast_20 : decode cX11_keepPast 20 = .ok (.aload_n 0, 1) := by decide +kernel
theorem dX11_keepPast_21 : decode cX11_keepPast 21 = .ok (.getfield 194, 3) := by decide +kernel
theorem dX11_keepPast_24 : decode cX11_keepPast 24 = .ok (.iconst 1, 1) := by decide +kernel
theorem dX11_keepPast_25 : decode cX11_keepPast 25 = .ok (.iadd, 1) := by decide +kernel
theorem dX11_keepPast_26 : decode cX11_keepPast 26 = .ok (.bipush 20, 2) := by decide +kernel
theorem dX11_keepPast_28 : decode cX11_keepPast 28 = .ok (.irem, 1) := by decide +kernel
theorem dX11_keepPast_29 : decode cX11_keepPast 29 = .ok (.putfield 194, 3) := by decide +kernel
theorem dX11_keepPast_32 : decode cX11_keepPast 32 = .ok (.aload_n 0, 1) := by decide +kernel
theorem dX11_keepPast_33 : decode cX11_keepPast 33 = .ok (.aload_n 0, 1) := by decide +kernel
theorem dX11_keepPast_34 : decode cX11_keepPast 34 = .ok (.getfield 191, 3) := by decide +kernel
theorem dX11_keepPast_37 : decode cX11_keepPast 37 = .ok (.iconst 1, 1) := by decide +kernel
theorem dX11_keepPast_38 : decode cX11_keepPast 38 = .ok (.iadd, 1) := by decide +kernel
theorem dX11_keepPast_39 : decode cX11_keepPast 39 = .ok (.bipush 20, 2) := by decide +kernel
theorem dX11_keepPast_41 : decode cX11_keepPast 41 = .ok (.invokestatic 315, 3) := by decide +kernel
theorem dX11_keepPast_44 : decode cX11_keepPast 44 = .ok (.putfield 191, 3) := by decide +kernel
theorem dX11_keepPast_47 : decode cX11_keepPast 47 = .ok (.aload_n 0, 1) := by decide +kernel
theorem dX11_keepPast_48 : decode cX11_keepPast 48 = .ok (.getfield 52, 3) := by decide +kernel
theorem dX11_keepPast_51 : decode cX11_keepPast 51 = .ok (.invokevirtual 112, 3) := by decide +kernel
theorem dX11_keepPast_54 : decode cX11_keepPast 54 = .ok (.return_, 1) := by decide +kernel
theorem dX11_forgetPast_0 : decode cX11_forgetPast 0 = .ok (.aload_n 0, 1) := by decide +kernel
theorem dX11_forgetPast_1 : decode cX11_forgetPast 1 = .ok (.iconst 0, 1) := by decide +kernel
theorem dX11_forgetPast_2 : decode cX11_forgetPast 2 = .ok (.putfield 191, 3) := by decide +kernel
theorem dX11_forgetPast_5 : decode cX11_forgetPast 5 = .ok (.aload_n 0, 1) := by decide +kernel
theorem dX11_forgetPast_6 : decode cX11_forgetPast 6 = .ok (.getfield 52, 3) := by decide +kernel
theorem dX11_forgetPast_9 : decode cX11_forgetPast 9 = .ok (.invokevirtual 112, 3) := by decide +kernel
theorem dX11_forgetPast_12 : decode cX11_forgetPast 12 = .ok (.return_, 1) := by decide +kernel
