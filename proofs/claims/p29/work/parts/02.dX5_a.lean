theorem dX5_init_0 : decode cX5_init 0 = .ok (.aload_n 0, 1) := by decide +kernel
theorem dX5_init_1 : decode cX5_init 1 = .ok (.invokespecial 3, 3) := by decide +kernel
theorem dX5_init_4 : decode cX5_init 4 = .ok (.aload_n 0, 1) := by decide +kernel
theorem dX5_init_5 : decode cX5_init 5 = .ok (.iconst (-1), 1) := by decide +kernel
theorem dX5_init_6 : decode cX5_init 6 = .ok (.putfield 9, 3) := by decide +kernel
theorem dX5_init_9 : decode cX5_init 9 = .ok (.return_, 1) := by decide +kernel
theorem dX5_copyFrom_0 : decode cX5_copyFrom 0 = .ok (.aload_n 0, 1) := by decide +kernel
theorem dX5_copyFrom_1 : decode cX5_copyFrom 1 = .ok (.aload_n 1, 1) := by decide +kernel
theorem dX5_copyFrom_2 : decode cX5_copyFrom 2 = .ok (.getfield 15, 3) := by decide +kernel
theorem dX5_copyFrom_5 : decode cX5_copyFrom 5 = .ok (.putfield 15, 3) := by decide +kernel
theorem dX5_copyFrom_8 : decode cX5_copyFrom 8 = .ok (.aload_n 0, 1) := by decide +kernel
theorem dX5_copyFrom_9 : decode cX5_copyFrom 9 = .ok (.aload_n 1, 1) := by decide +kernel
theorem dX5_copyFrom_10 : decode cX5_copyFrom 10 = .ok (.getfield 18, 3) := by decide +kernel
theorem dX5_copyFrom_13 : decode cX5_copyFrom 13 = .ok (.putfield 18, 3) := by decide +kernel
theorem dX5_copyFrom_16 : decode cX5_copyFrom 16 = .ok (.aload_n 0, 1) := by decide +kernel
theorem dX5_copyFrom_17 : decode cX5_copyFrom 17 = .ok (.aload_n 1, 1) := by decide +kernel
theorem dX5_copyFrom_18 : decode cX5_copyFrom 18 = .ok (.getfield 9, 3) := by decide +kernel
theorem dX5_copyFrom_21 : decode cX5_copyFrom 21 = .ok (.putfield 9, 3) := by decide +kernel
theorem dX5_copyFrom_24 : decode cX5_copyFrom 24 = .ok (.aload_n 0, 1) := by decide +kernel
theorem dX5_copyFrom_25 : decode cX5_copyFrom 25 = .ok (.aload_n 1, 1) := by decide +kernel
theorem dX5_copyFrom_26 : decode cX5_copyFrom 26 = .ok (.getfield 21, 3) := by decide +kernel
theorem dX5_copyFrom_29 : decode cX5_copyFrom 29 = .ok (.putfield 21, 3) := by decide +kernel
theorem dX5_copyFrom_32 : decode cX5_copyFrom 32 = .ok (.aload_n 0, 1) := by decide +kernel
theorem dX5_copyFrom_33 : decode cX5_copyFrom 33 = .ok (.aload_n 1, 1) := by decide +kernel
theorem dX5_copyFrom_34 : decode cX5_copyFrom 34 = .ok (.getfield 24, 3) := by decide +kernel
theorem dX5_copyFrom_37 : decode cX5_copyFrom 37 = .ok (.putfield 24, 3) := by decide +kernel
theorem dX5_copyFrom_40 : decode cX5_copyFrom 40 = .ok (.aload_n 0, 1) := by decide +kernel
theorem dX5_copyFrom_41 : decode cX5_copyFrom 41 = .ok (.aload_n 1, 1) := by decide +kernel
theorem dX5_copyFrom_42 : decode cX5_copyFrom 42 = .ok (.getfield 27, 3) := by decide +kernel
theorem dX5_copyFrom_45 : decode cX5_copyFrom 45 = .ok (.putfield 27, 3) := by decide +kernel
theorem dX5_copyFrom_48 : decode cX5_copyFrom 48 = .ok (.return_, 1) := by decide +kernel
theorem dX5_unload_0 : decode cX5_unload 0 = .ok (.aload_n 0, 1) := by decide +kernel
theorem dX5_unload_1 : decode cX5_unload 1 = .ok (.iconst (-1), 1) := by decide +kernel
theorem dX5_unload_2 : decode cX5_unload 2 = .ok (.putfield 9, 3) := by decide +kernel
theorem dX5_unload_5 : decode cX5_unload 5 = .ok (.aload_n 0, 1) := by decide +kernel
theorem dX5_unload_6 : decode cX5_unload 6 = .ok (.iconst 0, 1) := by decide +kernel
theorem dX5_unload_7 : decode cX5_unload 7 = .ok (.putfield 24, 3) := by decide +kernel
theorem dX5_unload_10 : decode cX5_unload 10 = .ok (.aload_n 0, 1) := by decide +kernel
theorem dX5_unload_11 : decode cX5_unload 11 = .ok (.iconst 0, 1) := by decide +kernel
theorem dX5_unload_12 : decode cX5_unload 12 = .ok (.putfield 27, 3) := by decide +kernel
theorem dX5_unload_15 : decode cX5_unload 15 = .ok (.return_, 1) := by decide +kernel
theorem dX5_detail_0 : decode cX5_detail 0 = .ok (.iload_n 1, 1) := by decide +kernel
theorem dX5_detail_1 : decode cX5_detail 1 = .ok (.tableswitch 77 0 5 #[39, 44, 49, 54, 59, 64], 39) := by decide +kernel
theorem dX5_detail_40 : decode cX5_detail 40 = .ok (.aload_n 0, 1) := by decide +kernel
theorem dX5_detail_41 : decode cX5_detail 41 = .ok (.getfield 15, 3) := by decide +kernel
theorem dX5_detail_44 : decode cX5_detail 44 = .ok (.ireturn, 1) := by decide +kernel
theorem dX5_detail_45 : decode cX5_detail 45 = .ok (.aload_n 0, 1) := by decide +kernel
theorem dX5_detail_46 : decode cX5_detail 46 = .ok (.getfield 18, 3) := by decide +kernel
theorem dX5_detail_49 : decode cX5_detail 49 = .ok (.ireturn, 1) := by decide +kernel
theorem dX5_detail_50 : decode cX5_detail 50 = .ok (.aload_n 0, 1) := by decide +kernel
theorem dX5_detail_51 : decode cX5_detail 51 = .ok (.getfield 9, 3) := by decide +kernel
theorem dX5_detail_54 : decode cX5_detail 54 = .ok (.ireturn, 1) := by decide +kernel
theorem dX5_detail_55 : decode cX5_detail 55 = .ok (.aload_n 0, 1) := by decide +kernel
theorem dX5_detail_56 : decode cX5_detail 56 = .ok (.getfield 21, 3) := by decide +kernel
theorem dX5_detail_59 : decode cX5_detail 59 = .ok (.ireturn, 1) := by decide +kernel
theorem dX5_detail_60 : decode cX5_detail 60 = .ok (.aload_n 0, 1) := by decide +kernel
theorem dX5_detail_61 : decode cX5_detail 61 = .ok (.getfield 24, 3) := by decide +kernel
theorem dX5_detail_64 : decode cX5_detail 64 = .ok (.ireturn, 1) := by decide +kernel
theorem dX5_detail_65 : decode cX5_detail 65 = .ok (.aload_n 0, 1) := by decide +kernel
theorem dX5_detail_66 : decode cX5_detail 66 = .ok (.getfield 27, 3) := by decide +kernel
theorem dX5_detail_69 : decode cX5_detail 69 = .ok (.ifCond .eq 7, 3) := by decide +kernel
theorem dX5_detail_72 : decode cX5_detail 72 = .ok (.iconst 1, 1) := by decide +kernel
theorem dX5_detail_73 : decode cX5_detail 73 = .ok (.goto 4, 3) := by decide +kernel
theorem dX5_detail_76 : decode cX5_detail 76 = .ok (.iconst 0, 1) := by decide +kernel
theorem dX5_detail_77 : decode cX5_detail 77 = .ok (.ireturn, 1) := by decide +kernel
theorem dX5_detail_78 : decode cX5_detail 78 = .ok (.bipush (-2), 2) := by decide +kernel
theorem dX5_detail_80 : decode cX5_detail 80 = .ok (.ireturn, 1) := by decide +kernel
