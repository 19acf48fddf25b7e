theorem dX0_init_0 : decode cX0_init 0 = .ok (.aload_n 0, 1) := by decide +kernel
theorem dX0_init_1 : decode cX0_init 1 = .ok (.invokespecial 3, 3) := by decide +kernel
theorem dX0_init_4 : decode cX0_init 4 = .ok (.aload_n 0, 1) := by decide +kernel
theorem dX0_init_5 : decode cX0_init 5 = .ok (.new 9, 3) := by decide +kernel
theorem dX0_init_8 : decode cX0_init 8 = .ok (.dup, 1) := by decide +kernel
theorem dX0_init_9 : decode cX0_init 9 = .ok (.invokespecial 11, 3) := by decide +kernel
theorem dX0_init_12 : decode cX0_init 12 = .ok (.putfield 12, 3) := by decide +kernel
theorem dX0_init_15 : decode cX0_init 15 = .ok (.aload_n 0, 1) := by decide +kernel
theorem dX0_init_16 : decode cX0_init 16 = .ok (.new 9, 3) := by decide +kernel
theorem dX0_init_19 : decode cX0_init 19 = .ok (.dup, 1) := by decide +kernel
theorem dX0_init_20 : decode cX0_init 20 = .ok (.invokespecial 11, 3) := by decide +kernel
theorem dX0_init_23 : decode cX0_init 23 = .ok (.putfield 18, 3) := by decide +kernel
theorem dX0_init_26 : decode cX0_init 26 = .ok (.aload_n 0, 1) := by decide +kernel
theorem dX0_init_27 : decode cX0_init 27 = .ok (.iconst (-1), 1) := by decide +kernel
theorem dX0_init_28 : decode cX0_init 28 = .ok (.putfield 21, 3) := by decide +kernel
theorem dX0_init_31 : decode cX0_init 31 = .ok (.aload_n 0, 1) := by decide +kernel
theorem dX0_init_32 : decode cX0_init 32 = .ok (.bipush 10, 2) := by decide +kernel
theorem dX0_init_34 : decode cX0_init 34 = .ok (.newarray .int, 2) := by decide +kernel
theorem dX0_init_36 : decode cX0_init 36 = .ok (.putfield 25, 3) := by decide +kernel
theorem dX0_init_39 : decode cX0_init 39 = .ok (.aload_n 0, 1) := by decide +kernel
theorem dX0_init_40 : decode cX0_init 40 = .ok (.bipush 10, 2) := by decide +kernel
theorem dX0_init_42 : decode cX0_init 42 = .ok (.newarray .int, 2) := by decide +kernel
theorem dX0_init_44 : decode cX0_init 44 = .ok (.putfield 29, 3) := by decide +kernel
theorem dX0_init_47 : decode cX0_init 47 = .ok (.return_, 1) := by decide +kernel
theorem dX0_open_0 : decode cX0_open 0 = .ok (.aload_n 0, 1) := by decide +kernel
theorem dX0_open_1 : decode cX0_open 1 = .ok (.getfield 12, 3) := by decide +kernel
theorem dX0_open_4 : decode cX0_open 4 = .ok (.aload_n 1, 1) := by decide +kernel
theorem dX0_open_5 : decode cX0_open 5 = .ok (.invokevirtual 32, 3) := by decide +kernel
theorem dX0_open_8 : decode cX0_open 8 = .ok (.aload_n 0, 1) := by decide +kernel
theorem dX0_open_9 : decode cX0_open 9 = .ok (.getfield 18, 3) := by decide +kernel
theorem dX0_open_12 : decode cX0_open 12 = .ok (.aload_n 1, 1) := by decide +kernel
theorem dX0_open_13 : decode cX0_open 13 = .ok (.invokevirtual 32, 3) := by decide +kernel
theorem dX0_open_16 : decode cX0_open 16 = .ok (.aload_n 0, 1) := by decide +kernel
theorem dX0_open_17 : decode cX0_open 17 = .ok (.iconst 0, 1) := by decide +kernel
theorem dX0_open_18 : decode cX0_open 18 = .ok (.putfield 36, 3) := by decide +kernel
theorem dX0_open_21 : decode cX0_open 21 = .ok (.return_, 1) := by decide +kernel
theorem dX0_addNote_0 : decode cX0_addNote 0 = .ok (.aload_n 0, 1) := by decide +kernel
theorem dX0_addNote_1 : decode cX0_addNote 1 = .ok (.getfield 36, 3) := by decide +kernel
theorem dX0_addNote_4 : decode cX0_addNote 4 = .ok (.bipush 10, 2) := by decide +kernel
theorem dX0_addNote_6 : decode cX0_addNote 6 = .ok (.if_icmp .ge 33, 3) := by decide +kernel
theorem dX0_addNote_9 : decode cX0_addNote 9 = .ok (.aload_n 0, 1) := by decide +kernel
theorem dX0_addNote_10 : decode cX0_addNote 10 = .ok (.getfield 25, 3) := by decide +kernel
theorem dX0_addNote_13 : decode cX0_addNote 13 = .ok (.aload_n 0, 1) := by decide +kernel
theorem dX0_addNote_14 : decode cX0_addNote 14 = .ok (.getfield 36, 3) := by decide +kernel
theorem dX0_addNote_17 : decode cX0_addNote 17 = .ok (.iload_n 1, 1) := by decide +kernel
theorem dX0_addNote_18 : decode cX0_addNote 18 = .ok (.iastore, 1) := by decide +kernel
theorem dX0_addNote_19 : decode cX0_addNote 19 = .ok (.aload_n 0, 1) := by decide +kernel
theorem dX0_addNote_20 : decode cX0_addNote 20 = .ok (.getfield 29, 3) := by decide +kernel
theorem dX0_addNote_23 : decode cX0_addNote 23 = .ok (.aload_n 0, 1) := by decide +kernel
theorem dX0_addNote_24 : decode cX0_addNote 24 = .ok (.getfield 36, 3) := by decide +kernel
theorem dX0_addNote_27 : decode cX0_addNote 27 = .ok (.iload_n 2, 1) := by decide +kernel
theorem dX0_addNote_28 : decode cX0_addNote 28 = .ok (.iastore, 1) := by decide +kernel
theorem dX0_addNote_29 : decode cX0_addNote 29 = .ok (.aload_n 0, 1) := by decide +kernel
theorem dX0_addNote_30 : decode cX0_addNote 30 = .ok (.dup, 1) := by decide +kernel
theorem dX0_addNote_31 : decode cX0_addNote 31 = .ok (.getfield 36, 3) := by decide +kernel
theorem dX0_addNote_34 : decode cX0_addNote 34 = .ok (.iconst 1, 1) := by decide +kernel
theorem dX0_addNote_35 : decode cX0_addNote 35 = .ok (.iadd, 1) := by decide +kernel
theorem dX0_addNote_36 : decode cX0_addNote 36 = .ok (.putfield 36, 3) := by decide +kernel
theorem dX0_addNote_39 : decode cX0_addNote 39 = .ok (.return_, 1) := by decide +kernel
theorem dX0_copyFrom_0 : decode cX0_copyFrom 0 = .ok (.aload_n 0, 1) := by decide +kernel
theorem dX0_copyFrom_1 : decode cX0_copyFrom 1 = .ok (.getfield 12, 3) := by decide +kernel
theorem dX0_copyFrom_4 : decode cX0_copyFrom 4 = .ok (.aload_n 1, 1) := by decide +kernel
theorem dX0_copyFrom_5 : decode cX0_copyFrom 5 = .ok (.getfield 12, 3) := by decide +kernel
theorem dX0_copyFrom_8 : decode cX0_copyFrom 8 = .ok (.invokevirtual 32, 3) := by decide +kernel
theorem dX0_copyFrom_11 : decode cX0_copyFrom 11 = .ok (.aload_n 0, 1) := by decide +kernel
theorem dX0_copyFrom_12 : decode cX0_copyFrom 12 = .ok (.getfield 18, 3) := by decide +kernel
theorem dX0_copyFrom_15 : decode cX0_copyFrom 15 = .ok (.aload_n 1, 1) := by decide +kernel
theorem dX0_copyFrom_16 : decode cX0_copyFrom 16 = .ok (.getfield 18, 3) := by decide +kernel
theorem dX0_copyFrom_19 : decode cX0_copyFrom 19 = .ok (.invokevirtual 32, 3) := by decide +kernel
theorem dX0_copyFrom_22 : decode cX0_copyFrom 22 = .ok (.aload_n 0, 1) := by decide +kernel
theorem dX0_copyFrom_23 : decode cX0_copyFrom 23 = .ok (.aload_n 1, 1) := by decide +kernel
theorem dX0_copyFrom_24 : decode cX0_copyFrom 24 = .ok (.getfield 21, 3) := by decide +kernel
theorem dX0_copyFrom_27 : decode cX0_copyFrom 27 = .ok (.putfield 21, 3) := by decide +kernel
theorem dX0_copyFrom_30 : decode cX0_copyFrom 30 = .ok (.aload_n 0, 1) := by decide +kernel
theorem dX0_copyFrom_31 : decode cX0_copyFrom 31 = .ok (.aload_n 1, 1) := by decide +kernel
theorem dX0_copyFrom_32 : decode cX0_copyFrom 32 = .ok (.getfield 39, 3) := by decide +kernel
theorem dX0_copyFrom_35 : decode cX0_copyFrom 35 = .ok (.putfield 39, 3) := by decide +kernel
theorem dX0_copyFrom_38 : decode cX0_copyFrom 38 = .ok (.aload_n 1, 1) := by decide +kernel
theorem dX0_copyFrom_39 : decode cX0_copyFrom 39 = .ok (.getfield 25, 3) := by decide +kernel
theorem dX0_copyFrom_42 : decode cX0_copyFrom 42 = .ok (.iconst 0, 1) := by decide +kernel
theorem dX0_copyFrom_43 : decode cX0_copyFrom 43 = .ok (.aload_n 0, 1) := by decide +kernel
theorem dX0_copyFrom_44 : decode cX0_copyFrom 44 = .ok (.getfield 25, 3) := by decide +kernel
theorem dX0_copyFrom_47 : decode cX0_copyFrom 47 = .ok (.iconst 0, 1) := by decide +kernel
theorem dX0_copyFrom_48 : decode cX0_copyFrom 48 = .ok (.bipush 10, 2) := by decide +kernel
theorem dX0_copyFrom_50 : decode cX0_copyFrom 50 = .ok (.invokestatic 42, 3) := by decide +kernel
theorem dX0_copyFrom_53 : decode cX0_copyFrom 53 = .ok (.aload_n 1, 1) := by decide +kernel
theorem dX0_copyFrom_54 : decode cX0_copyFrom 54 = .ok (.getfield 29, 3) := by decide +kernel
theorem dX0_copyFrom_57 : decode cX0_copyFrom 57 = .ok (.iconst 0, 1) := by decide +kernel
theorem dX0_copyFrom_58 : decode cX0_copyFrom 58 = .ok (.aload_n 0, 1) := by decide +kernel
theorem dX0_copyFrom_59 : decode cX0_copyFrom 59 = .ok (.getfield 29, 3) := by decide +kernel
theorem dX0_copyFrom_62 : decode cX0_copyFrom 62 = .ok (.iconst 0, 1) := by decide +kernel
theorem dX0_copyFrom_63 : decode cX0_copyFrom 63 = .ok (.bipush 10, 2) := by decide +kernel
theorem dX0_copyFrom_65 : decode cX0_copyFrom 65 = .ok (.invokestatic 42, 3) := by decide +kernel
theorem dX0_copyFrom_68 : decode cX0_copyFrom 68 = .ok (.aload_n 0, 1) := by decide +kernel
theorem dX0_copyFrom_69 : decode cX0_copyFrom 69 = .ok (.aload_n 1, 1) := by decide +kernel
theorem dX0_copyFrom_70 : decode cX0_copyFrom 70 = .ok (.getfield 36, 3) := by decide +kernel
theorem dX0_copyFrom_73 : decode cX0_copyFrom 73 = .ok (.putfield 36, 3) := by decide +kernel
theorem dX0_copyFrom_76 : decode cX0_copyFrom 76 = .ok (.return_, 1) := by decide +kernel
