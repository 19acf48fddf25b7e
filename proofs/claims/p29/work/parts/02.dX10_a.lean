theorem dX10_init_0 : decode cX10_init 0 = .ok (.aload_n 0, 1) := by decide +kernel
theorem dX10_init_1 : decode cX10_init 1 = .ok (.invokespecial 3, 3) := by decide +kernel
theorem dX10_init_4 : decode cX10_init 4 = .ok (.aload_n 0, 1) := by decide +kernel
theorem dX10_init_5 : decode cX10_init 5 = .ok (.bipush 12, 2) := by decide +kernel
theorem dX10_init_7 : decode cX10_init 7 = .ok (.newarray .int, 2) := by decide +kernel
theorem dX10_init_9 : decode cX10_init 9 = .ok (.putfield 11, 3) := by decide +kernel
theorem dX10_init_12 : decode cX10_init 12 = .ok (.aload_n 0, 1) := by decide +kernel
theorem dX10_init_13 : decode cX10_init 13 = .ok (.iconst 3, 1) := by decide +kernel
theorem dX10_init_14 : decode cX10_init 14 = .ok (.anewarray 15, 3) := by decide +kernel
theorem dX10_init_17 : decode cX10_init 17 = .ok (.putfield 17, 3) := by decide +kernel
theorem dX10_init_20 : decode cX10_init 20 = .ok (.aload_n 0, 1) := by decide +kernel
theorem dX10_init_21 : decode cX10_init 21 = .ok (.iconst 4, 1) := by decide +kernel
theorem dX10_init_22 : decode cX10_init 22 = .ok (.anewarray 21, 3) := by decide +kernel
theorem dX10_init_25 : decode cX10_init 25 = .ok (.putfield 23, 3) := by decide +kernel
theorem dX10_init_28 : decode cX10_init 28 = .ok (.iconst 0, 1) := by decide +kernel
theorem dX10_init_29 : decode cX10_init 29 = .ok (.istore_n 1, 1) := by decide +kernel
theorem dX10_init_30 : decode cX10_init 30 = .ok (.iload_n 1, 1) := by decide +kernel
theorem dX10_init_31 : decode cX10_init 31 = .ok (.iconst 3, 1) := by decide +kernel
theorem dX10_init_32 : decode cX10_init 32 = .ok (.if_icmp .ge 22, 3) := by decide +kernel
theorem dX10_init_35 : decode cX10_init 35 = .ok (.aload_n 0, 1) := by decide +kernel
theorem dX10_init_36 : decode cX10_init 36 = .ok (.getfield 17, 3) := by decide +kernel
theorem dX10_init_39 : decode cX10_init 39 = .ok (.iload_n 1, 1) := by decide +kernel
theorem dX10_init_40 : decode cX10_init 40 = .ok (.new 15, 3) := by decide +kernel
theorem dX10_init_43 : decode cX10_init 43 = .ok (.dup, 1) := by decide +kernel
theorem dX10_init_44 : decode cX10_init 44 = .ok (.invokespecial 27, 3) := by decide +kernel
theorem dX10_init_47 : decode cX10_init 47 = .ok (.aastore, 1) := by decide +kernel
theorem dX10_init_48 : decode cX10_init 48 = .ok (.iinc 1 1, 3) := by decide +kernel
theorem dX10_init_51 : decode cX10_init 51 = .ok (.goto (-21), 3) := by decide +kernel
theorem dX10_init_54 : decode cX10_init 54 = .ok (.iconst 0, 1) := by decide +kernel
theorem dX10_init_55 : decode cX10_init 55 = .ok (.istore_n 1, 1) := by decide +kernel
theorem dX10_init_56 : decode cX10_init 56 = .ok (.iload_n 1, 1) := by decide +kernel
theorem dX10_init_57 : decode cX10_init 57 = .ok (.iconst 4, 1) := by decide +kernel
theorem dX10_init_58 : decode cX10_init 58 = .ok (.if_icmp .ge 22, 3) := by decide +kernel
theorem dX10_init_61 : decode cX10_init 61 = .ok (.aload_n 0, 1) := by decide +kernel
theorem dX10_init_62 : decode cX10_init 62 = .ok (.getfield 23, 3) := by decide +kernel
theorem dX10_init_65 : decode cX10_init 65 = .ok (.iload_n 1, 1) := by decide +kernel
theorem dX10_init_66 : decode cX10_init 66 = .ok (.new 21, 3) := by decide +kernel
theorem dX10_init_69 : decode cX10_init 69 = .ok (.dup, 1) := by decide +kernel
theorem dX10_init_70 : decode cX10_init 70 = .ok (.invokespecial 28, 3) := by decide +kernel
theorem dX10_init_73 : decode cX10_init 73 = .ok (.aastore, 1) := by decide +kernel
theorem dX10_init_74 : decode cX10_init 74 = .ok (.iinc 1 1, 3) := by decide +kernel
theorem dX10_init_77 : decode cX10_init 77 = .ok (.goto (-21), 3) := by decide +kernel
theorem dX10_init_80 : decode cX10_init 80 = .ok (.return_, 1) := by decide +kernel
theorem dX10_copyFrom_0 : decode cX10_copyFrom 0 = .ok (.aload_n 0, 1) := by decide +kernel
theorem dX10_copyFrom_1 : decode cX10_copyFrom 1 = .ok (.aload_n 1, 1) := by decide +kernel
theorem dX10_copyFrom_2 : decode cX10_copyFrom 2 = .ok (.getfield 29, 3) := by decide +kernel
theorem dX10_copyFrom_5 : decode cX10_copyFrom 5 = .ok (.putfield 29, 3) := by decide +kernel
theorem dX10_copyFrom_8 : decode cX10_copyFrom 8 = .ok (.aload_n 0, 1) := by decide +kernel
theorem dX10_copyFrom_9 : decode cX10_copyFrom 9 = .ok (.aload_n 1, 1) := by decide +kernel
theorem dX10_copyFrom_10 : decode cX10_copyFrom 10 = .ok (.getfield 33, 3) := by decide +kernel
theorem dX10_copyFrom_13 : decode cX10_copyFrom 13 = .ok (.putfield 33, 3) := by decide +kernel
theorem dX10_copyFrom_16 : decode cX10_copyFrom 16 = .ok (.aload_n 0, 1) := by decide +kernel
theorem dX10_copyFrom_17 : decode cX10_copyFrom 17 = .ok (.aload_n 1, 1) := by decide +kernel
theorem dX10_copyFrom_18 : decode cX10_copyFrom 18 = .ok (.getfield 37, 3) := by decide +kernel
theorem dX10_copyFrom_21 : decode cX10_copyFrom 21 = .ok (.putfield 37, 3) := by decide +kernel
theorem dX10_copyFrom_24 : decode cX10_copyFrom 24 = .ok (.aload_n 0, 1) := by decide +kernel
theorem dX10_copyFrom_25 : decode cX10_copyFrom 25 = .ok (.aload_n 1, 1) := by decide +kernel
theorem dX10_copyFrom_26 : decode cX10_copyFrom 26 = .ok (.getfield 40, 3) := by decide +kernel
theorem dX10_copyFrom_29 : decode cX10_copyFrom 29 = .ok (.putfield 40, 3) := by decide +kernel
theorem dX10_copyFrom_32 : decode cX10_copyFrom 32 = .ok (.aload_n 0, 1) := by decide +kernel
theorem dX10_copyFrom_33 : decode cX10_copyFrom 33 = .ok (.aload_n 1, 1) := by decide +kernel
theorem dX10_copyFrom_34 : decode cX10_copyFrom 34 = .ok (.getfield 43, 3) := by decide +kernel
theorem dX10_copyFrom_37 : decode cX10_copyFrom 37 = .ok (.putfield 43, 3) := by decide +kernel
theorem dX10_copyFrom_40 : decode cX10_copyFrom 40 = .ok (.aload_n 0, 1) := by decide +kernel
theorem dX10_copyFrom_41 : decode cX10_copyFrom 41 = .ok (.aload_n 1, 1) := by decide +kernel
theorem dX10_copyFrom_42 : decode cX10_copyFrom 42 = .ok (.getfield 46, 3) := by decide +kernel
theorem dX10_copyFrom_45 : decode cX10_copyFrom 45 = .ok (.putfield 46, 3) := by decide +kernel
theorem dX10_copyFrom_48 : decode cX10_copyFrom 48 = .ok (.aload_n 0, 1) := by decide +kernel
theorem dX10_copyFrom_49 : decode cX10_copyFrom 49 = .ok (.aload_n 1, 1) := by decide +kernel
theorem dX10_copyFrom_50 : decode cX10_copyFrom 50 = .ok (.getfield 49, 3) := by decide +kernel
theorem dX10_copyFrom_53 : decode cX10_copyFrom 53 = .ok (.putfield 49, 3) := by decide +kernel
theorem dX10_copyFrom_56 : decode cX10_copyFrom 56 = .ok (.aload_n 1, 1) := by decide +kernel
theorem dX10_copyFrom_57 : decode cX10_copyFrom 57 = .ok (.getfield 11, 3) := by decide +kernel
theorem dX10_copyFrom_60 : decode cX10_copyFrom 60 = .ok (.iconst 0, 1) := by decide +kernel
theorem dX10_copyFrom_61 : decode cX10_copyFrom 61 = .ok (.aload_n 0, 1) := by decide +kernel
theorem dX10_copyFrom_62 : decode cX10_copyFrom 62 = .ok (.getfield 11, 3) := by decide +kernel
theorem dX10_copyFrom_65 : decode cX10_copyFrom 65 = .ok (.iconst 0, 1) := by decide +kernel
theorem dX10_copyFrom_66 : decode cX10_copyFrom 66 = .ok (.bipush 12, 2) := by decide +kernel
theorem dX10_copyFrom_68 : decode cX10_copyFrom 68 = .ok (.invokestatic 52, 3) := by decide +kernel
theorem dX10_copyFrom_71 : decode cX10_copyFrom 71 = .ok (.iconst 0, 1) := by decide +kernel
theorem dX10_copyFrom_72 : decode cX10_copyFrom 72 = .ok (.istore_n 2, 1) := by decide +kernel
theorem dX10_copyFrom_73 : decode cX10_copyFrom 73 = .ok (.iload_n 2, 1) := by decide +kernel
theorem dX10_copyFrom_74 : decode cX10_copyFrom 74 = .ok (.iconst 3, 1) := by decide +kernel
theorem dX10_copyFrom_75 : decode cX10_copyFrom 75 = .ok (.if_icmp .ge 24, 3) := by decide +kernel
theorem dX10_copyFrom_78 : decode cX10_copyFrom 78 = .ok (.aload_n 0, 1) := by decide +kernel
theorem dX10_copyFrom_79 : decode cX10_copyFrom 79 = .ok (.getfield 17, 3) := by decide +kernel
theorem dX10_copyFrom_82 : decode cX10_copyFrom 82 = .ok (.iload_n 2, 1) := by decide +kernel
theorem dX10_copyFrom_83 : decode cX10_copyFrom 83 = .ok (.aaload, 1) := by decide +kernel
theorem dX10_copyFrom_84 : decode cX10_copyFrom 84 = .ok (.aload_n 1, 1) := by decide +kernel
theorem dX10_copyFrom_85 : decode cX10_copyFrom 85 = .ok (.getfield 17, 3) := by decide +kernel
theorem dX10_copyFrom_88 : decode cX10_copyFrom 88 = .ok (.iload_n 2, 1) := by decide +kernel
theorem dX10_copyFrom_89 : decode cX10_copyFrom 89 = .ok (.aaload, 1) := by decide +kernel
theorem dX10_copyFrom_90 : decode cX10_copyFrom 90 = .ok (.invokevirtual 58, 3) := by decide +kernel
theorem dX10_copyFrom_93 : decode cX10_copyFrom 93 = .ok (.iinc 2 1, 3) := by decide +kernel
theorem dX10_copyFrom_96 : decode cX10_copyFrom 96 = .ok (.goto (-23), 3) := by decide +kernel
theorem dX10_copyFrom_99 : decode cX10_copyFrom 99 = .ok (.iconst 0, 1) := by decide +kernel
theorem dX10_copyFrom_100 : decode cX10_copyFrom 100 = .ok (.istore_n 2, 1) := by decide +kernel
theorem dX10_copyFrom_101 : decode cX10_copyFrom 101 = .ok (.iload_n 2, 1) := by decide +kernel
theorem dX10_copyFrom_102 : decode cX10_copyFrom 102 = .ok (.iconst 4, 1) := by decide +kernel
theorem dX10_copyFrom_103 : decode cX10_copyFrom 103 = .ok (.if_icmp .ge 24, 3) := by decide +kernel
theorem dX10_copyFrom_106 : decode cX10_copyFrom 106 = .ok (.aload_n 0, 1) := by decide +kernel
theorem dX10_copyFrom_107 : decode cX10_copyFrom 107 = .ok (.getfield 23, 3) := by decide +kernel
theorem dX10_copyFrom_110 : decode cX10_copyFrom 110 = .ok (.iload_n 2, 1) := by decide +kernel
theorem dX10_copyFrom_111 : decode cX10_copyFrom 111 = .ok (.aaload, 1) := by decide +kernel
theorem dX10_copyFrom_112 : decode cX10_copyFrom 112 = .ok (.aload_n 1, 1) := by decide +kernel
theorem dX10_copyFrom_113 : decode cX10_copyFrom 113 = .ok (.getfield 23, 3) := by decide +kernel
theorem dX10_copyFrom_116 : decode cX10_copyFrom 116 = .ok (.iload_n 2, 1) := by decide +kernel
theorem dX10_copyFrom_117 : decode cX10_copyFrom 117 = .ok (.aaload, 1) := by decide +kernel
theorem dX10_copyFrom_118 : decode cX10_copyFrom 118 = .ok (.invokevirtual 62, 3) := by decide +kernel
theorem dX10_copyFrom_121 : decode cX10_copyFrom 121 = .ok (.iinc 2 1, 3) := by decide +kernel
theorem dX10_copyFrom_124 : decode cX10_copyFrom 124 = .ok (.goto (-23), 3) := by decide +kernel
theorem dX10_copyFrom_127 : decode cX10_copyFrom 127 = .ok (.return_, 1) := by decide +kernel
theorem dX10_clear_0 : decode cX10_clear 0 = .ok (.aload_n 0, 1) := by decide +kernel
theorem dX10_clear_1 : decode cX10_clear 1 = .ok (.iconst 1, 1) := by decide +kernel
theorem dX10_clear_2 : decode cX10_clear 2 = .ok (.putfield 29, 3) := by decide +kernel
theorem dX10_clear_5 : decode cX10_clear 5 = .ok (.aload_n 0, 1) := by decide +kernel
theorem dX10_clear_6 : decode cX10_clear 6 = .ok (.iconst 0, 1) := by decide +kernel
theorem dX10_clear_7 : decode cX10_clear 7 = .ok (.putfield 46, 3) := by decide +kernel
theorem dX10_clear_10 : decode cX10_clear 10 = .ok (.aload_n 0, 1) := by decide +kernel
theorem dX10_clear_11 : decode cX10_clear 11 = .ok (.iconst 0, 1) := by decide +kernel
theorem dX10_clear_12 : decode cX10_clear 12 = .ok (.putfield 49, 3) := by decide +kernel
theorem dX10_clear_15 : decode cX10_clear 15 = .ok (.iconst 0, 1) := by decide +kernel
theorem dX10_clear_16 : decode cX10_clear 16 = .ok (.istore_n 1, 1) := by decide +kernel
theorem dX10_clear_17 : decode cX10_clear 17 = .ok (.iload_n 1, 1) := by decide +kernel
theorem dX10_clear_18 : decode cX10_clear 18 = .ok (.bipush 12, 2) := by decide +kernel
theorem dX10_clear_20 : decode cX10_clear 20 = .ok (.if_icmp .ge 16, 3) := by decide +kernel
theorem dX10_clear_23 : decode cX10_clear 23 = .ok (.aload_n 0, 1) := by decide +kernel
theorem dX10_clear_24 : decode cX10_clear 24 = .ok (.getfield 11, 3) := by decide +kernel
theorem dX10_clear_27 : decode cX10_clear 27 = .ok (.iload_n 1, 1) := by decide +kernel
theorem dX10_clear_28 : decode cX10_clear 28 = .ok (.iconst 0, 1) := by decide +kernel
theorem dX10_clear_29 : decode cX10_clear 29 = .ok (.iastore, 1) := by decide +kernel
theorem dX10_clear_30 : decode cX10_clear 30 = .ok (.iinc 1 1, 3) := by decide +kernel
theorem dX10_clear_33 : decode cX10_clear 33 = .ok (.goto (-16), 3) := by decide +kernel
theorem dX10_clear_36 : decode cX10_clear 36 = .ok (.iconst 0, 1) := by decide +kernel
theorem dX10_clear_37 : decode cX10_clear 37 = .ok (.istore_n 1, 1) := by decide +kernel
theorem dX10_clear_38 : decode cX10_clear 38 = .ok (.iload_n 1, 1) := by decide +kernel
theorem dX10_clear_39 : decode cX10_clear 39 = .ok (.iconst 4, 1) := by decide +kernel
theorem dX10_clear_40 : decode cX10_clear 40 = .ok (.if_icmp .ge 19, 3) := by decide +kernel
theorem dX10_clear_43 : decode cX10_clear 43 = .ok (.aload_n 0, 1) := by decide +kernel
theorem dX10_clear_44 : decode cX10_clear 44 = .ok (.getfield 23, 3) := by decide +kernel
theorem dX10_clear_47 : decode cX10_clear 47 = .ok (.iload_n 1, 1) := by decide +kernel
theorem dX10_clear_48 : decode cX10_clear 48 = .ok (.aaload, 1) := by decide +kernel
theorem dX10_clear_49 : decode cX10_clear 49 = .ok (.iconst 0, 1) := by decide +kernel
theorem dX10_clear_50 : decode cX10_clear 50 = .ok (.putfield 65, 3) := by decide +kernel
theorem dX10_clear_53 : decode cX10_clear 53 = .ok (.iinc 1 1, 3) := by decide +kernel
theorem dX10_clear_56 : decode cX10_clear 56 = .ok (.goto (-18), 3) := by decide +kernel
theorem dX10_clear_59 : decode cX10_clear 59 = .ok (.return_, 1) := by decide +kernel
theorem dX10_hasRoomForShip_0 : decode cX10_hasRoomForShip 0 = .ok (.aload_n 0, 1) := by decide +kernel
theorem dX10_hasRoomForShip_1 : decode cX10_hasRoomForShip 1 = .ok (.getfield 46, 3) := by decide +kernel
theorem dX10_hasRoomForShip_4 : decode cX10_hasRoomForShip 4 = .ok (.ifCond .lt 15, 3) := by decide +kernel
theorem dX10_hasRoomForShip_7 : decode cX10_hasRoomForShip 7 = .ok (.aload_n 0, 1) := by decide +kernel
theorem dX10_hasRoomForShip_8 : decode cX10_hasRoomForShip 8 = .ok (.getfield 46, 3) := by decide +kernel
theorem dX10_hasRoomForShip_11 : decode cX10_hasRoomForShip 11 = .ok (.iconst 3, 1) := by decide +kernel
theorem dX10_hasRoomForShip_12 : decode cX10_hasRoomForShip 12 = .ok (.if_icmp .ge 7, 3) := by decide +kernel
theorem dX10_hasRoomForShip_15 : decode cX10_hasRoomForShip 15 = .ok (.iconst 1, 1) := by decide +kernel
theorem dX10_hasRoomForShip_16 : decode cX10_hasRoomForShip 16 = .ok (.goto 4, 3) := by decide +kernel
theorem dX10_hasRoomForShip_19 : decode cX10_hasRoomForShip 19 = .ok (.iconst 0, 1) := by decide +kernel
theorem dX10_hasRoomForShip_20 : decode cX10_hasRoomForShip 20 = .ok (.ireturn, 1) := by decide +kernel
theorem dX10_hasRoomForTown_0 : decode cX10_hasRoomForTown 0 = .ok (.aload_n 0, 1) := by decide +kernel
theorem dX10_hasRoomForTown_1 : decode cX10_hasRoomForTown 1 = .ok (.getfield 49, 3) := by decide +kernel
theorem dX10_hasRoomForTown_4 : decode cX10_hasRoomForTown 4 = .ok (.ifCond .lt 15, 3) := by decide +kernel
theorem dX10_hasRoomForTown_7 : decode cX10_hasRoomForTown 7 = .ok (.aload_n 0, 1) := by decide +kernel
theorem dX10_hasRoomForTown_8 : decode cX10_hasRoomForTown 8 = .ok (.getfield 49, 3) := by decide +kernel
theorem dX10_hasRoomForTown_11 : decode cX10_hasRoomForTown 11 = .ok (.iconst 4, 1) := by decide +kernel
theorem dX10_hasRoomForTown_12 : decode cX10_hasRoomForTown 12 = .ok (.if_icmp .ge 7, 3) := by decide +kernel
theorem dX10_hasRoomForTown_15 : decode cX10_hasRoomForTown 15 = .ok (.iconst 1, 1) := by decide +kernel
theorem dX10_hasRoomForTown_16 : decode cX10_hasRoomForTown 16 = .ok (.goto 4, 3) := by decide +kernel
theorem dX10_hasRoomForTown_19 : decode cX10_hasRoomForTown 19 = .ok (.iconst 0, 1) := by decide +kernel
theorem dX10_hasRoomForTown_20 : decode cX10_hasRoomForTown 20 = .ok (.ireturn, 1) := by decide +kernel
theorem dX10_hasShip_0 : decode cX10_hasShip 0 = .ok (.iload_n 1, 1) := by decide +kernel
theorem dX10_hasShip_1 : decode cX10_hasShip 1 = .ok (.ifCond .lt 15, 3) := by decide +kernel
theorem dX10_hasShip_4 : decode cX10_hasShip 4 = .ok (.iload_n 1, 1) := by decide +kernel
theorem dX10_hasShip_5 : decode cX10_hasShip 5 = .ok (.aload_n 0, 1) := by decide +kernel
theorem dX10_hasShip_6 : decode cX10_hasShip 6 = .ok (.getfield 46, 3) := by decide +kernel
theorem dX10_hasShip_9 : decode cX10_hasShip 9 = .ok (.if_icmp .ge 7, 3) := by decide +kernel
theorem dX10_hasShip_12 : decode cX10_hasShip 12 = .ok (.iconst 1, 1) := by decide +kernel
theorem dX10_hasShip_13 : decode cX10_hasShip 13 = .ok (.goto 4, 3) := by decide +kernel
theorem dX10_hasShip_16 : decode cX10_hasShip 16 = .ok (.iconst 0, 1) := by decide +kernel
theorem dX10_hasShip_17 : decode cX10_hasShip 17 = .ok (.ireturn, 1) := by decide +kernel
theorem dX10_hasTown_0 : decode cX10_hasTown 0 = .ok (.iload_n 1, 1) := by decide +kernel
theorem dX10_hasTown_1 : decode cX10_hasTown 1 = .ok (.ifCond .lt 15, 3) := by decide +kernel
theorem dX10_hasTown_4 : decode cX10_hasTown 4 = .ok (.iload_n 1, 1) := by decide +kernel
theorem dX10_hasTown_5 : decode cX10_hasTown 5 = .ok (.aload_n 0, 1) := by decide +kernel
theorem dX10_hasTown_6 : decode cX10_hasTown 6 = .ok (.getfield 49, 3) := by decide +kernel
theorem dX10_hasTown_9 : decode cX10_hasTown 9 = .ok (.if_icmp .ge 7, 3) := by decide +kernel
theorem dX10_hasTown_12 : decode cX10_hasTown 12 = .ok (.iconst 1, 1) := by decide +kernel
theorem dX10_hasTown_13 : decode cX10_hasTown 13 = .ok (.goto 4, 3) := by decide +kernel
theorem dX10_hasTown_16 : decode cX10_hasTown 16 = .ok (.iconst 0, 1) := by decide +kernel
theorem dX10_hasTown_17 : decode cX10_hasTown 17 = .ok (.ireturn, 1) := by decide +kernel
theorem dX10_isAtHome_0 : decode cX10_isAtHome 0 = .ok (.aload_n 0, 1) := by decide +kernel
theorem dX10_isAtHome_1 : decode cX10_isAtHome 1 = .ok (.iload_n 1, 1) := by decide +kernel
theorem dX10_isAtHome_2 : decode cX10_isAtHome 2 = .ok (.invokevirtual 68, 3) := by decide +kernel
theorem dX10_isAtHome_5 : decode cX10_isAtHome 5 = .ok (.ifCond .eq 19, 3) := by decide +kernel
theorem dX10_isAtHome_8 : decode cX10_isAtHome 8 = .ok (.aload_n 0, 1) := by decide +kernel
theorem dX10_isAtHome_9 : decode cX10_isAtHome 9 = .ok (.getfield 17, 3) := by decide +kernel
theorem dX10_isAtHome_12 : decode cX10_isAtHome 12 = .ok (.iload_n 1, 1) := by decide +kernel
theorem dX10_isAtHome_13 : decode cX10_isAtHome 13 = .ok (.aaload, 1) := by decide +kernel
theorem dX10_isAtHome_14 : decode cX10_isAtHome 14 = .ok (.getfield 72, 3) := by decide +kernel
theorem dX10_isAtHome_17 : decode cX10_isAtHome 17 = .ok (.ifCond .ne 7, 3) := by decide +kernel
theorem dX10_isAtHome_20 : decode cX10_isAtHome 20 = .ok (.iconst 1, 1) := by decide +kernel
theorem dX10_isAtHome_21 : decode cX10_isAtHome 21 = .ok (.goto 4, 3) := by decide +kernel
theorem dX10_isAtHome_24 : decode cX10_isAtHome 24 = .ok (.iconst 0, 1) := by decide +kernel
theorem dX10_isAtHome_25 : decode cX10_isAtHome 25 = .ok (.ireturn, 1) := by decide +kernel
theorem dX10_blocksFor_0 : decode cX10_blocksFor 0 = .ok (.iconst 0, 1) := by decide +kernel
theorem dX10_blocksFor_1 : decode cX10_blocksFor 1 = .ok (.istore_n 2, 1) := by decide +kernel
theorem dX10_blocksFor_2 : decode cX10_blocksFor 2 = .ok (.iconst 0, 1) := by decide +kernel
theorem dX10_blocksFor_3 : decode cX10_blocksFor 3 = .ok (.istore_n 3, 1) := by decide +kernel
theorem dX10_blocksFor_4 : decode cX10_blocksFor 4 = .ok (.iload_n 3, 1) := by decide +kernel
theorem dX10_blocksFor_5 : decode cX10_blocksFor 5 = .ok (.aload_n 0, 1) := by decide +kernel
theorem dX10_blocksFor_6 : decode cX10_blocksFor 6 = .ok (.getfield 46, 3) := by decide +kernel
theorem dX10_blocksFor_9 : decode cX10_blocksFor 9 = .ok (.if_icmp .ge 34, 3) := by decide +kernel
theorem dX10_blocksFor_12 : decode cX10_blocksFor 12 = .ok (.aload_n 0, 1) := by decide +kernel
theorem dX10_blocksFor_13 : decode cX10_blocksFor 13 = .ok (.getfield 17, 3) := by decide +kernel
theorem dX10_blocksFor_16 : decode cX10_blocksFor 16 = .ok (.iload_n 3, 1) := by decide +kernel
theorem dX10_blocksFor_17 : decode cX10_blocksFor 17 = .ok (.aaload, 1) := by decide +kernel
theorem dX10_blocksFor_18 : decode cX10_blocksFor 18 = .ok (.getfield 75, 3) := by decide +kernel
theorem dX10_blocksFor_21 : decode cX10_blocksFor 21 = .ok (.iload_n 1, 1) := by decide +kernel
theorem dX10_blocksFor_22 : decode cX10_blocksFor 22 = .ok (.if_icmp .ne 15, 3) := by decide +kernel
theorem dX10_blocksFor_25 : decode cX10_blocksFor 25 = .ok (.iload_n 2, 1) := by decide +kernel
theorem dX10_blocksFor_26 : decode cX10_blocksFor 26 = .ok (.aload_n 0, 1) := by decide +kernel
theorem dX10_blocksFor_27 : decode cX10_blocksFor 27 = .ok (.getfield 17, 3) := by decide +kernel
theorem dX10_blocksFor_30 : decode cX10_blocksFor 30 = .ok (.iload_n 3, 1) := by decide +kernel
theorem dX10_blocksFor_31 : decode cX10_blocksFor 31 = .ok (.aaload, 1) := by decide +kernel
theorem dX10_blocksFor_32 : decode cX10_blocksFor 32 = .ok (.getfield 78, 3) := by decide +kernel
theorem dX10_blocksFor_35 : decode cX10_blocksFor 35 = .ok (.iadd, 1) := by decide +kernel
theorem dX10_blocksFor_36 : decode cX10_blocksFor 36 = .ok (.istore_n 2, 1) := by decide +kernel
theorem dX10_blocksFor_37 : decode cX10_blocksFor 37 = .ok (.iinc 3 1, 3) := by decide +kernel
theorem dX10_blocksFor_40 : decode cX10_blocksFor 40 = .ok (.goto (-36), 3) := by decide +kernel
theorem dX10_blocksFor_43 : decode cX10_blocksFor 43 = .ok (.iload_n 2, 1) := by decide +kernel
theorem dX10_blocksFor_44 : decode cX10_blocksFor 44 = .ok (.ireturn, 1) := by decide +kernel
theorem dX10_blocksAtSea_0 : decode cX10_blocksAtSea 0 = .ok (.iconst 0, 1) := by decide +kernel
theorem dX10_blocksAtSea_1 : decode cX10_blocksAtSea 1 = .ok (.istore_n 1, 1) := by decide +kernel
theorem dX10_blocksAtSea_2 : decode cX10_blocksAtSea 2 = .ok (.iconst 0, 1) := by decide +kernel
theorem dX10_blocksAtSea_3 : decode cX10_blocksAtSea 3 = .ok (.istore_n 2, 1) := by decide +kernel
theorem dX10_blocksAtSea_4 : decode cX10_blocksAtSea 4 = .ok (.iload_n 2, 1) := by decide +kernel
theorem dX10_blocksAtSea_5 : decode cX10_blocksAtSea 5 = .ok (.aload_n 0, 1) := by decide +kernel
theorem dX10_blocksAtSea_6 : decode cX10_blocksAtSea 6 = .ok (.getfield 46, 3) := by decide +kernel
theorem dX10_blocksAtSea_9 : decode cX10_blocksAtSea 9 = .ok (.if_icmp .ge 21, 3) := by decide +kernel
theorem dX10_blocksAtSea_12 : decode cX10_blocksAtSea 12 = .ok (.iload_n 1, 1) := by decide +kernel
theorem dX10_blocksAtSea_13 : decode cX10_blocksAtSea 13 = .ok (.aload_n 0, 1) := by decide +kernel
theorem dX10_blocksAtSea_14 : decode cX10_blocksAtSea 14 = .ok (.getfield 17, 3) := by decide +kernel
theorem dX10_blocksAtSea_17 : decode cX10_blocksAtSea 17 = .ok (.iload_n 2, 1) := by decide +kernel
theorem dX10_blocksAtSea_18 : decode cX10_blocksAtSea 18 = .ok (.aaload, 1) := by decide +kernel
theorem dX10_blocksAtSea_19 : decode cX10_blocksAtSea 19 = .ok (.getfield 78, 3) := by decide +kernel
theorem dX10_blocksAtSea_22 : decode cX10_blocksAtSea 22 = .ok (.iadd, 1) := by decide +kernel
theorem dX10_blocksAtSea_23 : decode cX10_blocksAtSea 23 = .ok (.istore_n 1, 1) := by decide +kernel
theorem dX10_blocksAtSea_24 : decode cX10_blocksAtSea 24 = .ok (.iinc 2 1, 3) := by decide +kernel
theorem dX10_blocksAtSea_27 : decode cX10_blocksAtSea 27 = .ok (.goto (-23), 3) := by decide +kernel
theorem dX10_blocksAtSea_30 : decode cX10_blocksAtSea 30 = .ok (.iload_n 1, 1) := by decide +kernel
theorem dX10_blocksAtSea_31 : decode cX10_blocksAtSea 31 = .ok (.ireturn, 1) := by decide +kernel
theorem dX10_soldSoFar_0 : decode cX10_soldSoFar 0 = .ok (.iconst 0, 1) := by decide +kernel
theorem dX10_soldSoFar_1 : decode cX10_soldSoFar 1 = .ok (.istore_n 1, 1) := by decide +kernel
theorem dX10_soldSoFar_2 : decode cX10_soldSoFar 2 = .ok (.iconst 0, 1) := by decide +kernel
theorem dX10_soldSoFar_3 : decode cX10_soldSoFar 3 = .ok (.istore_n 2, 1) := by decide +kernel
theorem dX10_soldSoFar_4 : decode cX10_soldSoFar 4 = .ok (.iload_n 2, 1) := by decide +kernel
theorem dX10_soldSoFar_5 : decode cX10_soldSoFar 5 = .ok (.aload_n 0, 1) := by decide +kernel
theorem dX10_soldSoFar_6 : decode cX10_soldSoFar 6 = .ok (.getfield 49, 3) := by decide +kernel
theorem dX10_soldSoFar_9 : decode cX10_soldSoFar 9 = .ok (.if_icmp .ge 21, 3) := by decide +kernel
theorem dX10_soldSoFar_12 : decode cX10_soldSoFar 12 = .ok (.iload_n 1, 1) := by decide +kernel
theorem dX10_soldSoFar_13 : decode cX10_soldSoFar 13 = .ok (.aload_n 0, 1) := by decide +kernel
theorem dX10_soldSoFar_14 : decode cX10_soldSoFar 14 = .ok (.getfield 23, 3) := by decide +kernel
theorem dX10_soldSoFar_17 : decode cX10_soldSoFar 17 = .ok (.iload_n 2, 1) := by decide +kernel
theorem dX10_soldSoFar_18 : decode cX10_soldSoFar 18 = .ok (.aaload, 1) := by decide +kernel
theorem dX10_soldSoFar_19 : decode cX10_soldSoFar 19 = .ok (.getfield 81, 3) := by decide +kernel
theorem dX10_soldSoFar_22 : decode cX10_soldSoFar 22 = .ok (.iadd, 1) := by decide +kernel
theorem dX10_soldSoFar_23 : decode cX10_soldSoFar 23 = .ok (.istore_n 1, 1) := by decide +kernel
theorem dX10_soldSoFar_24 : decode cX10_soldSoFar 24 = .ok (.iinc 2 1, 3) := by decide +kernel
theorem dX10_soldSoFar_27 : decode cX10_soldSoFar 27 = .ok (.goto (-23), 3) := by decide +kernel
theorem dX10_soldSoFar_30 : decode cX10_soldSoFar 30 = .ok (.iload_n 1, 1) := by decide +kernel
theorem dX10_soldSoFar_31 : decode cX10_soldSoFar 31 = .ok (.ireturn, 1) := by decide +kernel
theorem dX10_homeBits_0 : decode cX10_homeBits 0 = .ok (.iconst 0, 1) := by decide +kernel
theorem dX10_homeBits_1 : decode cX10_homeBits 1 = .ok (.istore_n 1, 1) := by decide +kernel
theorem dX10_homeBits_2 : decode cX10_homeBits 2 = .ok (.iconst 0, 1) := by decide +kernel
theorem dX10_homeBits_3 : decode cX10_homeBits 3 = .ok (.istore_n 2, 1) := by decide +kernel
theorem dX10_homeBits_4 : decode cX10_homeBits 4 = .ok (.iload_n 2, 1) := by decide +kernel
theorem dX10_homeBits_5 : decode cX10_homeBits 5 = .ok (.aload_n 0, 1) := by decide +kernel
theorem dX10_homeBits_6 : decode cX10_homeBits 6 = .ok (.getfield 46, 3) := by decide +kernel
theorem dX10_homeBits_9 : decode cX10_homeBits 9 = .ok (.if_icmp .ge 27, 3) := by decide +kernel
theorem dX10_homeBits_12 : decode cX10_homeBits 12 = .ok (.iload_n 1, 1) := by decide +kernel
theorem dX10_homeBits_13 : decode cX10_homeBits 13 = .ok (.aload_n 0, 1) := by decide +kernel
theorem dX10_homeBits_14 : decode cX10_homeBits 14 = .ok (.iload_n 2, 1) := by decide +kernel
theorem dX10_homeBits_15 : decode cX10_homeBits 15 = .ok (.invokevirtual 84, 3) := by decide +kernel
theorem dX10_homeBits_18 : decode cX10_homeBits 18 = .ok (.ifCond .eq 9, 3) := by decide +kernel
theorem dX10_homeBits_21 : decode cX10_homeBits 21 = .ok (.iconst 1, 1) := by decide +kernel
theorem dX10_homeBits_22 : decode cX10_homeBits 22 = .ok (.iload_n 2, 1) := by decide +kernel
theorem dX10_homeBits_23 : decode cX10_homeBits 23 = .ok (.ishl, 1) := by decide +kernel
theorem dX10_homeBits_24 : decode cX10_homeBits 24 = .ok (.goto 4, 3) := by decide +kernel
theorem dX10_homeBits_27 : decode cX10_homeBits 27 = .ok (.iconst 0, 1) := by decide +kernel
theorem dX10_homeBits_28 : decode cX10_homeBits 28 = .ok (.ior, 1) := by decide +kernel
theorem dX10_homeBits_29 : decode cX10_homeBits 29 = .ok (.istore_n 1, 1) := by decide +kernel
theorem dX10_homeBits_30 : decode cX10_homeBits 30 = .ok (.iinc 2 1, 3) := by decide +kernel
theorem dX10_homeBits_33 : decode cX10_homeBits 33 = .ok (.goto (-29), 3) := by decide +kernel
theorem dX10_homeBits_36 : decode cX10_homeBits 36 = .ok (.iload_n 1, 1) := by decide +kernel
theorem dX10_homeBits_37 : decode cX10_homeBits 37 = .ok (.ireturn, 1) := by decide +kernel
theorem dX10_houseBits_0 : decode cX10_houseBits 0 = .ok (.iconst 0, 1) := by decide +kernel
theorem dX10_houseBits_1 : decode cX10_houseBits 1 = .ok (.istore_n 1, 1) := by decide +kernel
theorem dX10_houseBits_2 : decode cX10_houseBits 2 = .ok (.iconst 0, 1) := by decide +kernel
theorem dX10_houseBits_3 : decode cX10_houseBits 3 = .ok (.istore_n 2, 1) := by decide +kernel
theorem dX10_houseBits_4 : decode cX10_houseBits 4 = .ok (.iload_n 2, 1) := by decide +kernel
theorem dX10_houseBits_5 : decode cX10_houseBits 5 = .ok (.aload_n 0, 1) := by decide +kernel
theorem dX10_houseBits_6 : decode cX10_houseBits 6 = .ok (.getfield 49, 3) := by decide +kernel
theorem dX10_houseBits_9 : decode cX10_houseBits 9 = .ok (.if_icmp .ge 31, 3) := by decide +kernel
theorem dX10_houseBits_12 : decode cX10_houseBits 12 = .ok (.iload_n 1, 1) := by decide +kernel
theorem dX10_houseBits_13 : decode cX10_houseBits 13 = .ok (.aload_n 0, 1) := by decide +kernel
theorem dX10_houseBits_14 : decode cX10_houseBits 14 = .ok (.getfield 23, 3) := by decide +kernel
theorem dX10_houseBits_17 : decode cX10_houseBits 17 = .ok (.iload_n 2, 1) := by decide +kernel
theorem dX10_houseBits_18 : decode cX10_houseBits 18 = .ok (.aaload, 1) := by decide +kernel
theorem dX10_houseBits_19 : decode cX10_houseBits 19 = .ok (.getfield 65, 3) := by decide +kernel
theorem dX10_houseBits_22 : decode cX10_houseBits 22 = .ok (.ifCond .eq 9, 3) := by decide +kernel
theorem dX10_houseBits_25 : decode cX10_houseBits 25 = .ok (.iconst 1, 1) := by decide +kernel
theorem dX10_houseBits_26 : decode cX10_houseBits 26 = .ok (.iload_n 2, 1) := by decide +kernel
theorem dX10_houseBits_27 : decode cX10_houseBits 27 = .ok (.ishl, 1) := by decide +kernel
theorem dX10_houseBits_28 : decode cX10_houseBits 28 = .ok (.goto 4, 3) := by decide +kernel
theorem dX10_houseBits_31 : decode cX10_houseBits 31 = .ok (.iconst 0, 1) := by decide +kernel
theorem dX10_houseBits_32 : decode cX10_houseBits 32 = .ok (.ior, 1) := by decide +kernel
theorem dX10_houseBits_33 : decode cX10_houseBits 33 = .ok (.istore_n 1, 1) := by decide +kernel
theorem dX10_houseBits_34 : decode cX10_houseBits 34 = .ok (.iinc 2 1, 3) := by decide +kernel
theorem dX10_houseBits_37 : decode cX10_houseBits 37 = .ok (.goto (-33), 3) := by decide +kernel
theorem dX10_houseBits_40 : decode cX10_houseBits 40 = .ok (.iload_n 1, 1) := by decide +kernel
theorem dX10_houseBits_41 : decode cX10_houseBits 41 = .ok (.ireturn, 1) := by decide +kernel
theorem dX10_mostBlocks_0 : decode cX10_mostBlocks 0 = .ok (.aload_n 0, 1) := by decide +kernel
theorem dX10_mostBlocks_1 : decode cX10_mostBlocks 1 = .ok (.iload_n 1, 1) := by decide +kernel
theorem dX10_mostBlocks_2 : decode cX10_mostBlocks 2 = .ok (.invokevirtual 84, 3) := by decide +kernel
theorem dX10_mostBlocks_5 : decode cX10_mostBlocks 5 = .ok (.ifCond .eq 19, 3) := by decide +kernel
theorem dX10_mostBlocks_8 : decode cX10_mostBlocks 8 = .ok (.aload_n 0, 1) := by decide +kernel
theorem dX10_mostBlocks_9 : decode cX10_mostBlocks 9 = .ok (.getfield 33, 3) := by decide +kernel
theorem dX10_mostBlocks_12 : decode cX10_mostBlocks 12 = .ok (.aload_n 0, 1) := by decide +kernel
theorem dX10_mostBlocks_13 : decode cX10_mostBlocks 13 = .ok (.getfield 17, 3) := by decide +kernel
theorem dX10_mostBlocks_16 : decode cX10_mostBlocks 16 = .ok (.iload_n 1, 1) := by decide +kernel
theorem dX10_mostBlocks_17 : decode cX10_mostBlocks 17 = .ok (.aaload, 1) := by decide +kernel
theorem dX10_mostBlocks_18 : decode cX10_mostBlocks 18 = .ok (.getfield 87, 3) := by decide +kernel
theorem dX10_mostBlocks_21 : decode cX10_mostBlocks 21 = .ok (.if_icmp .ge 5, 3) := by decide +kernel
theorem dX10_mostBlocks_24 : decode cX10_mostBlocks 24 = .ok (.iconst 0, 1) := by decide +kernel
theorem dX10_mostBlocks_25 : decode cX10_mostBlocks 25 = .ok (.ireturn, 1) := by decide +kernel
theorem dX10_mostBlocks_26 : decode cX10_mostBlocks 26 = .ok (.aload_n 0, 1) := by decide +kernel
theorem dX10_mostBlocks_27 : decode cX10_mostBlocks 27 = .ok (.getfield 17, 3) := by decide +kernel
theorem dX10_mostBlocks_30 : decode cX10_mostBlocks 30 = .ok (.iload_n 1, 1) := by decide +kernel
theorem dX10_mostBlocks_31 : decode cX10_mostBlocks 31 = .ok (.aaload, 1) := by decide +kernel
theorem dX10_mostBlocks_32 : decode cX10_mostBlocks 32 = .ok (.getfield 90, 3) := by decide +kernel
theorem dX10_mostBlocks_35 : decode cX10_mostBlocks 35 = .ok (.aload_n 0, 1) := by decide +kernel
theorem dX10_mostBlocks_36 : decode cX10_mostBlocks 36 = .ok (.getfield 40, 3) := by decide +kernel
theorem dX10_mostBlocks_39 : decode cX10_mostBlocks 39 = .ok (.invokestatic 93, 3) := by decide +kernel
theorem dX10_mostBlocks_42 : decode cX10_mostBlocks 42 = .ok (.istore_n 2, 1) := by decide +kernel
theorem dX10_mostBlocks_43 : decode cX10_mostBlocks 43 = .ok (.aload_n 0, 1) := by decide +kernel
theorem dX10_mostBlocks_44 : decode cX10_mostBlocks 44 = .ok (.getfield 37, 3) := by decide +kernel
theorem dX10_mostBlocks_47 : decode cX10_mostBlocks 47 = .ok (.ifCond .ne 7, 3) := by decide +kernel
theorem dX10_mostBlocks_50 : decode cX10_mostBlocks 50 = .ok (.iload_n 2, 1) := by decide +kernel
theorem dX10_mostBlocks_51 : decode cX10_mostBlocks 51 = .ok (.goto 26, 3) := by decide +kernel
theorem dX10_mostBlocks_54 : decode cX10_mostBlocks 54 = .ok (.iload_n 2, 1) := by decide +kernel
theorem dX10_mostBlocks_55 : decode cX10_mostBlocks 55 = .ok (.aload_n 0, 1) := by decide +kernel
theorem dX10_mostBlocks_56 : decode cX10_mostBlocks 56 = .ok (.getfield 33, 3) := by decide +kernel
theorem dX10_mostBlocks_59 : decode cX10_mostBlocks 59 = .ok (.aload_n 0, 1) := by decide +kernel
theorem dX10_mostBlocks_60 : decode cX10_mostBlocks 60 = .ok (.getfield 17, 3) := by decide +kernel
theorem dX10_mostBlocks_63 : decode cX10_mostBlocks 63 = .ok (.iload_n 1, 1) := by decide +kernel
theorem dX10_mostBlocks_64 : decode cX10_mostBlocks 64 = .ok (.aaload, 1) := by decide +kernel
theorem dX10_mostBlocks_65 : decode cX10_mostBlocks 65 = .ok (.getfield 87, 3) := by decide +kernel
theorem dX10_mostBlocks_68 : decode cX10_mostBlocks 68 = .ok (.isub, 1) := by decide +kernel
theorem dX10_mostBlocks_69 : decode cX10_mostBlocks 69 = .ok (.aload_n 0, 1) := by decide +kernel
theorem dX10_mostBlocks_70 : decode cX10_mostBlocks 70 = .ok (.getfield 37, 3) := by decide +kernel
theorem dX10_mostBlocks_73 : decode cX10_mostBlocks 73 = .ok (.idiv, 1) := by decide +kernel
theorem dX10_mostBlocks_74 : decode cX10_mostBlocks 74 = .ok (.invokestatic 93, 3) := by decide +kernel
theorem dX10_mostBlocks_77 : decode cX10_mostBlocks 77 = .ok (.ireturn, 1) := by decide +kernel
theorem dX10_canSail_0 : decode cX10_canSail 0 = .ok (.aload_n 0, 1) := by decide +kernel
theorem dX10_canSail_1 : decode cX10_canSail 1 = .ok (.iload_n 1, 1) := by decide +kernel
theorem dX10_canSail_2 : decode cX10_canSail 2 = .ok (.invokevirtual 84, 3) := by decide +kernel
theorem dX10_canSail_5 : decode cX10_canSail 5 = .ok (.ifCond .eq 54, 3) := by decide +kernel
theorem dX10_canSail_8 : decode cX10_canSail 8 = .ok (.aload_n 0, 1) := by decide +kernel
theorem dX10_canSail_9 : decode cX10_canSail 9 = .ok (.iload_n 2, 1) := by decide +kernel
theorem dX10_canSail_10 : decode cX10_canSail 10 = .ok (.invokevirtual 99, 3) := by decide +kernel
theorem dX10_canSail_13 : decode cX10_canSail 13 = .ok (.ifCond .eq 46, 3) := by decide +kernel
theorem dX10_canSail_16 : decode cX10_canSail 16 = .ok (.iload_n 3, 1) := by decide +kernel
theorem dX10_canSail_17 : decode cX10_canSail 17 = .ok (.iconst 1, 1) := by decide +kernel
theorem dX10_canSail_18 : decode cX10_canSail 18 = .ok (.aload_n 0, 1) := by decide +kernel
theorem dX10_canSail_19 : decode cX10_canSail 19 = .ok (.getfield 17, 3) := by decide +kernel
theorem dX10_canSail_22 : decode cX10_canSail 22 = .ok (.iload_n 1, 1) := by decide +kernel
theorem dX10_canSail_23 : decode cX10_canSail 23 = .ok (.aaload, 1) := by decide +kernel
theorem dX10_canSail_24 : decode cX10_canSail 24 = .ok (.getfield 90, 3) := by decide +kernel
theorem dX10_canSail_27 : decode cX10_canSail 27 = .ok (.aload_n 0, 1) := by decide +kernel
theorem dX10_canSail_28 : decode cX10_canSail 28 = .ok (.getfield 40, 3) := by decide +kernel
theorem dX10_canSail_31 : decode cX10_canSail 31 = .ok (.invokestatic 93, 3) := by decide +kernel
theorem dX10_canSail_34 : decode cX10_canSail 34 = .ok (.invokestatic 102, 3) := by decide +kernel
theorem dX10_canSail_37 : decode cX10_canSail 37 = .ok (.ifCond .eq 22, 3) := by decide +kernel
theorem dX10_canSail_40 : decode cX10_canSail 40 = .ok (.aload_n 0, 1) := by decide +kernel
theorem dX10_canSail_41 : decode cX10_canSail 41 = .ok (.iload_n 1, 1) := by decide +kernel
theorem dX10_canSail_42 : decode cX10_canSail 42 = .ok (.iload_n 3, 1) := by decide +kernel
theorem dX10_canSail_43 : decode cX10_canSail 43 = .ok (.iload 4, 2) := by decide +kernel
theorem dX10_canSail_45 : decode cX10_canSail 45 = .ok (.invokevirtual 106, 3) := by decide +kernel
theorem dX10_canSail_48 : decode cX10_canSail 48 = .ok (.aload_n 0, 1) := by decide +kernel
theorem dX10_canSail_49 : decode cX10_canSail 49 = .ok (.getfield 33, 3) := by decide +kernel
theorem dX10_canSail_52 : decode cX10_canSail 52 = .ok (.if_icmp .gt 7, 3) := by decide +kernel
theorem dX10_canSail_55 : decode cX10_canSail 55 = .ok (.iconst 1, 1) := by decide +kernel
theorem dX10_canSail_56 : decode cX10_canSail 56 = .ok (.goto 4, 3) := by decide +kernel
theorem dX10_canSail_59 : decode cX10_canSail 59 = .ok (.iconst 0, 1) := by decide +kernel
theorem dX10_canSail_60 : decode cX10_canSail 60 = .ok (.ireturn, 1) := by decide +kernel
theorem dX10_setSail_0 : decode cX10_setSail 0 = .ok (.aload_n 0, 1) := by decide +kernel
theorem dX10_setSail_1 : decode cX10_setSail 1 = .ok (.iload_n 1, 1) := by decide +kernel
theorem dX10_setSail_2 : decode cX10_setSail 2 = .ok (.invokevirtual 68, 3) := by decide +kernel
theorem dX10_setSail_5 : decode cX10_setSail 5 = .ok (.ifCond .eq 11, 3) := by decide +kernel
theorem dX10_setSail_8 : decode cX10_setSail 8 = .ok (.aload_n 0, 1) := by decide +kernel
theorem dX10_setSail_9 : decode cX10_setSail 9 = .ok (.iload_n 2, 1) := by decide +kernel
theorem dX10_setSail_10 : decode cX10_setSail 10 = .ok (.invokevirtual 99, 3) := by decide +kernel
theorem dX10_setSail_13 : decode cX10_setSail 13 = .ok (.ifCond .ne 4, 3) := by decide +kernel
theorem dX10_setSail_16 : decode cX10_setSail 16 = .ok (.return_, 1) := by decide +kernel
theorem dX10_setSail_17 : decode cX10_setSail 17 = .ok (.aload_n 0, 1) := by decide +kernel
theorem dX10_setSail_18 : decode cX10_setSail 18 = .ok (.dup, 1) := by decide +kernel
theorem dX10_setSail_19 : decode cX10_setSail 19 = .ok (.getfield 33, 3) := by decide +kernel
theorem dX10_setSail_22 : decode cX10_setSail 22 = .ok (.aload_n 0, 1) := by decide +kernel
theorem dX10_setSail_23 : decode cX10_setSail 23 = .ok (.iload_n 1, 1) := by decide +kernel
theorem dX10_setSail_24 : decode cX10_setSail 24 = .ok (.iload_n 3, 1) := by decide +kernel
theorem dX10_setSail_25 : decode cX10_setSail 25 = .ok (.iload 4, 2) := by decide +kernel
theorem dX10_setSail_27 : decode cX10_setSail 27 = .ok (.invokevirtual 106, 3) := by decide +kernel
theorem dX10_setSail_30 : decode cX10_setSail 30 = .ok (.isub, 1) := by decide +kernel
theorem dX10_setSail_31 : decode cX10_setSail 31 = .ok (.putfield 33, 3) := by decide +kernel
theorem dX10_setSail_34 : decode cX10_setSail 34 = .ok (.aload_n 0, 1) := by decide +kernel
theorem dX10_setSail_35 : decode cX10_setSail 35 = .ok (.dup, 1) := by decide +kernel
theorem dX10_setSail_36 : decode cX10_setSail 36 = .ok (.getfield 40, 3) := by decide +kernel
theorem dX10_setSail_39 : decode cX10_setSail 39 = .ok (.iload_n 3, 1) := by decide +kernel
theorem dX10_setSail_40 : decode cX10_setSail 40 = .ok (.isub, 1) := by decide +kernel
theorem dX10_setSail_41 : decode cX10_setSail 41 = .ok (.putfield 40, 3) := by decide +kernel
theorem dX10_setSail_44 : decode cX10_setSail 44 = .ok (.aload_n 0, 1) := by decide +kernel
theorem dX10_setSail_45 : decode cX10_setSail 45 = .ok (.getfield 17, 3) := by decide +kernel
theorem dX10_setSail_48 : decode cX10_setSail 48 = .ok (.iload_n 1, 1) := by decide +kernel
theorem dX10_setSail_49 : decode cX10_setSail 49 = .ok (.aaload, 1) := by decide +kernel
theorem dX10_setSail_50 : decode cX10_setSail 50 = .ok (.iload_n 2, 1) := by decide +kernel
theorem dX10_setSail_51 : decode cX10_setSail 51 = .ok (.putfield 75, 3) := by decide +kernel
theorem dX10_setSail_54 : decode cX10_setSail 54 = .ok (.aload_n 0, 1) := by decide +kernel
theorem dX10_setSail_55 : decode cX10_setSail 55 = .ok (.getfield 17, 3) := by decide +kernel
theorem dX10_setSail_58 : decode cX10_setSail 58 = .ok (.iload_n 1, 1) := by decide +kernel
theorem dX10_setSail_59 : decode cX10_setSail 59 = .ok (.aaload, 1) := by decide +kernel
theorem dX10_setSail_60 : decode cX10_setSail 60 = .ok (.aload_n 0, 1) := by decide +kernel
theorem dX10_setSail_61 : decode cX10_setSail 61 = .ok (.getfield 23, 3) := by decide +kernel
theorem dX10_setSail_64 : decode cX10_setSail 64 = .ok (.iload_n 2, 1) := by decide +kernel
theorem dX10_setSail_65 : decode cX10_setSail 65 = .ok (.aaload, 1) := by decide +kernel
theorem dX10_setSail_66 : decode cX10_setSail 66 = .ok (.getfield 110, 3) := by decide +kernel
theorem dX10_setSail_69 : decode cX10_setSail 69 = .ok (.putfield 72, 3) := by decide +kernel
theorem dX10_setSail_72 : decode cX10_setSail 72 = .ok (.aload_n 0, 1) := by decide +kernel
theorem dX10_setSail_73 : decode cX10_setSail 73 = .ok (.getfield 17, 3) := by decide +kernel
theorem dX10_setSail_76 : decode cX10_setSail 76 = .ok (.iload_n 1, 1) := by decide +kernel
theorem dX10_setSail_77 : decode cX10_setSail 77 = .ok (.aaload, 1) := by decide +kernel
theorem dX10_setSail_78 : decode cX10_setSail 78 = .ok (.iload_n 3, 1) := by decide +kernel
theorem dX10_setSail_79 : decode cX10_setSail 79 = .ok (.putfield 78, 3) := by decide +kernel
theorem dX10_setSail_82 : decode cX10_setSail 82 = .ok (.aload_n 0, 1) := by decide +kernel
theorem dX10_setSail_83 : decode cX10_setSail 83 = .ok (.getfield 17, 3) := by decide +kernel
theorem dX10_setSail_86 : decode cX10_setSail 86 = .ok (.iload_n 1, 1) := by decide +kernel
theorem dX10_setSail_87 : decode cX10_setSail 87 = .ok (.aaload, 1) := by decide +kernel
theorem dX10_setSail_88 : decode cX10_setSail 88 = .ok (.iload 4, 2) := by decide +kernel
theorem dX10_setSail_90 : decode cX10_setSail 90 = .ok (.putfield 113, 3) := by decide +kernel
theorem dX10_setSail_93 : decode cX10_setSail 93 = .ok (.return_, 1) := by decide +kernel
theorem dX10_fare_0 : decode cX10_fare 0 = .ok (.aload_n 0, 1) := by decide +kernel
theorem dX10_fare_1 : decode cX10_fare 1 = .ok (.iload_n 1, 1) := by decide +kernel
theorem dX10_fare_2 : decode cX10_fare 2 = .ok (.invokevirtual 68, 3) := by decide +kernel
theorem dX10_fare_5 : decode cX10_fare 5 = .ok (.ifCond .eq 35, 3) := by decide +kernel
theorem dX10_fare_8 : decode cX10_fare 8 = .ok (.aload_n 0, 1) := by decide +kernel
theorem dX10_fare_9 : decode cX10_fare 9 = .ok (.getfield 17, 3) := by decide +kernel
theorem dX10_fare_12 : decode cX10_fare 12 = .ok (.iload_n 1, 1) := by decide +kernel
theorem dX10_fare_13 : decode cX10_fare 13 = .ok (.aaload, 1) := by decide +kernel
theorem dX10_fare_14 : decode cX10_fare 14 = .ok (.getfield 87, 3) := by decide +kernel
theorem dX10_fare_17 : decode cX10_fare 17 = .ok (.iload_n 2, 1) := by decide +kernel
theorem dX10_fare_18 : decode cX10_fare 18 = .ok (.iload_n 3, 1) := by decide +kernel
theorem dX10_fare_19 : decode cX10_fare 19 = .ok (.ifCond .eq 12, 3) := by decide +kernel
theorem dX10_fare_22 : decode cX10_fare 22 = .ok (.aload_n 0, 1) := by decide +kernel
theorem dX10_fare_23 : decode cX10_fare 23 = .ok (.getfield 37, 3) := by decide +kernel
theorem dX10_fare_26 : decode cX10_fare 26 = .ok (.iconst 1, 1) := by decide +kernel
theorem dX10_fare_27 : decode cX10_fare 27 = .ok (.iadd, 1) := by decide +kernel
theorem dX10_fare_28 : decode cX10_fare 28 = .ok (.goto 7, 3) := by decide +kernel
theorem dX10_fare_31 : decode cX10_fare 31 = .ok (.aload_n 0, 1) := by decide +kernel
theorem dX10_fare_32 : decode cX10_fare 32 = .ok (.getfield 37, 3) := by decide +kernel
theorem dX10_fare_35 : decode cX10_fare 35 = .ok (.imul, 1) := by decide +kernel
theorem dX10_fare_36 : decode cX10_fare 36 = .ok (.iadd, 1) := by decide +kernel
theorem dX10_fare_37 : decode cX10_fare 37 = .ok (.goto 4, 3) := by decide +kernel
theorem dX10_fare_40 : decode cX10_fare 40 = .ok (.iconst 0, 1) := by decide +kernel
theorem dX10_fare_41 : decode cX10_fare 41 = .ok (.ireturn, 1) := by decide +kernel
theorem dX10_canBuild_0 : decode cX10_canBuild 0 = .ok (.aload_n 0, 1) := by decide +kernel
theorem dX10_canBuild_1 : decode cX10_canBuild 1 = .ok (.iload_n 1, 1) := by decide +kernel
theorem dX10_canBuild_2 : decode cX10_canBuild 2 = .ok (.invokevirtual 99, 3) := by decide +kernel
theorem dX10_canBuild_5 : decode cX10_canBuild 5 = .ok (.ifCond .eq 28, 3) := by decide +kernel
theorem dX10_canBuild_8 : decode cX10_canBuild 8 = .ok (.aload_n 0, 1) := by decide +kernel
theorem dX10_canBuild_9 : decode cX10_canBuild 9 = .ok (.getfield 23, 3) := by decide +kernel
theorem dX10_canBuild_12 : decode cX10_canBuild 12 = .ok (.iload_n 1, 1) := by decide +kernel
theorem dX10_canBuild_13 : decode cX10_canBuild 13 = .ok (.aaload, 1) := by decide +kernel
theorem dX10_canBuild_14 : decode cX10_canBuild 14 = .ok (.getfield 65, 3) := by decide +kernel
theorem dX10_canBuild_17 : decode cX10_canBuild 17 = .ok (.ifCond .ne 16, 3) := by decide +kernel
theorem dX10_canBuild_20 : decode cX10_canBuild 20 = .ok (.aload_n 0, 1) := by decide +kernel
theorem dX10_canBuild_21 : decode cX10_canBuild 21 = .ok (.getfield 33, 3) := by decide +kernel
theorem dX10_canBuild_24 : decode cX10_canBuild 24 = .ok (.bipush 100, 2) := by decide +kernel
theorem dX10_canBuild_26 : decode cX10_canBuild 26 = .ok (.if_icmp .lt 7, 3) := by decide +kernel
theorem dX10_canBuild_29 : decode cX10_canBuild 29 = .ok (.iconst 1, 1) := by decide +kernel
theorem dX10_canBuild_30 : decode cX10_canBuild 30 = .ok (.goto 4, 3) := by decide +kernel
theorem dX10_canBuild_33 : decode cX10_canBuild 33 = .ok (.iconst 0, 1) := by decide +kernel
theorem dX10_canBuild_34 : decode cX10_canBuild 34 = .ok (.ireturn, 1) := by decide +kernel
theorem dX10_putHouse_0 : decode cX10_putHouse 0 = .ok (.aload_n 0, 1) := by decide +kernel
theorem dX10_putHouse_1 : decode cX10_putHouse 1 = .ok (.iload_n 1, 1) := by decide +kernel
theorem dX10_putHouse_2 : decode cX10_putHouse 2 = .ok (.invokevirtual 99, 3) := by decide +kernel
theorem dX10_putHouse_5 : decode cX10_putHouse 5 = .ok (.ifCond .eq 24, 3) := by decide +kernel
theorem dX10_putHouse_8 : decode cX10_putHouse 8 = .ok (.aload_n 0, 1) := by decide +kernel
theorem dX10_putHouse_9 : decode cX10_putHouse 9 = .ok (.getfield 23, 3) := by decide +kernel
theorem dX10_putHouse_12 : decode cX10_putHouse 12 = .ok (.iload_n 1, 1) := by decide +kernel
theorem dX10_putHouse_13 : decode cX10_putHouse 13 = .ok (.aaload, 1) := by decide +kernel
theorem dX10_putHouse_14 : decode cX10_putHouse 14 = .ok (.iconst 1, 1) := by decide +kernel
theorem dX10_putHouse_15 : decode cX10_putHouse 15 = .ok (.putfield 65, 3) := by decide +kernel
theorem dX10_putHouse_18 : decode cX10_putHouse 18 = .ok (.aload_n 0, 1) := by decide +kernel
theorem dX10_putHouse_19 : decode cX10_putHouse 19 = .ok (.dup, 1) := by decide +kernel
theorem dX10_putHouse_20 : decode cX10_putHouse 20 = .ok (.getfield 33, 3) := by decide +kernel
theorem dX10_putHouse_23 : decode cX10_putHouse 23 = .ok (.bipush 100, 2) := by decide +kernel
theorem dX10_putHouse_25 : decode cX10_putHouse 25 = .ok (.isub, 1) := by decide +kernel
theorem dX10_putHouse_26 : decode cX10_putHouse 26 = .ok (.putfield 33, 3) := by decide +kernel
theorem dX10_putHouse_29 : decode cX10_putHouse 29 = .ok (.return_, 1) := by decide +kernel
theorem dX10_isOut_0 : decode cX10_isOut 0 = .ok (.iconst 0, 1) := by decide +kernel
theorem dX10_isOut_1 : decode cX10_isOut 1 = .ok (.istore_n 1, 1) := by decide +kernel
theorem dX10_isOut_2 : decode cX10_isOut 2 = .ok (.iload_n 1, 1) := by decide +kernel
theorem dX10_isOut_3 : decode cX10_isOut 3 = .ok (.aload_n 0, 1) := by decide +kernel
theorem dX10_isOut_4 : decode cX10_isOut 4 = .ok (.getfield 46, 3) := by decide +kernel
theorem dX10_isOut_7 : decode cX10_isOut 7 = .ok (.if_icmp .ge 35, 3) := by decide +kernel
theorem dX10_isOut_10 : decode cX10_isOut 10 = .ok (.aload_n 0, 1) := by decide +kernel
theorem dX10_isOut_11 : decode cX10_isOut 11 = .ok (.iload_n 1, 1) := by decide +kernel
theorem dX10_isOut_12 : decode cX10_isOut 12 = .ok (.invokevirtual 84, 3) := by decide +kernel
theorem dX10_isOut_15 : decode cX10_isOut 15 = .ok (.ifCond .eq 19, 3) := by decide +kernel
theorem dX10_isOut_18 : decode cX10_isOut 18 = .ok (.aload_n 0, 1) := by decide +kernel
theorem dX10_isOut_19 : decode cX10_isOut 19 = .ok (.getfield 49, 3) := by decide +kernel
theorem dX10_isOut_22 : decode cX10_isOut 22 = .ok (.ifCond .le 14, 3) := by decide +kernel
theorem dX10_isOut_25 : decode cX10_isOut 25 = .ok (.aload_n 0, 1) := by decide +kernel
theorem dX10_isOut_26 : decode cX10_isOut 26 = .ok (.iload_n 1, 1) := by decide +kernel
theorem dX10_isOut_27 : decode cX10_isOut 27 = .ok (.invokevirtual 116, 3) := by decide +kernel
theorem dX10_isOut_30 : decode cX10_isOut 30 = .ok (.iconst 1, 1) := by decide +kernel
theorem dX10_isOut_31 : decode cX10_isOut 31 = .ok (.if_icmp .lt 5, 3) := by decide +kernel
theorem dX10_isOut_34 : decode cX10_isOut 34 = .ok (.iconst 0, 1) := by decide +kernel
theorem dX10_isOut_35 : decode cX10_isOut 35 = .ok (.ireturn, 1) := by decide +kernel
theorem dX10_isOut_36 : decode cX10_isOut 36 = .ok (.iinc 1 1, 3) := by decide +kernel
theorem dX10_isOut_39 : decode cX10_isOut 39 = .ok (.goto (-37), 3) := by decide +kernel
theorem dX10_isOut_42 : decode cX10_isOut 42 = .ok (.iconst 0, 1) := by decide +kernel
theorem dX10_isOut_43 : decode cX10_isOut 43 = .ok (.istore_n 1, 1) := by decide +kernel
theorem dX10_isOut_44 : decode cX10_isOut 44 = .ok (.iload_n 1, 1) := by decide +kernel
theorem dX10_isOut_45 : decode cX10_isOut 45 = .ok (.aload_n 0, 1) := by decide +kernel
theorem dX10_isOut_46 : decode cX10_isOut 46 = .ok (.getfield 49, 3) := by decide +kernel
theorem dX10_isOut_49 : decode cX10_isOut 49 = .ok (.if_icmp .ge 23, 3) := by decide +kernel
theorem dX10_isOut_52 : decode cX10_isOut 52 = .ok (.aload_n 0, 1) := by decide +kernel
theorem dX10_isOut_53 : decode cX10_isOut 53 = .ok (.getfield 23, 3) := by decide +kernel
theorem dX10_isOut_56 : decode cX10_isOut 56 = .ok (.iload_n 1, 1) := by decide +kernel
theorem dX10_isOut_57 : decode cX10_isOut 57 = .ok (.aaload, 1) := by decide +kernel
theorem dX10_isOut_58 : decode cX10_isOut 58 = .ok (.getfield 120, 3) := by decide +kernel
theorem dX10_isOut_61 : decode cX10_isOut 61 = .ok (.ifCond .le 5, 3) := by decide +kernel
theorem dX10_isOut_64 : decode cX10_isOut 64 = .ok (.iconst 0, 1) := by decide +kernel
theorem dX10_isOut_65 : decode cX10_isOut 65 = .ok (.ireturn, 1) := by decide +kernel
theorem dX10_isOut_66 : decode cX10_isOut 66 = .ok (.iinc 1 1, 3) := by decide +kernel
theorem dX10_isOut_69 : decode cX10_isOut 69 = .ok (.goto (-25), 3) := by decide +kernel
theorem dX10_isOut_72 : decode cX10_isOut 72 = .ok (.iconst 1, 1) := by decide +kernel
theorem dX10_isOut_73 : decode cX10_isOut 73 = .ok (.ireturn, 1) := by decide +kernel
theorem dX10_passMonth_0 : decode cX10_passMonth 0 = .ok (.iconst 0, 1) := by decide +kernel
theorem dX10_passMonth_1 : decode cX10_passMonth 1 = .ok (.istore_n 3, 1) := by decide +kernel
theorem dX10_passMonth_2 : decode cX10_passMonth 2 = .ok (.aload_n 1, 1) := by decide +kernel
theorem dX10_passMonth_3 : decode cX10_passMonth 3 = .ok (.ifnull 31, 3) := by decide +kernel
theorem dX10_passMonth_6 : decode cX10_passMonth 6 = .ok (.iload_n 3, 1) := by decide +kernel
theorem dX10_passMonth_7 : decode cX10_passMonth 7 = .ok (.aload_n 0, 1) := by decide +kernel
theorem dX10_passMonth_8 : decode cX10_passMonth 8 = .ok (.getfield 46, 3) := by decide +kernel
theorem dX10_passMonth_11 : decode cX10_passMonth 11 = .ok (.if_icmp .ge 23, 3) := by decide +kernel
theorem dX10_passMonth_14 : decode cX10_passMonth 14 = .ok (.aload_n 0, 1) := by decide +kernel
theorem dX10_passMonth_15 : decode cX10_passMonth 15 = .ok (.iload_n 3, 1) := by decide +kernel
theorem dX10_passMonth_16 : decode cX10_passMonth 16 = .ok (.invokevirtual 84, 3) := by decide +kernel
theorem dX10_passMonth_19 : decode cX10_passMonth 19 = .ok (.ifCond .eq 9, 3) := by decide +kernel
theorem dX10_passMonth_22 : decode cX10_passMonth 22 = .ok (.aload_n 0, 1) := by decide +kernel
theorem dX10_passMonth_23 : decode cX10_passMonth 23 = .ok (.aload_n 1, 1) := by decide +kernel
theorem dX10_passMonth_24 : decode cX10_passMonth 24 = .ok (.iload_n 3, 1) := by decide +kernel
theorem dX10_passMonth_25 : decode cX10_passMonth 25 = .ok (.invokevirtual 123, 3) := by decide +kernel
theorem dX10_passMonth_28 : decode cX10_passMonth 28 = .ok (.iinc 3 1, 3) := by decide +kernel
theorem dX10_passMonth_31 : decode cX10_passMonth 31 = .ok (.goto (-29), 3) := by decide +kernel
theorem dX10_passMonth_34 : decode cX10_passMonth 34 = .ok (.aload_n 0, 1) := by decide +kernel
theorem dX10_passMonth_35 : decode cX10_passMonth 35 = .ok (.iload_n 2, 1) := by decide +kernel
theorem dX10_passMonth_36 : decode cX10_passMonth 36 = .ok (.invokevirtual 127, 3) := by decide +kernel
theorem dX10_passMonth_39 : decode cX10_passMonth 39 = .ok (.iconst 0, 1) := by decide +kernel
theorem dX10_passMonth_40 : decode cX10_passMonth 40 = .ok (.istore_n 3, 1) := by decide +kernel
theorem dX10_passMonth_41 : decode cX10_passMonth 41 = .ok (.iload_n 3, 1) := by decide +kernel
theorem dX10_passMonth_42 : decode cX10_passMonth 42 = .ok (.aload_n 0, 1) := by decide +kernel
theorem dX10_passMonth_43 : decode cX10_passMonth 43 = .ok (.getfield 46, 3) := by decide +kernel
theorem dX10_passMonth_46 : decode cX10_passMonth 46 = .ok (.if_icmp .ge 19, 3) := by decide +kernel
theorem dX10_passMonth_49 : decode cX10_passMonth 49 = .ok (.aload_n 0, 1) := by decide +kernel
theorem dX10_passMonth_50 : decode cX10_passMonth 50 = .ok (.aload_n 0, 1) := by decide +kernel
theorem dX10_passMonth_51 : decode cX10_passMonth 51 = .ok (.getfield 17, 3) := by decide +kernel
theorem dX10_passMonth_54 : decode cX10_passMonth 54 = .ok (.iload_n 3, 1) := by decide +kernel
theorem dX10_passMonth_55 : decode cX10_passMonth 55 = .ok (.aaload, 1) := by decide +kernel
theorem dX10_passMonth_56 : decode cX10_passMonth 56 = .ok (.invokevirtual 131, 3) := by decide +kernel
theorem dX10_passMonth_59 : decode cX10_passMonth 59 = .ok (.iinc 3 1, 3) := by decide +kernel
theorem dX10_passMonth_62 : decode cX10_passMonth 62 = .ok (.goto (-21), 3) := by decide +kernel
theorem dX10_passMonth_65 : decode cX10_passMonth 65 = .ok (.iconst 0, 1) := by decide +kernel
theorem dX10_passMonth_66 : decode cX10_passMonth 66 = .ok (.istore_n 3, 1) := by decide +kernel
theorem dX10_passMonth_67 : decode cX10_passMonth 67 = .ok (.iconst 0, 1) := by decide +kernel
theorem dX10_passMonth_68 : decode cX10_passMonth 68 = .ok (.istore 4, 2) := by decide +kernel
theorem dX10_passMonth_70 : decode cX10_passMonth 70 = .ok (.iload 4, 2) := by decide +kernel
theorem dX10_passMonth_72 : decode cX10_passMonth 72 = .ok (.aload_n 0, 1) := by decide +kernel
theorem dX10_passMonth_73 : decode cX10_passMonth 73 = .ok (.getfield 49, 3) := by decide +kernel
theorem dX10_passMonth_76 : decode cX10_passMonth 76 = .ok (.if_icmp .ge 53, 3) := by decide +kernel
theorem dX10_passMonth_79 : decode cX10_passMonth 79 = .ok (.aload_n 0, 1) := by decide +kernel
theorem dX10_passMonth_80 : decode cX10_passMonth 80 = .ok (.getfield 23, 3) := by decide +kernel
theorem dX10_passMonth_83 : decode cX10_passMonth 83 = .ok (.iload 4, 2) := by decide +kernel
theorem dX10_passMonth_85 : decode cX10_passMonth 85 = .ok (.aaload, 1) := by decide +kernel
theorem dX10_passMonth_86 : decode cX10_passMonth 86 = .ok (.invokevirtual 134, 3) := by decide +kernel
theorem dX10_passMonth_89 : decode cX10_passMonth 89 = .ok (.istore 5, 2) := by decide +kernel
theorem dX10_passMonth_91 : decode cX10_passMonth 91 = .ok (.aload_n 0, 1) := by decide +kernel
theorem dX10_passMonth_92 : decode cX10_passMonth 92 = .ok (.ldc 138, 2) := by decide +kernel
theorem dX10_passMonth_94 : decode cX10_passMonth 94 = .ok (.aload_n 0, 1) := by decide +kernel
theorem dX10_passMonth_95 : decode cX10_passMonth 95 = .ok (.getfield 33, 3) := by decide +kernel
theorem dX10_passMonth_98 : decode cX10_passMonth 98 = .ok (.iload 5, 2) := by decide +kernel
theorem dX10_passMonth_100 : decode cX10_passMonth 100 = .ok (.aload_n 0, 1) := by decide +kernel
theorem dX10_passMonth_101 : decode cX10_passMonth 101 = .ok (.getfield 23, 3) := by decide +kernel
theorem dX10_passMonth_104 : decode cX10_passMonth 104 = .ok (.iload 4, 2) := by decide +kernel
theorem dX10_passMonth_106 : decode cX10_passMonth 106 = .ok (.aaload, 1) := by decide +kernel
theorem dX10_passMonth_107 : decode cX10_passMonth 107 = .ok (.getfield 139, 3) := by decide +kernel
theorem dX10_passMonth_110 : decode cX10_passMonth 110 = .ok (.imul, 1) := by decide +kernel
theorem dX10_passMonth_111 : decode cX10_passMonth 111 = .ok (.iadd, 1) := by decide +kernel
theorem dX10_passMonth_112 : decode cX10_passMonth 112 = .ok (.invokestatic 93, 3) := by decide +kernel
theorem dX10_passMonth_115 : decode cX10_passMonth 115 = .ok (.putfield 33, 3) := by decide +kernel
theorem dX10_passMonth_118 : decode cX10_passMonth 118 = .ok (.iload_n 3, 1) := by decide +kernel
theorem dX10_passMonth_119 : decode cX10_passMonth 119 = .ok (.iload 5, 2) := by decide +kernel
theorem dX10_passMonth_121 : decode cX10_passMonth 121 = .ok (.iadd, 1) := by decide +kernel
theorem dX10_passMonth_122 : decode cX10_passMonth 122 = .ok (.istore_n 3, 1) := by decide +kernel
theorem dX10_passMonth_123 : decode cX10_passMonth 123 = .ok (.iinc 4 1, 3) := by decide +kernel
theorem dX10_passMonth_126 : decode cX10_passMonth 126 = .ok (.goto (-56), 3) := by decide +kernel
theorem dX10_passMonth_129 : decode cX10_passMonth 129 = .ok (.aload_n 0, 1) := by decide +kernel
theorem dX10_passMonth_130 : decode cX10_passMonth 130 = .ok (.dup, 1) := by decide +kernel
theorem dX10_passMonth_131 : decode cX10_passMonth 131 = .ok (.getfield 43, 3) := by decide +kernel
theorem dX10_passMonth_134 : decode cX10_passMonth 134 = .ok (.iconst 1, 1) := by decide +kernel
theorem dX10_passMonth_135 : decode cX10_passMonth 135 = .ok (.iadd, 1) := by decide +kernel
theorem dX10_passMonth_136 : decode cX10_passMonth 136 = .ok (.putfield 43, 3) := by decide +kernel
theorem dX10_passMonth_139 : decode cX10_passMonth 139 = .ok (.iload_n 3, 1) := by decide +kernel
theorem dX10_passMonth_140 : decode cX10_passMonth 140 = .ok (.ireturn, 1) := by decide +kernel
theorem dX10_sailByRule_0 : decode cX10_sailByRule 0 = .ok (.lconst 0, 1) := by decide +kernel
theorem dX10_sailByRule_1 : decode cX10_sailByRule 1 = .ok (.lstore_n 3, 1) := by decide +kernel
theorem dX10_sailByRule_2 : decode cX10_sailByRule 2 = .ok (.iconst (-1), 1) := by decide +kernel
theorem dX10_sailByRule_3 : decode cX10_sailByRule 3 = .ok (.istore 5, 2) := by decide +kernel
theorem dX10_sailByRule_5 : decode cX10_sailByRule 5 = .ok (.iconst 0, 1) := by decide +kernel
theorem dX10_sailByRule_6 : decode cX10_sailByRule 6 = .ok (.istore 6, 2) := by decide +kernel
theorem dX10_sailByRule_8 : decode cX10_sailByRule 8 = .ok (.iload 6, 2) := by decide +kernel
theorem dX10_sailByRule_10 : decode cX10_sailByRule 10 = .ok (.aload_n 0, 1) := by decide +kernel
theorem dX10_sailByRule_11 : decode cX10_sailByRule 11 = .ok (.getfield 49, 3) := by decide +kernel
theorem dX10_sailByRule_14 : decode cX10_sailByRule 14 = .ok (.if_icmp .ge 33, 3) := by decide +kernel
theorem dX10_sailByRule_17 : decode cX10_sailByRule 17 = .ok (.aload_n 1, 1) := by decide +kernel
theorem dX10_sailByRule_18 : decode cX10_sailByRule 18 = .ok (.aload_n 0, 1) := by decide +kernel
theorem dX10_sailByRule_19 : decode cX10_sailByRule 19 = .ok (.iload_n 2, 1) := by decide +kernel
theorem dX10_sailByRule_20 : decode cX10_sailByRule 20 = .ok (.iload 6, 2) := by decide +kernel
theorem dX10_sailByRule_22 : decode cX10_sailByRule 22 = .ok (.invokevirtual 142, 3) := by decide +kernel
theorem dX10_sailByRule_25 : decode cX10_sailByRule 25 = .ok (.lstore 7, 2) := by decide +kernel
theorem dX10_sailByRule_27 : decode cX10_sailByRule 27 = .ok (.lload 7, 2) := by decide +kernel
theorem dX10_sailByRule_29 : decode cX10_sailByRule 29 = .ok (.lload_n 3, 1) := by decide +kernel
theorem dX10_sailByRule_30 : decode cX10_sailByRule 30 = .ok (.lcmp, 1) := by decide +kernel
theorem dX10_sailByRule_31 : decode cX10_sailByRule 31 = .ok (.ifCond .le 10, 3) := by decide +kernel
theorem dX10_sailByRule_34 : decode cX10_sailByRule 34 = .ok (.lload 7, 2) := by decide +kernel
theorem dX10_sailByRule_36 : decode cX10_sailByRule 36 = .ok (.lstore_n 3, 1) := by decide +kernel
theorem dX10_sailByRule_37 : decode cX10_sailByRule 37 = .ok (.iload 6, 2) := by decide +kernel
theorem dX10_sailByRule_39 : decode cX10_sailByRule 39 = .ok (.istore 5, 2) := by decide +kernel
theorem dX10_sailByRule_41 : decode cX10_sailByRule 41 = .ok (.iinc 6 1, 3) := by decide +kernel
theorem dX10_sailByRule_44 : decode cX10_sailByRule 44 = .ok (.goto (-36), 3) := by decide +kernel
theorem dX10_sailByRule_47 : decode cX10_sailByRule 47 = .ok (.lload_n 3, 1) := by decide +kernel
theorem dX10_sailByRule_48 : decode cX10_sailByRule 48 = .ok (.aload_n 0, 1) := by decide +kernel
theorem dX10_sailByRule_49 : decode cX10_sailByRule 49 = .ok (.iload_n 2, 1) := by decide +kernel
theorem dX10_sailByRule_50 : decode cX10_sailByRule 50 = .ok (.invokevirtual 116, 3) := by decide +kernel
theorem dX10_sailByRule_53 : decode cX10_sailByRule 53 = .ok (.i2l, 1) := by decide +kernel
theorem dX10_sailByRule_54 : decode cX10_sailByRule 54 = .ok (.invokestatic 148, 3) := by decide +kernel
theorem dX10_sailByRule_57 : decode cX10_sailByRule 57 = .ok (.l2i, 1) := by decide +kernel
theorem dX10_sailByRule_58 : decode cX10_sailByRule 58 = .ok (.istore 6, 2) := by decide +kernel
theorem dX10_sailByRule_60 : decode cX10_sailByRule 60 = .ok (.iload 6, 2) := by decide +kernel
theorem dX10_sailByRule_62 : decode cX10_sailByRule 62 = .ok (.iconst 1, 1) := by decide +kernel
theorem dX10_sailByRule_63 : decode cX10_sailByRule 63 = .ok (.if_icmp .lt 13, 3) := by decide +kernel
theorem dX10_sailByRule_66 : decode cX10_sailByRule 66 = .ok (.aload_n 0, 1) := by decide +kernel
theorem dX10_sailByRule_67 : decode cX10_sailByRule 67 = .ok (.iload_n 2, 1) := by decide +kernel
theorem dX10_sailByRule_68 : decode cX10_sailByRule 68 = .ok (.iload 5, 2) := by decide +kernel
theorem dX10_sailByRule_70 : decode cX10_sailByRule 70 = .ok (.iload 6, 2) := by decide +kernel
theorem dX10_sailByRule_72 : decode cX10_sailByRule 72 = .ok (.iconst 0, 1) := by decide +kernel
theorem dX10_sailByRule_73 : decode cX10_sailByRule 73 = .ok (.invokevirtual 151, 3) := by decide +kernel
theorem dX10_sailByRule_76 : decode cX10_sailByRule 76 = .ok (.return_, 1) := by decide +kernel
theorem dX10_growPond_0 : decode cX10_growPond 0 = .ok (.aload_n 0, 1) := by decide +kernel
theorem dX10_growPond_1 : decode cX10_growPond 1 = .ok (.getfield 11, 3) := by decide +kernel
theorem dX10_growPond_4 : decode cX10_growPond 4 = .ok (.aload_n 0, 1) := by decide +kernel
theorem dX10_growPond_5 : decode cX10_growPond 5 = .ok (.getfield 43, 3) := by decide +kernel
theorem dX10_growPond_8 : decode cX10_growPond 8 = .ok (.bipush 12, 2) := by decide +kernel
theorem dX10_growPond_10 : decode cX10_growPond 10 = .ok (.invokestatic 155, 3) := by decide +kernel
theorem dX10_growPond_13 : decode cX10_growPond 13 = .ok (.iaload, 1) := by decide +kernel
theorem dX10_growPond_14 : decode cX10_growPond 14 = .ok (.iload_n 1, 1) := by decide +kernel
theorem dX10_growPond_15 : decode cX10_growPond 15 = .ok (.imul, 1) := by decide +kernel
theorem dX10_growPond_16 : decode cX10_growPond 16 = .ok (.bipush 100, 2) := by decide +kernel
theorem dX10_growPond_18 : decode cX10_growPond 18 = .ok (.idiv, 1) := by decide +kernel
theorem dX10_growPond_19 : decode cX10_growPond 19 = .ok (.istore_n 2, 1) := by decide +kernel
theorem dX10_growPond_20 : decode cX10_growPond 20 = .ok (.aload_n 0, 1) := by decide +kernel
theorem dX10_growPond_21 : decode cX10_growPond 21 = .ok (.iload_n 2, 1) := by decide +kernel
theorem dX10_growPond_22 : decode cX10_growPond 22 = .ok (.ifCond .le 18, 3) := by decide +kernel
theorem dX10_growPond_25 : decode cX10_growPond 25 = .ok (.sipush 999, 3) := by decide +kernel
theorem dX10_growPond_28 : decode cX10_growPond 28 = .ok (.aload_n 0, 1) := by decide +kernel
theorem dX10_growPond_29 : decode cX10_growPond 29 = .ok (.getfield 40, 3) := by decide +kernel
theorem dX10_growPond_32 : decode cX10_growPond 32 = .ok (.iload_n 2, 1) := by decide +kernel
theorem dX10_growPond_33 : decode cX10_growPond 33 = .ok (.iadd, 1) := by decide +kernel
theorem dX10_growPond_34 : decode cX10_growPond 34 = .ok (.invokestatic 93, 3) := by decide +kernel
theorem dX10_growPond_37 : decode cX10_growPond 37 = .ok (.goto 12, 3) := by decide +kernel
theorem dX10_growPond_40 : decode cX10_growPond 40 = .ok (.aload_n 0, 1) := by decide +kernel
theorem dX10_growPond_41 : decode cX10_growPond 41 = .ok (.getfield 40, 3) := by decide +kernel
theorem dX10_growPond_44 : decode cX10_growPond 44 = .ok (.bipush 10, 2) := by decide +kernel
theorem dX10_growPond_46 : decode cX10_growPond 46 = .ok (.invokestatic 158, 3) := by decide +kernel
theorem dX10_growPond_49 : decode cX10_growPond 49 = .ok (.putfield 40, 3) := by decide +kernel
theorem dX10_growPond_52 : decode cX10_growPond 52 = .ok (.return_, 1) := by decide +kernel
theorem dX10_moveShip_0 : decode cX10_moveShip 0 = .ok (.aload_n 1, 1) := by decide +kernel
theorem dX10_moveShip_1 : decode cX10_moveShip 1 = .ok (.getfield 72, 3) := by decide +kernel
theorem dX10_moveShip_4 : decode cX10_moveShip 4 = .ok (.ifCond .ne 4, 3) := by decide +kernel
theorem dX10_moveShip_7 : decode cX10_moveShip 7 = .ok (.return_, 1) := by decide +kernel
theorem dX10_moveShip_8 : decode cX10_moveShip 8 = .ok (.aload_n 1, 1) := by decide +kernel
theorem dX10_moveShip_9 : decode cX10_moveShip 9 = .ok (.dup, 1) := by decide +kernel
theorem dX10_moveShip_10 : decode cX10_moveShip 10 = .ok (.getfield 72, 3) := by decide +kernel
theorem dX10_moveShip_13 : decode cX10_moveShip 13 = .ok (.iconst 1, 1) := by decide +kernel
theorem dX10_moveShip_14 : decode cX10_moveShip 14 = .ok (.isub, 1) := by decide +kernel
theorem dX10_moveShip_15 : decode cX10_moveShip 15 = .ok (.putfield 72, 3) := by decide +kernel
theorem dX10_moveShip_18 : decode cX10_moveShip 18 = .ok (.aload_n 0, 1) := by decide +kernel
theorem dX10_moveShip_19 : decode cX10_moveShip 19 = .ok (.aload_n 1, 1) := by decide +kernel
theorem dX10_moveShip_20 : decode cX10_moveShip 20 = .ok (.getfield 75, 3) := by decide +kernel
theorem dX10_moveShip_23 : decode cX10_moveShip 23 = .ok (.invokevirtual 99, 3) := by decide +kernel
theorem dX10_moveShip_26 : decode cX10_moveShip 26 = .ok (.ifCond .ne 4, 3) := by decide +kernel
theorem dX10_moveShip_29 : decode cX10_moveShip 29 = .ok (.return_, 1) := by decide +kernel
theorem dX10_moveShip_30 : decode cX10_moveShip 30 = .ok (.aload_n 0, 1) := by decide +kernel
theorem dX10_moveShip_31 : decode cX10_moveShip 31 = .ok (.getfield 23, 3) := by decide +kernel
theorem dX10_moveShip_34 : decode cX10_moveShip 34 = .ok (.aload_n 1, 1) := by decide +kernel
theorem dX10_moveShip_35 : decode cX10_moveShip 35 = .ok (.getfield 75, 3) := by decide +kernel
theorem dX10_moveShip_38 : decode cX10_moveShip 38 = .ok (.aaload, 1) := by decide +kernel
theorem dX10_moveShip_39 : decode cX10_moveShip 39 = .ok (.astore_n 2, 1) := by decide +kernel
theorem dX10_moveShip_40 : decode cX10_moveShip 40 = .ok (.aload_n 1, 1) := by decide +kernel
theorem dX10_moveShip_41 : decode cX10_moveShip 41 = .ok (.aload_n 1, 1) := by decide +kernel
theorem dX10_moveShip_42 : decode cX10_moveShip 42 = .ok (.getfield 78, 3) := by decide +kernel
theorem dX10_moveShip_45 : decode cX10_moveShip 45 = .ok (.aload_n 2, 1) := by decide +kernel
theorem dX10_moveShip_46 : decode cX10_moveShip 46 = .ok (.aload_n 1, 1) := by decide +kernel
theorem dX10_moveShip_47 : decode cX10_moveShip 47 = .ok (.getfield 113, 3) := by decide +kernel
theorem dX10_moveShip_50 : decode cX10_moveShip 50 = .ok (.invokevirtual 161, 3) := by decide +kernel
theorem dX10_moveShip_53 : decode cX10_moveShip 53 = .ok (.invokestatic 158, 3) := by decide +kernel
theorem dX10_moveShip_56 : decode cX10_moveShip 56 = .ok (.putfield 78, 3) := by decide +kernel
theorem dX10_moveShip_59 : decode cX10_moveShip 59 = .ok (.aload_n 1, 1) := by decide +kernel
theorem dX10_moveShip_60 : decode cX10_moveShip 60 = .ok (.getfield 72, 3) := by decide +kernel
theorem dX10_moveShip_63 : decode cX10_moveShip 63 = .ok (.ifCond .ne 28, 3) := by decide +kernel
theorem dX10_moveShip_66 : decode cX10_moveShip 66 = .ok (.aload_n 2, 1) := by decide +kernel
theorem dX10_moveShip_67 : decode cX10_moveShip 67 = .ok (.dup, 1) := by decide +kernel
theorem dX10_moveShip_68 : decode cX10_moveShip 68 = .ok (.getfield 120, 3) := by decide +kernel
theorem dX10_moveShip_71 : decode cX10_moveShip 71 = .ok (.aload_n 1, 1) := by decide +kernel
theorem dX10_moveShip_72 : decode cX10_moveShip 72 = .ok (.getfield 78, 3) := by decide +kernel
theorem dX10_moveShip_75 : decode cX10_moveShip 75 = .ok (.iadd, 1) := by decide +kernel
theorem dX10_moveShip_76 : decode cX10_moveShip 76 = .ok (.putfield 120, 3) := by decide +kernel
theorem dX10_moveShip_79 : decode cX10_moveShip 79 = .ok (.aload_n 1, 1) := by decide +kernel
theorem dX10_moveShip_80 : decode cX10_moveShip 80 = .ok (.invokevirtual 165, 3) := by decide +kernel
theorem dX10_moveShip_83 : decode cX10_moveShip 83 = .ok (.aload_n 1, 1) := by decide +kernel
theorem dX10_moveShip_84 : decode cX10_moveShip 84 = .ok (.aload_n 2, 1) := by decide +kernel
theorem dX10_moveShip_85 : decode cX10_moveShip 85 = .ok (.getfield 110, 3) := by decide +kernel
theorem dX10_moveShip_88 : decode cX10_moveShip 88 = .ok (.putfield 72, 3) := by decide +kernel
theorem dX10_moveShip_91 : decode cX10_moveShip 91 = .ok (.return_, 1) := by decide +kernel
