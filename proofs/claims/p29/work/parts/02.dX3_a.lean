theorem dX3_init_0 : decode cX3_init 0 = .ok (.aload_n 0, 1) := by decide +kernel
theorem dX3_init_1 : decode cX3_init 1 = .ok (.invokespecial 3, 3) := by decide +kernel
theorem dX3_init_4 : decode cX3_init 4 = .ok (.aload_n 0, 1) := by decide +kernel
theorem dX3_init_5 : decode cX3_init 5 = .ok (.bipush 13, 2) := by decide +kernel
theorem dX3_init_7 : decode cX3_init 7 = .ok (.newarray .long, 2) := by decide +kernel
theorem dX3_init_9 : decode cX3_init 9 = .ok (.putfield 11, 3) := by decide +kernel
theorem dX3_init_12 : decode cX3_init 12 = .ok (.aload_n 0, 1) := by decide +kernel
theorem dX3_init_13 : decode cX3_init 13 = .ok (.bipush 60, 2) := by decide +kernel
theorem dX3_init_15 : decode cX3_init 15 = .ok (.newarray .int, 2) := by decide +kernel
theorem dX3_init_17 : decode cX3_init 17 = .ok (.putfield 15, 3) := by decide +kernel
theorem dX3_init_20 : decode cX3_init 20 = .ok (.aload_n 0, 1) := by decide +kernel
theorem dX3_init_21 : decode cX3_init 21 = .ok (.bipush 60, 2) := by decide +kernel
theorem dX3_init_23 : decode cX3_init 23 = .ok (.newarray .int, 2) := by decide +kernel
theorem dX3_init_25 : decode cX3_init 25 = .ok (.putfield 19, 3) := by decide +kernel
theorem dX3_init_28 : decode cX3_init 28 = .ok (.aload_n 0, 1) := by decide +kernel
theorem dX3_init_29 : decode cX3_init 29 = .ok (.bipush 60, 2) := by decide +kernel
theorem dX3_init_31 : decode cX3_init 31 = .ok (.newarray .int, 2) := by decide +kernel
theorem dX3_init_33 : decode cX3_init 33 = .ok (.putfield 22, 3) := by decide +kernel
theorem dX3_init_36 : decode cX3_init 36 = .ok (.aload_n 0, 1) := by decide +kernel
theorem dX3_init_37 : decode cX3_init 37 = .ok (.bipush 60, 2) := by decide +kernel
theorem dX3_init_39 : decode cX3_init 39 = .ok (.newarray .int, 2) := by decide +kernel
theorem dX3_init_41 : decode cX3_init 41 = .ok (.putfield 25, 3) := by decide +kernel
theorem dX3_init_44 : decode cX3_init 44 = .ok (.aload_n 0, 1) := by decide +kernel
theorem dX3_init_45 : decode cX3_init 45 = .ok (.bipush 60, 2) := by decide +kernel
theorem dX3_init_47 : decode cX3_init 47 = .ok (.newarray .int, 2) := by decide +kernel
theorem dX3_init_49 : decode cX3_init 49 = .ok (.putfield 28, 3) := by decide +kernel
theorem dX3_init_52 : decode cX3_init 52 = .ok (.aload_n 0, 1) := by decide +kernel
theorem dX3_init_53 : decode cX3_init 53 = .ok (.bipush 60, 2) := by decide +kernel
theorem dX3_init_55 : decode cX3_init 55 = .ok (.newarray .int, 2) := by decide +kernel
theorem dX3_init_57 : decode cX3_init 57 = .ok (.putfield 31, 3) := by decide +kernel
theorem dX3_init_60 : decode cX3_init 60 = .ok (.aload_n 0, 1) := by decide +kernel
theorem dX3_init_61 : decode cX3_init 61 = .ok (.sipush 400, 3) := by decide +kernel
theorem dX3_init_64 : decode cX3_init 64 = .ok (.newarray .int, 2) := by decide +kernel
theorem dX3_init_66 : decode cX3_init 66 = .ok (.putfield 36, 3) := by decide +kernel
theorem dX3_init_69 : decode cX3_init 69 = .ok (.aload_n 0, 1) := by decide +kernel
theorem dX3_init_70 : decode cX3_init 70 = .ok (.bipush 12, 2) := by decide +kernel
theorem dX3_init_72 : decode cX3_init 72 = .ok (.newarray .int, 2) := by decide +kernel
theorem dX3_init_74 : decode cX3_init 74 = .ok (.putfield 39, 3) := by decide +kernel
theorem dX3_init_77 : decode cX3_init 77 = .ok (.aload_n 0, 1) := by decide +kernel
theorem dX3_init_78 : decode cX3_init 78 = .ok (.bipush 12, 2) := by decide +kernel
theorem dX3_init_80 : decode cX3_init 80 = .ok (.newarray .int, 2) := by decide +kernel
theorem dX3_init_82 : decode cX3_init 82 = .ok (.putfield 42, 3) := by decide +kernel
theorem dX3_init_85 : decode cX3_init 85 = .ok (.aload_n 0, 1) := by decide +kernel
theorem dX3_init_86 : decode cX3_init 86 = .ok (.bipush 12, 2) := by decide +kernel
theorem dX3_init_88 : decode cX3_init 88 = .ok (.newarray .int, 2) := by decide +kernel
theorem dX3_init_90 : decode cX3_init 90 = .ok (.putfield 45, 3) := by decide +kernel
theorem dX3_init_93 : decode cX3_init 93 = .ok (.aload_n 0, 1) := by decide +kernel
theorem dX3_init_94 : decode cX3_init 94 = .ok (.bipush 12, 2) := by decide +kernel
theorem dX3_init_96 : decode cX3_init 96 = .ok (.newarray .int, 2) := by decide +kernel
theorem dX3_init_98 : decode cX3_init 98 = .ok (.putfield 48, 3) := by decide +kernel
theorem dX3_init_101 : decode cX3_init 101 = .ok (.return_, 1) := by decide +kernel
theorem dX3_clear_0 : decode cX3_clear 0 = .ok (.aload_n 0, 1) := by decide +kernel
theorem dX3_clear_1 : decode cX3_clear 1 = .ok (.iconst 0, 1) := by decide +kernel
theorem dX3_clear_2 : decode cX3_clear 2 = .ok (.putfield 51, 3) := by decide +kernel
theorem dX3_clear_5 : decode cX3_clear 5 = .ok (.aload_n 0, 1) := by decide +kernel
theorem dX3_clear_6 : decode cX3_clear 6 = .ok (.iconst 0, 1) := by decide +kernel
theorem dX3_clear_7 : decode cX3_clear 7 = .ok (.putfield 55, 3) := by decide +kernel
theorem dX3_clear_10 : decode cX3_clear 10 = .ok (.aload_n 0, 1) := by decide +kernel
theorem dX3_clear_11 : decode cX3_clear 11 = .ok (.iconst 0, 1) := by decide +kernel
theorem dX3_clear_12 : decode cX3_clear 12 = .ok (.putfield 58, 3) := by decide +kernel
theorem dX3_clear_15 : decode cX3_clear 15 = .ok (.aload_n 0, 1) := by decide +kernel
theorem dX3_clear_16 : decode cX3_clear 16 = .ok (.iconst 0, 1) := by decide +kernel
theorem dX3_clear_17 : decode cX3_clear 17 = .ok (.putfield 61, 3) := by decide +kernel
theorem dX3_clear_20 : decode cX3_clear 20 = .ok (.return_, 1) := by decide +kernel
theorem dX3_hasRoomForClause_0 : decode cX3_hasRoomForClause 0 = .ok (.aload_n 0, 1) := by decide +kernel
theorem dX3_hasRoomForClause_1 : decode cX3_hasRoomForClause 1 = .ok (.getfield 61, 3) := by decide +kernel
theorem dX3_hasRoomForClause_4 : decode cX3_hasRoomForClause 4 = .ok (.bipush 12, 2) := by decide +kernel
theorem dX3_hasRoomForClause_6 : decode cX3_hasRoomForClause 6 = .ok (.if_icmp .ge 7, 3) := by decide +kernel
theorem dX3_hasRoomForClause_9 : decode cX3_hasRoomForClause 9 = .ok (.iconst 1, 1) := by decide +kernel
theorem dX3_hasRoomForClause_10 : decode cX3_hasRoomForClause 10 = .ok (.goto 4, 3) := by decide +kernel
theorem dX3_hasRoomForClause_13 : decode cX3_hasRoomForClause 13 = .ok (.iconst 0, 1) := by decide +kernel
theorem dX3_hasRoomForClause_14 : decode cX3_hasRoomForClause 14 = .ok (.ireturn, 1) := by decide +kernel
theorem dX3_hasRoomForPart_0 : decode cX3_hasRoomForPart 0 = .ok (.aload_n 0, 1) := by decide +kernel
theorem dX3_hasRoomForPart_1 : decode cX3_hasRoomForPart 1 = .ok (.getfield 51, 3) := by decide +kernel
theorem dX3_hasRoomForPart_4 : decode cX3_hasRoomForPart 4 = .ok (.aload_n 0, 1) := by decide +kernel
theorem dX3_hasRoomForPart_5 : decode cX3_hasRoomForPart 5 = .ok (.getfield 55, 3) := by decide +kernel
theorem dX3_hasRoomForPart_8 : decode cX3_hasRoomForPart 8 = .ok (.iadd, 1) := by decide +kernel
theorem dX3_hasRoomForPart_9 : decode cX3_hasRoomForPart 9 = .ok (.bipush 60, 2) := by decide +kernel
theorem dX3_hasRoomForPart_11 : decode cX3_hasRoomForPart 11 = .ok (.if_icmp .ge 7, 3) := by decide +kernel
theorem dX3_hasRoomForPart_14 : decode cX3_hasRoomForPart 14 = .ok (.iconst 1, 1) := by decide +kernel
theorem dX3_hasRoomForPart_15 : decode cX3_hasRoomForPart 15 = .ok (.goto 4, 3) := by decide +kernel
theorem dX3_hasRoomForPart_18 : decode cX3_hasRoomForPart 18 = .ok (.iconst 0, 1) := by decide +kernel
theorem dX3_hasRoomForPart_19 : decode cX3_hasRoomForPart 19 = .ok (.ireturn, 1) := by decide +kernel
theorem dX3_asOperand_0 : decode cX3_asOperand 0 = .ok (.iconst (-1), 1) := by decide +kernel
theorem dX3_asOperand_1 : decode cX3_asOperand 1 = .ok (.iload_n 0, 1) := by decide +kernel
theorem dX3_asOperand_2 : decode cX3_asOperand 2 = .ok (.isub, 1) := by decide +kernel
theorem dX3_asOperand_3 : decode cX3_asOperand 3 = .ok (.ireturn, 1) := by decide +kernel
theorem dX3_addValue_0 : decode cX3_addValue 0 = .ok (.aload_n 0, 1) := by decide +kernel
theorem dX3_addValue_1 : decode cX3_addValue 1 = .ok (.getfield 51, 3) := by decide +kernel
theorem dX3_addValue_4 : decode cX3_addValue 4 = .ok (.bipush 60, 2) := by decide +kernel
theorem dX3_addValue_6 : decode cX3_addValue 6 = .ok (.if_icmp .ge 33, 3) := by decide +kernel
theorem dX3_addValue_9 : decode cX3_addValue 9 = .ok (.aload_n 0, 1) := by decide +kernel
theorem dX3_addValue_10 : decode cX3_addValue 10 = .ok (.getfield 15, 3) := by decide +kernel
theorem dX3_addValue_13 : decode cX3_addValue 13 = .ok (.aload_n 0, 1) := by decide +kernel
theorem dX3_addValue_14 : decode cX3_addValue 14 = .ok (.getfield 51, 3) := by decide +kernel
theorem dX3_addValue_17 : decode cX3_addValue 17 = .ok (.iload_n 1, 1) := by decide +kernel
theorem dX3_addValue_18 : decode cX3_addValue 18 = .ok (.iastore, 1) := by decide +kernel
theorem dX3_addValue_19 : decode cX3_addValue 19 = .ok (.aload_n 0, 1) := by decide +kernel
theorem dX3_addValue_20 : decode cX3_addValue 20 = .ok (.getfield 19, 3) := by decide +kernel
theorem dX3_addValue_23 : decode cX3_addValue 23 = .ok (.aload_n 0, 1) := by decide +kernel
theorem dX3_addValue_24 : decode cX3_addValue 24 = .ok (.getfield 51, 3) := by decide +kernel
theorem dX3_addValue_27 : decode cX3_addValue 27 = .ok (.iload_n 2, 1) := by decide +kernel
theorem dX3_addValue_28 : decode cX3_addValue 28 = .ok (.iastore, 1) := by decide +kernel
theorem dX3_addValue_29 : decode cX3_addValue 29 = .ok (.aload_n 0, 1) := by decide +kernel
theorem dX3_addValue_30 : decode cX3_addValue 30 = .ok (.dup, 1) := by decide +kernel
theorem dX3_addValue_31 : decode cX3_addValue 31 = .ok (.getfield 51, 3) := by decide +kernel
theorem dX3_addValue_34 : decode cX3_addValue 34 = .ok (.iconst 1, 1) := by decide +kernel
theorem dX3_addValue_35 : decode cX3_addValue 35 = .ok (.iadd, 1) := by decide +kernel
theorem dX3_addValue_36 : decode cX3_addValue 36 = .ok (.putfield 51, 3) := by decide +kernel
theorem dX3_addValue_39 : decode cX3_addValue 39 = .ok (.return_, 1) := by decide +kernel
theorem dX3_addFact_0 : decode cX3_addFact 0 = .ok (.aload_n 0, 1) := by decide +kernel
theorem dX3_addFact_1 : decode cX3_addFact 1 = .ok (.getfield 55, 3) := by decide +kernel
theorem dX3_addFact_4 : decode cX3_addFact 4 = .ok (.bipush 60, 2) := by decide +kernel
theorem dX3_addFact_6 : decode cX3_addFact 6 = .ok (.if_icmp .lt 5, 3) := by decide +kernel
theorem dX3_addFact_9 : decode cX3_addFact 9 = .ok (.iconst (-1), 1) := by decide +kernel
theorem dX3_addFact_10 : decode cX3_addFact 10 = .ok (.ireturn, 1) := by decide +kernel
theorem dX3_addFact_11 : decode cX3_addFact 11 = .ok (.aload_n 0, 1) := by decide +kernel
theorem dX3_addFact_12 : decode cX3_addFact 12 = .ok (.getfield 22, 3) := by decide +kernel
theorem dX3_addFact_15 : decode cX3_addFact 15 = .ok (.aload_n 0, 1) := by decide +kernel
theorem dX3_addFact_16 : decode cX3_addFact 16 = .ok (.getfield 55, 3) := by decide +kernel
theorem dX3_addFact_19 : decode cX3_addFact 19 = .ok (.iload_n 1, 1) := by decide +kernel
theorem dX3_addFact_20 : decode cX3_addFact 20 = .ok (.iastore, 1) := by decide +kernel
theorem dX3_addFact_21 : decode cX3_addFact 21 = .ok (.aload_n 0, 1) := by decide +kernel
theorem dX3_addFact_22 : decode cX3_addFact 22 = .ok (.getfield 25, 3) := by decide +kernel
theorem dX3_addFact_25 : decode cX3_addFact 25 = .ok (.aload_n 0, 1) := by decide +kernel
theorem dX3_addFact_26 : decode cX3_addFact 26 = .ok (.getfield 55, 3) := by decide +kernel
theorem dX3_addFact_29 : decode cX3_addFact 29 = .ok (.aload_n 0, 1) := by decide +kernel
theorem dX3_addFact_30 : decode cX3_addFact 30 = .ok (.getfield 51, 3) := by decide +kernel
theorem dX3_addFact_33 : decode cX3_addFact 33 = .ok (.iastore, 1) := by decide +kernel
theorem dX3_addFact_34 : decode cX3_addFact 34 = .ok (.aload_n 0, 1) := by decide +kernel
theorem dX3_addFact_35 : decode cX3_addFact 35 = .ok (.getfield 28, 3) := by decide +kernel
theorem dX3_addFact_38 : decode cX3_addFact 38 = .ok (.aload_n 0, 1) := by decide +kernel
theorem dX3_addFact_39 : decode cX3_addFact 39 = .ok (.getfield 55, 3) := by decide +kernel
theorem dX3_addFact_42 : decode cX3_addFact 42 = .ok (.aload_n 0, 1) := by decide +kernel
theorem dX3_addFact_43 : decode cX3_addFact 43 = .ok (.getfield 51, 3) := by decide +kernel
theorem dX3_addFact_46 : decode cX3_addFact 46 = .ok (.iastore, 1) := by decide +kernel
theorem dX3_addFact_47 : decode cX3_addFact 47 = .ok (.aload_n 0, 1) := by decide +kernel
theorem dX3_addFact_48 : decode cX3_addFact 48 = .ok (.getfield 31, 3) := by decide +kernel
theorem dX3_addFact_51 : decode cX3_addFact 51 = .ok (.aload_n 0, 1) := by decide +kernel
theorem dX3_addFact_52 : decode cX3_addFact 52 = .ok (.getfield 55, 3) := by decide +kernel
theorem dX3_addFact_55 : decode cX3_addFact 55 = .ok (.iload_n 2, 1) := by decide +kernel
theorem dX3_addFact_56 : decode cX3_addFact 56 = .ok (.iastore, 1) := by decide +kernel
theorem dX3_addFact_57 : decode cX3_addFact 57 = .ok (.aload_n 0, 1) := by decide +kernel
theorem dX3_addFact_58 : decode cX3_addFact 58 = .ok (.dup, 1) := by decide +kernel
theorem dX3_addFact_59 : decode cX3_addFact 59 = .ok (.getfield 55, 3) := by decide +kernel
theorem dX3_addFact_62 : decode cX3_addFact 62 = .ok (.iconst 1, 1) := by decide +kernel
theorem dX3_addFact_63 : decode cX3_addFact 63 = .ok (.iadd, 1) := by decide +kernel
theorem dX3_addFact_64 : decode cX3_addFact 64 = .ok (.putfield 55, 3) := by decide +kernel
theorem dX3_addFact_67 : decode cX3_addFact 67 = .ok (.aload_n 0, 1) := by decide +kernel
theorem dX3_addFact_68 : decode cX3_addFact 68 = .ok (.getfield 55, 3) := by decide +kernel
theorem dX3_addFact_71 : decode cX3_addFact 71 = .ok (.iconst 1, 1) := by decide +kernel
theorem dX3_addFact_72 : decode cX3_addFact 72 = .ok (.isub, 1) := by decide +kernel
theorem dX3_addFact_73 : decode cX3_addFact 73 = .ok (.ireturn, 1) := by decide +kernel
theorem dX3_closeFact_0 : decode cX3_closeFact 0 = .ok (.iload_n 1, 1) := by decide +kernel
theorem dX3_closeFact_1 : decode cX3_closeFact 1 = .ok (.ifCond .lt 21, 3) := by decide +kernel
theorem dX3_closeFact_4 : decode cX3_closeFact 4 = .ok (.iload_n 1, 1) := by decide +kernel
theorem dX3_closeFact_5 : decode cX3_closeFact 5 = .ok (.aload_n 0, 1) := by decide +kernel
theorem dX3_closeFact_6 : decode cX3_closeFact 6 = .ok (.getfield 55, 3) := by decide +kernel
theorem dX3_closeFact_9 : decode cX3_closeFact 9 = .ok (.if_icmp .ge 13, 3) := by decide +kernel
theorem dX3_closeFact_12 : decode cX3_closeFact 12 = .ok (.aload_n 0, 1) := by decide +kernel
theorem dX3_closeFact_13 : decode cX3_closeFact 13 = .ok (.getfield 28, 3) := by decide +kernel
theorem dX3_closeFact_16 : decode cX3_closeFact 16 = .ok (.iload_n 1, 1) := by decide +kernel
theorem dX3_closeFact_17 : decode cX3_closeFact 17 = .ok (.aload_n 0, 1) := by decide +kernel
theorem dX3_closeFact_18 : decode cX3_closeFact 18 = .ok (.getfield 51, 3) := by decide +kernel
theorem dX3_closeFact_21 : decode cX3_closeFact 21 = .ok (.iastore, 1) := by decide +kernel
theorem dX3_closeFact_22 : decode cX3_closeFact 22 = .ok (.return_, 1) := by decide +kernel
theorem dX3_addStep_0 : decode cX3_addStep 0 = .ok (.aload_n 0, 1) := by decide +kernel
theorem dX3_addStep_1 : decode cX3_addStep 1 = .ok (.getfield 58, 3) := by decide +kernel
theorem dX3_addStep_4 : decode cX3_addStep 4 = .ok (.aload_n 0, 1) := by decide +kernel
theorem dX3_addStep_5 : decode cX3_addStep 5 = .ok (.getfield 36, 3) := by decide +kernel
theorem dX3_addStep_8 : decode cX3_addStep 8 = .ok (.arraylength, 1) := by decide +kernel
theorem dX3_addStep_9 : decode cX3_addStep 9 = .ok (.if_icmp .ge 23, 3) := by decide +kernel
theorem dX3_addStep_12 : decode cX3_addStep 12 = .ok (.aload_n 0, 1) := by decide +kernel
theorem dX3_addStep_13 : decode cX3_addStep 13 = .ok (.getfield 36, 3) := by decide +kernel
theorem dX3_addStep_16 : decode cX3_addStep 16 = .ok (.aload_n 0, 1) := by decide +kernel
theorem dX3_addStep_17 : decode cX3_addStep 17 = .ok (.getfield 58, 3) := by decide +kernel
theorem dX3_addStep_20 : decode cX3_addStep 20 = .ok (.iload_n 1, 1) := by decide +kernel
theorem dX3_addStep_21 : decode cX3_addStep 21 = .ok (.iastore, 1) := by decide +kernel
theorem dX3_addStep_22 : decode cX3_addStep 22 = .ok (.aload_n 0, 1) := by decide +kernel
theorem dX3_addStep_23 : decode cX3_addStep 23 = .ok (.dup, 1) := by decide +kernel
theorem dX3_addStep_24 : decode cX3_addStep 24 = .ok (.getfield 58, 3) := by decide +kernel
theorem dX3_addStep_27 : decode cX3_addStep 27 = .ok (.iconst 1, 1) := by decide +kernel
theorem dX3_addStep_28 : decode cX3_addStep 28 = .ok (.iadd, 1) := by decide +kernel
theorem dX3_addStep_29 : decode cX3_addStep 29 = .ok (.putfield 58, 3) := by decide +kernel
theorem dX3_addStep_32 : decode cX3_addStep 32 = .ok (.return_, 1) := by decide +kernel
theorem dX3_addClause_0 : decode cX3_addClause 0 = .ok (.aload_n 0, 1) := by decide +kernel
theorem dX3_addClause_1 : decode cX3_addClause 1 = .ok (.getfield 61, 3) := by decide +kernel
theorem dX3_addClause_4 : decode cX3_addClause 4 = .ok (.bipush 12, 2) := by decide +kernel
theorem dX3_addClause_6 : decode cX3_addClause 6 = .ok (.if_icmp .ge 56, 3) := by decide +kernel
theorem dX3_addClause_9 : decode cX3_addClause 9 = .ok (.aload_n 0, 1) := by decide +kernel
theorem dX3_addClause_10 : decode cX3_addClause 10 = .ok (.getfield 39, 3) := by decide +kernel
theorem dX3_addClause_13 : decode cX3_addClause 13 = .ok (.aload_n 0, 1) := by decide +kernel
theorem dX3_addClause_14 : decode cX3_addClause 14 = .ok (.getfield 61, 3) := by decide +kernel
theorem dX3_addClause_17 : decode cX3_addClause 17 = .ok (.iload_n 1, 1) := by decide +kernel
theorem dX3_addClause_18 : decode cX3_addClause 18 = .ok (.iastore, 1) := by decide +kernel
theorem dX3_addClause_19 : decode cX3_addClause 19 = .ok (.aload_n 0, 1) := by decide +kernel
theorem dX3_addClause_20 : decode cX3_addClause 20 = .ok (.getfield 42, 3) := by decide +kernel
theorem dX3_addClause_23 : decode cX3_addClause 23 = .ok (.aload_n 0, 1) := by decide +kernel
theorem dX3_addClause_24 : decode cX3_addClause 24 = .ok (.getfield 61, 3) := by decide +kernel
theorem dX3_addClause_27 : decode cX3_addClause 27 = .ok (.iload_n 2, 1) := by decide +kernel
theorem dX3_addClause_28 : decode cX3_addClause 28 = .ok (.iastore, 1) := by decide +kernel
theorem dX3_addClause_29 : decode cX3_addClause 29 = .ok (.aload_n 0, 1) := by decide +kernel
theorem dX3_addClause_30 : decode cX3_addClause 30 = .ok (.getfield 45, 3) := by decide +kernel
theorem dX3_addClause_33 : decode cX3_addClause 33 = .ok (.aload_n 0, 1) := by decide +kernel
theorem dX3_addClause_34 : decode cX3_addClause 34 = .ok (.getfield 61, 3) := by decide +kernel
theorem dX3_addClause_37 : decode cX3_addClause 37 = .ok (.iload_n 3, 1) := by decide +kernel
theorem dX3_addClause_38 : decode cX3_addClause 38 = .ok (.iastore, 1) := by decide +kernel
theorem dX3_addClause_39 : decode cX3_addClause 39 = .ok (.aload_n 0, 1) := by decide +kernel
theorem dX3_addClause_40 : decode cX3_addClause 40 = .ok (.getfield 48, 3) := by decide +kernel
theorem dX3_addClause_43 : decode cX3_addClause 43 = .ok (.aload_n 0, 1) := by decide +kernel
theorem dX3_addClause_44 : decode cX3_addClause 44 = .ok (.getfield 61, 3) := by decide +kernel
theorem dX3_addClause_47 : decode cX3_addClause 47 = .ok (.aload_n 0, 1) := by decide +kernel
theorem dX3_addClause_48 : decode cX3_addClause 48 = .ok (.getfield 58, 3) := by decide +kernel
theorem dX3_addClause_51 : decode cX3_addClause 51 = .ok (.iastore, 1) := by decide +kernel
theorem dX3_addClause_52 : decode cX3_addClause 52 = .ok (.aload_n 0, 1) := by decide +kernel
theorem dX3_addClause_53 : decode cX3_addClause 53 = .ok (.dup, 1) := by decide +kernel
theorem dX3_addClause_54 : decode cX3_addClause 54 = .ok (.getfield 61, 3) := by decide +kernel
theorem dX3_addClause_57 : decode cX3_addClause 57 = .ok (.iconst 1, 1) := by decide +kernel
theorem dX3_addClause_58 : decode cX3_addClause 58 = .ok (.iadd, 1) := by decide +kernel
theorem dX3_addClause_59 : decode cX3_addClause 59 = .ok (.putfield 61, 3) := by decide +kernel
theorem dX3_addClause_62 : decode cX3_addClause 62 = .ok (.return_, 1) := by decide +kernel
theorem dX3_blocksWished_0 : decode cX3_blocksWished 0 = .ok (.aload_n 0, 1) := by decide +kernel
theorem dX3_blocksWished_1 : decode cX3_blocksWished 1 = .ok (.aload_n 1, 1) := by decide +kernel
theorem dX3_blocksWished_2 : decode cX3_blocksWished 2 = .ok (.iload_n 2, 1) := by decide +kernel
theorem dX3_blocksWished_3 : decode cX3_blocksWished 3 = .ok (.iload_n 3, 1) := by decide +kernel
theorem dX3_blocksWished_4 : decode cX3_blocksWished 4 = .ok (.invokevirtual 64, 3) := by decide +kernel
theorem dX3_blocksWished_7 : decode cX3_blocksWished 7 = .ok (.iconst 0, 1) := by decide +kernel
theorem dX3_blocksWished_8 : decode cX3_blocksWished 8 = .ok (.istore 4, 2) := by decide +kernel
theorem dX3_blocksWished_10 : decode cX3_blocksWished 10 = .ok (.iload 4, 2) := by decide +kernel
theorem dX3_blocksWished_12 : decode cX3_blocksWished 12 = .ok (.aload_n 0, 1) := by decide +kernel
theorem dX3_blocksWished_13 : decode cX3_blocksWished 13 = .ok (.getfield 61, 3) := by decide +kernel
theorem dX3_blocksWished_16 : decode cX3_blocksWished 16 = .ok (.if_icmp .ge 66, 3) := by decide +kernel
theorem dX3_blocksWished_19 : decode cX3_blocksWished 19 = .ok (.aload_n 0, 1) := by decide +kernel
theorem dX3_blocksWished_20 : decode cX3_blocksWished 20 = .ok (.getfield 45, 3) := by decide +kernel
theorem dX3_blocksWished_23 : decode cX3_blocksWished 23 = .ok (.iload 4, 2) := by decide +kernel
theorem dX3_blocksWished_25 : decode cX3_blocksWished 25 = .ok (.iaload, 1) := by decide +kernel
theorem dX3_blocksWished_26 : decode cX3_blocksWished 26 = .ok (.aload_n 0, 1) := by decide +kernel
theorem dX3_blocksWished_27 : decode cX3_blocksWished 27 = .ok (.getfield 48, 3) := by decide +kernel
theorem dX3_blocksWished_30 : decode cX3_blocksWished 30 = .ok (.iload 4, 2) := by decide +kernel
theorem dX3_blocksWished_32 : decode cX3_blocksWished 32 = .ok (.iaload, 1) := by decide +kernel
theorem dX3_blocksWished_33 : decode cX3_blocksWished 33 = .ok (.if_icmp .eq 24, 3) := by decide +kernel
theorem dX3_blocksWished_36 : decode cX3_blocksWished 36 = .ok (.aload_n 0, 1) := by decide +kernel
theorem dX3_blocksWished_37 : decode cX3_blocksWished 37 = .ok (.aload_n 0, 1) := by decide +kernel
theorem dX3_blocksWished_38 : decode cX3_blocksWished 38 = .ok (.getfield 45, 3) := by decide +kernel
theorem dX3_blocksWished_41 : decode cX3_blocksWished 41 = .ok (.iload 4, 2) := by decide +kernel
theorem dX3_blocksWished_43 : decode cX3_blocksWished 43 = .ok (.iaload, 1) := by decide +kernel
theorem dX3_blocksWished_44 : decode cX3_blocksWished 44 = .ok (.aload_n 0, 1) := by decide +kernel
theorem dX3_blocksWished_45 : decode cX3_blocksWished 45 = .ok (.getfield 48, 3) := by decide +kernel
theorem dX3_blocksWished_48 : decode cX3_blocksWished 48 = .ok (.iload 4, 2) := by decide +kernel
theorem dX3_blocksWished_50 : decode cX3_blocksWished 50 = .ok (.iaload, 1) := by decide +kernel
theorem dX3_blocksWished_51 : decode cX3_blocksWished 51 = .ok (.invokevirtual 68, 3) := by decide +kernel
theorem dX3_blocksWished_54 : decode cX3_blocksWished 54 = .ok (.ifCond .eq 22, 3) := by decide +kernel
theorem dX3_blocksWished_57 : decode cX3_blocksWished 57 = .ok (.aload_n 0, 1) := by decide +kernel
theorem dX3_blocksWished_58 : decode cX3_blocksWished 58 = .ok (.aload_n 0, 1) := by decide +kernel
theorem dX3_blocksWished_59 : decode cX3_blocksWished 59 = .ok (.getfield 39, 3) := by decide +kernel
theorem dX3_blocksWished_62 : decode cX3_blocksWished 62 = .ok (.iload 4, 2) := by decide +kernel
theorem dX3_blocksWished_64 : decode cX3_blocksWished 64 = .ok (.iaload, 1) := by decide +kernel
theorem dX3_blocksWished_65 : decode cX3_blocksWished 65 = .ok (.aload_n 0, 1) := by decide +kernel
theorem dX3_blocksWished_66 : decode cX3_blocksWished 66 = .ok (.getfield 42, 3) := by decide +kernel
theorem dX3_blocksWished_69 : decode cX3_blocksWished 69 = .ok (.iload 4, 2) := by decide +kernel
theorem dX3_blocksWished_71 : decode cX3_blocksWished 71 = .ok (.iaload, 1) := by decide +kernel
theorem dX3_blocksWished_72 : decode cX3_blocksWished 72 = .ok (.invokevirtual 72, 3) := by decide +kernel
theorem dX3_blocksWished_75 : decode cX3_blocksWished 75 = .ok (.lreturn, 1) := by decide +kernel
theorem dX3_blocksWished_76 : decode cX3_blocksWished 76 = .ok (.iinc 4 1, 3) := by decide +kernel
theorem dX3_blocksWished_79 : decode cX3_blocksWished 79 = .ok (.goto (-69), 3) := by decide +kernel
theorem dX3_blocksWished_82 : decode cX3_blocksWished 82 = .ok (.lconst 0, 1) := by decide +kernel
theorem dX3_blocksWished_83 : decode cX3_blocksWished 83 = .ok (.lreturn, 1) := by decide +kernel
theorem dX3_fillWords_0 : decode cX3_fillWords 0 = .ok (.aload_n 1, 1) := by decide +kernel
theorem dX3_fillWords_1 : decode cX3_fillWords 1 = .ok (.iload_n 2, 1) := by decide +kernel
theorem dX3_fillWords_2 : decode cX3_fillWords 2 = .ok (.invokevirtual 76, 3) := by decide +kernel
theorem dX3_fillWords_5 : decode cX3_fillWords 5 = .ok (.ifCond .eq 11, 3) := by decide +kernel
theorem dX3_fillWords_8 : decode cX3_fillWords 8 = .ok (.aload_n 1, 1) := by decide +kernel
theorem dX3_fillWords_9 : decode cX3_fillWords 9 = .ok (.iload_n 3, 1) := by decide +kernel
theorem dX3_fillWords_10 : decode cX3_fillWords 10 = .ok (.invokevirtual 82, 3) := by decide +kernel
theorem dX3_fillWords_13 : decode cX3_fillWords 13 = .ok (.ifCond .ne 4, 3) := by decide +kernel
theorem dX3_fillWords_16 : decode cX3_fillWords 16 = .ok (.return_, 1) := by decide +kernel
theorem dX3_fillWords_17 : decode cX3_fillWords 17 = .ok (.aload_n 1, 1) := by decide +kernel
theorem dX3_fillWords_18 : decode cX3_fillWords 18 = .ok (.getfield 85, 3) := by decide +kernel
theorem dX3_fillWords_21 : decode cX3_fillWords 21 = .ok (.iload_n 3, 1) := by decide +kernel
theorem dX3_fillWords_22 : decode cX3_fillWords 22 = .ok (.aaload, 1) := by decide +kernel
theorem dX3_fillWords_23 : decode cX3_fillWords 23 = .ok (.astore 4, 2) := by decide +kernel
theorem dX3_fillWords_25 : decode cX3_fillWords 25 = .ok (.aload_n 0, 1) := by decide +kernel
theorem dX3_fillWords_26 : decode cX3_fillWords 26 = .ok (.getfield 11, 3) := by decide +kernel
theorem dX3_fillWords_29 : decode cX3_fillWords 29 = .ok (.iconst 0, 1) := by decide +kernel
theorem dX3_fillWords_30 : decode cX3_fillWords 30 = .ok (.iload_n 2, 1) := by decide +kernel
theorem dX3_fillWords_31 : decode cX3_fillWords 31 = .ok (.i2l, 1) := by decide +kernel
theorem dX3_fillWords_32 : decode cX3_fillWords 32 = .ok (.lastore, 1) := by decide +kernel
theorem dX3_fillWords_33 : decode cX3_fillWords 33 = .ok (.aload_n 0, 1) := by decide +kernel
theorem dX3_fillWords_34 : decode cX3_fillWords 34 = .ok (.getfield 11, 3) := by decide +kernel
theorem dX3_fillWords_37 : decode cX3_fillWords 37 = .ok (.iconst 1, 1) := by decide +kernel
theorem dX3_fillWords_38 : decode cX3_fillWords 38 = .ok (.iload_n 3, 1) := by decide +kernel
theorem dX3_fillWords_39 : decode cX3_fillWords 39 = .ok (.i2l, 1) := by decide +kernel
theorem dX3_fillWords_40 : decode cX3_fillWords 40 = .ok (.lastore, 1) := by decide +kernel
theorem dX3_fillWords_41 : decode cX3_fillWords 41 = .ok (.aload_n 0, 1) := by decide +kernel
theorem dX3_fillWords_42 : decode cX3_fillWords 42 = .ok (.getfield 11, 3) := by decide +kernel
theorem dX3_fillWords_45 : decode cX3_fillWords 45 = .ok (.iconst 2, 1) := by decide +kernel
theorem dX3_fillWords_46 : decode cX3_fillWords 46 = .ok (.aload 4, 2) := by decide +kernel
theorem dX3_fillWords_48 : decode cX3_fillWords 48 = .ok (.getfield 89, 3) := by decide +kernel
theorem dX3_fillWords_51 : decode cX3_fillWords 51 = .ok (.i2l, 1) := by decide +kernel
theorem dX3_fillWords_52 : decode cX3_fillWords 52 = .ok (.lastore, 1) := by decide +kernel
theorem dX3_fillWords_53 : decode cX3_fillWords 53 = .ok (.aload_n 0, 1) := by decide +kernel
theorem dX3_fillWords_54 : decode cX3_fillWords 54 = .ok (.getfield 11, 3) := by decide +kernel
theorem dX3_fillWords_57 : decode cX3_fillWords 57 = .ok (.iconst 3, 1) := by decide +kernel
theorem dX3_fillWords_58 : decode cX3_fillWords 58 = .ok (.aload 4, 2) := by decide +kernel
theorem dX3_fillWords_60 : decode cX3_fillWords 60 = .ok (.getfield 94, 3) := by decide +kernel
theorem dX3_fillWords_63 : decode cX3_fillWords 63 = .ok (.i2l, 1) := by decide +kernel
theorem dX3_fillWords_64 : decode cX3_fillWords 64 = .ok (.lastore, 1) := by decide +kernel
theorem dX3_fillWords_65 : decode cX3_fillWords 65 = .ok (.aload_n 0, 1) := by decide +kernel
theorem dX3_fillWords_66 : decode cX3_fillWords 66 = .ok (.getfield 11, 3) := by decide +kernel
theorem dX3_fillWords_69 : decode cX3_fillWords 69 = .ok (.iconst 4, 1) := by decide +kernel
theorem dX3_fillWords_70 : decode cX3_fillWords 70 = .ok (.aload 4, 2) := by decide +kernel
theorem dX3_fillWords_72 : decode cX3_fillWords 72 = .ok (.getfield 97, 3) := by decide +kernel
theorem dX3_fillWords_75 : decode cX3_fillWords 75 = .ok (.i2l, 1) := by decide +kernel
theorem dX3_fillWords_76 : decode cX3_fillWords 76 = .ok (.lastore, 1) := by decide +kernel
theorem dX3_fillWords_77 : decode cX3_fillWords 77 = .ok (.aload_n 0, 1) := by decide +kernel
theorem dX3_fillWords_78 : decode cX3_fillWords 78 = .ok (.getfield 11, 3) := by decide +kernel
theorem dX3_fillWords_81 : decode cX3_fillWords 81 = .ok (.iconst 5, 1) := by decide +kernel
theorem dX3_fillWords_82 : decode cX3_fillWords 82 = .ok (.aload 4, 2) := by decide +kernel
theorem dX3_fillWords_84 : decode cX3_fillWords 84 = .ok (.getfield 100, 3) := by decide +kernel
theorem dX3_fillWords_87 : decode cX3_fillWords 87 = .ok (.i2l, 1) := by decide +kernel
theorem dX3_fillWords_88 : decode cX3_fillWords 88 = .ok (.lastore, 1) := by decide +kernel
theorem dX3_fillWords_89 : decode cX3_fillWords 89 = .ok (.aload_n 0, 1) := by decide +kernel
theorem dX3_fillWords_90 : decode cX3_fillWords 90 = .ok (.getfield 11, 3) := by decide +kernel
theorem dX3_fillWords_93 : decode cX3_fillWords 93 = .ok (.bipush 6, 2) := by decide +kernel
theorem dX3_fillWords_95 : decode cX3_fillWords 95 = .ok (.aload 4, 2) := by decide +kernel
theorem dX3_fillWords_97 : decode cX3_fillWords 97 = .ok (.getfield 103, 3) := by decide +kernel
theorem dX3_fillWords_100 : decode cX3_fillWords 100 = .ok (.i2l, 1) := by decide +kernel
theorem dX3_fillWords_101 : decode cX3_fillWords 101 = .ok (.lastore, 1) := by decide +kernel
theorem dX3_fillWords_102 : decode cX3_fillWords 102 = .ok (.aload_n 0, 1) := by decide +kernel
theorem dX3_fillWords_103 : decode cX3_fillWords 103 = .ok (.getfield 11, 3) := by decide +kernel
theorem dX3_fillWords_106 : decode cX3_fillWords 106 = .ok (.bipush 7, 2) := by decide +kernel
theorem dX3_fillWords_108 : decode cX3_fillWords 108 = .ok (.aload_n 1, 1) := by decide +kernel
theorem dX3_fillWords_109 : decode cX3_fillWords 109 = .ok (.iload_n 3, 1) := by decide +kernel
theorem dX3_fillWords_110 : decode cX3_fillWords 110 = .ok (.invokevirtual 106, 3) := by decide +kernel
theorem dX3_fillWords_113 : decode cX3_fillWords 113 = .ok (.i2l, 1) := by decide +kernel
theorem dX3_fillWords_114 : decode cX3_fillWords 114 = .ok (.lastore, 1) := by decide +kernel
theorem dX3_fillWords_115 : decode cX3_fillWords 115 = .ok (.aload_n 0, 1) := by decide +kernel
theorem dX3_fillWords_116 : decode cX3_fillWords 116 = .ok (.getfield 11, 3) := by decide +kernel
theorem dX3_fillWords_119 : decode cX3_fillWords 119 = .ok (.bipush 8, 2) := by decide +kernel
theorem dX3_fillWords_121 : decode cX3_fillWords 121 = .ok (.aload_n 1, 1) := by decide +kernel
theorem dX3_fillWords_122 : decode cX3_fillWords 122 = .ok (.getfield 110, 3) := by decide +kernel
theorem dX3_fillWords_125 : decode cX3_fillWords 125 = .ok (.i2l, 1) := by decide +kernel
theorem dX3_fillWords_126 : decode cX3_fillWords 126 = .ok (.lastore, 1) := by decide +kernel
theorem dX3_fillWords_127 : decode cX3_fillWords 127 = .ok (.aload_n 0, 1) := by decide +kernel
theorem dX3_fillWords_128 : decode cX3_fillWords 128 = .ok (.getfield 11, 3) := by decide +kernel
theorem dX3_fillWords_131 : decode cX3_fillWords 131 = .ok (.bipush 9, 2) := by decide +kernel
theorem dX3_fillWords_133 : decode cX3_fillWords 133 = .ok (.aload_n 1, 1) := by decide +kernel
theorem dX3_fillWords_134 : decode cX3_fillWords 134 = .ok (.getfield 113, 3) := by decide +kernel
theorem dX3_fillWords_137 : decode cX3_fillWords 137 = .ok (.iload_n 2, 1) := by decide +kernel
theorem dX3_fillWords_138 : decode cX3_fillWords 138 = .ok (.aaload, 1) := by decide +kernel
theorem dX3_fillWords_139 : decode cX3_fillWords 139 = .ok (.getfield 117, 3) := by decide +kernel
theorem dX3_fillWords_142 : decode cX3_fillWords 142 = .ok (.i2l, 1) := by decide +kernel
theorem dX3_fillWords_143 : decode cX3_fillWords 143 = .ok (.lastore, 1) := by decide +kernel
theorem dX3_fillWords_144 : decode cX3_fillWords 144 = .ok (.aload_n 0, 1) := by decide +kernel
theorem dX3_fillWords_145 : decode cX3_fillWords 145 = .ok (.getfield 11, 3) := by decide +kernel
theorem dX3_fillWords_148 : decode cX3_fillWords 148 = .ok (.bipush 10, 2) := by decide +kernel
theorem dX3_fillWords_150 : decode cX3_fillWords 150 = .ok (.aload_n 1, 1) := by decide +kernel
theorem dX3_fillWords_151 : decode cX3_fillWords 151 = .ok (.getfield 122, 3) := by decide +kernel
theorem dX3_fillWords_154 : decode cX3_fillWords 154 = .ok (.i2l, 1) := by decide +kernel
theorem dX3_fillWords_155 : decode cX3_fillWords 155 = .ok (.lastore, 1) := by decide +kernel
theorem dX3_fillWords_156 : decode cX3_fillWords 156 = .ok (.aload_n 0, 1) := by decide +kernel
theorem dX3_fillWords_157 : decode cX3_fillWords 157 = .ok (.getfield 11, 3) := by decide +kernel
theorem dX3_fillWords_160 : decode cX3_fillWords 160 = .ok (.bipush 11, 2) := by decide +kernel
theorem dX3_fillWords_162 : decode cX3_fillWords 162 = .ok (.aload_n 1, 1) := by decide +kernel
theorem dX3_fillWords_163 : decode cX3_fillWords 163 = .ok (.getfield 125, 3) := by decide +kernel
theorem dX3_fillWords_166 : decode cX3_fillWords 166 = .ok (.i2l, 1) := by decide +kernel
theorem dX3_fillWords_167 : decode cX3_fillWords 167 = .ok (.lastore, 1) := by decide +kernel
theorem dX3_fillWords_168 : decode cX3_fillWords 168 = .ok (.aload_n 0, 1) := by decide +kernel
theorem dX3_fillWords_169 : decode cX3_fillWords 169 = .ok (.getfield 11, 3) := by decide +kernel
theorem dX3_fillWords_172 : decode cX3_fillWords 172 = .ok (.bipush 12, 2) := by decide +kernel
theorem dX3_fillWords_174 : decode cX3_fillWords 174 = .ok (.aload 4, 2) := by decide +kernel
theorem dX3_fillWords_176 : decode cX3_fillWords 176 = .ok (.getfield 128, 3) := by decide +kernel
theorem dX3_fillWords_179 : decode cX3_fillWords 179 = .ok (.ifCond .eq 7, 3) := by decide +kernel
theorem dX3_fillWords_182 : decode cX3_fillWords 182 = .ok (.lconst 1, 1) := by decide +kernel
theorem dX3_fillWords_183 : decode cX3_fillWords 183 = .ok (.goto 4, 3) := by decide +kernel
theorem dX3_fillWords_186 : decode cX3_fillWords 186 = .ok (.lconst 0, 1) := by decide +kernel
theorem dX3_fillWords_187 : decode cX3_fillWords 187 = .ok (.lastore, 1) := by decide +kernel
theorem dX3_fillWords_188 : decode cX3_fillWords 188 = .ok (.return_, 1) := by decide +kernel
theorem dX3_holds_0 : decode cX3_holds 0 = .ok (.lconst 0, 1) := by decide +kernel
theorem dX3_holds_1 : decode cX3_holds 1 = .ok (.lstore_n 3, 1) := by decide +kernel
theorem dX3_holds_2 : decode cX3_holds 2 = .ok (.iload_n 1, 1) := by decide +kernel
theorem dX3_holds_3 : decode cX3_holds 3 = .ok (.istore 5, 2) := by decide +kernel
theorem dX3_holds_5 : decode cX3_holds 5 = .ok (.iload 5, 2) := by decide +kernel
theorem dX3_holds_7 : decode cX3_holds 7 = .ok (.iload_n 2, 1) := by decide +kernel
theorem dX3_holds_8 : decode cX3_holds 8 = .ok (.if_icmp .ge 161, 3) := by decide +kernel
theorem dX3_holds_11 : decode cX3_holds 11 = .ok (.iload 5, 2) := by decide +kernel
theorem dX3_holds_13 : decode cX3_holds 13 = .ok (.aload_n 0, 1) := by decide +kernel
theorem dX3_holds_14 : decode cX3_holds 14 = .ok (.getfield 36, 3) := by decide +kernel
theorem dX3_holds_17 : decode cX3_holds 17 = .ok (.arraylength, 1) := by decide +kernel
theorem dX3_holds_18 : decode cX3_holds 18 = .ok (.if_icmp .ge 151, 3) := by decide +kernel
theorem dX3_holds_21 : decode cX3_holds 21 = .ok (.aload_n 0, 1) := by decide +kernel
theorem dX3_holds_22 : decode cX3_holds 22 = .ok (.getfield 36, 3) := by decide +kernel
theorem dX3_holds_25 : decode cX3_holds 25 = .ok (.iload 5, 2) := by decide +kernel
theorem dX3_holds_27 : decode cX3_holds 27 = .ok (.iaload, 1) := by decide +kernel
theorem dX3_holds_28 : decode cX3_holds 28 = .ok (.istore 6, 2) := by decide +kernel
theorem dX3_holds_30 : decode cX3_holds 30 = .ok (.iload 6, 2) := by decide +kernel
theorem dX3_holds_32 : decode cX3_holds 32 = .ok (.iconst (-1), 1) := by decide +kernel
theorem dX3_holds_33 : decode cX3_holds 33 = .ok (.if_icmp .ne 10, 3) := by decide +kernel
theorem dX3_holds_36 : decode cX3_holds 36 = .ok (.lload_n 3, 1) := by decide +kernel
theorem dX3_holds_37 : decode cX3_holds 37 = .ok (.lconst 1, 1) := by decide +kernel
theorem dX3_holds_38 : decode cX3_holds 38 = .ok (.lxor, 1) := by decide +kernel
theorem dX3_holds_39 : decode cX3_holds 39 = .ok (.lstore_n 3, 1) := by decide +kernel
theorem dX3_holds_40 : decode cX3_holds 40 = .ok (.goto 123, 3) := by decide +kernel
theorem dX3_holds_43 : decode cX3_holds 43 = .ok (.iload 6, 2) := by decide +kernel
theorem dX3_holds_45 : decode cX3_holds 45 = .ok (.bipush (-2), 2) := by decide +kernel
theorem dX3_holds_47 : decode cX3_holds 47 = .ok (.if_icmp .ne 16, 3) := by decide +kernel
theorem dX3_holds_50 : decode cX3_holds 50 = .ok (.lload_n 3, 1) := by decide +kernel
theorem dX3_holds_51 : decode cX3_holds 51 = .ok (.iconst 1, 1) := by decide +kernel
theorem dX3_holds_52 : decode cX3_holds 52 = .ok (.lshr, 1) := by decide +kernel
theorem dX3_holds_53 : decode cX3_holds 53 = .ok (.lload_n 3, 1) := by decide +kernel
theorem dX3_holds_54 : decode cX3_holds 54 = .ok (.ldc2_w 132, 3) := by decide +kernel
theorem dX3_holds_57 : decode cX3_holds 57 = .ok (.lor, 1) := by decide +kernel
theorem dX3_holds_58 : decode cX3_holds 58 = .ok (.land, 1) := by decide +kernel
theorem dX3_holds_59 : decode cX3_holds 59 = .ok (.lstore_n 3, 1) := by decide +kernel
theorem dX3_holds_60 : decode cX3_holds 60 = .ok (.goto 103, 3) := by decide +kernel
theorem dX3_holds_63 : decode cX3_holds 63 = .ok (.iload 6, 2) := by decide +kernel
theorem dX3_holds_65 : decode cX3_holds 65 = .ok (.bipush (-3), 2) := by decide +kernel
theorem dX3_holds_67 : decode cX3_holds 67 = .ok (.if_icmp .ne 14, 3) := by decide +kernel
theorem dX3_holds_70 : decode cX3_holds 70 = .ok (.lload_n 3, 1) := by decide +kernel
theorem dX3_holds_71 : decode cX3_holds 71 = .ok (.iconst 1, 1) := by decide +kernel
theorem dX3_holds_72 : decode cX3_holds 72 = .ok (.lshr, 1) := by decide +kernel
theorem dX3_holds_73 : decode cX3_holds 73 = .ok (.lload_n 3, 1) := by decide +kernel
theorem dX3_holds_74 : decode cX3_holds 74 = .ok (.lconst 1, 1) := by decide +kernel
theorem dX3_holds_75 : decode cX3_holds 75 = .ok (.land, 1) := by decide +kernel
theorem dX3_holds_76 : decode cX3_holds 76 = .ok (.lor, 1) := by decide +kernel
theorem dX3_holds_77 : decode cX3_holds 77 = .ok (.lstore_n 3, 1) := by decide +kernel
theorem dX3_holds_78 : decode cX3_holds 78 = .ok (.goto 85, 3) := by decide +kernel
theorem dX3_holds_81 : decode cX3_holds 81 = .ok (.iload 6, 2) := by decide +kernel
theorem dX3_holds_83 : decode cX3_holds 83 = .ok (.ifCond .lt 80, 3) := by decide +kernel
theorem dX3_holds_86 : decode cX3_holds 86 = .ok (.iload 6, 2) := by decide +kernel
theorem dX3_holds_88 : decode cX3_holds 88 = .ok (.aload_n 0, 1) := by decide +kernel
theorem dX3_holds_89 : decode cX3_holds 89 = .ok (.getfield 55, 3) := by decide +kernel
theorem dX3_holds_92 : decode cX3_holds 92 = .ok (.if_icmp .ge 71, 3) := by decide +kernel
theorem dX3_holds_95 : decode cX3_holds 95 = .ok (.aload_n 0, 1) := by decide +kernel
theorem dX3_holds_96 : decode cX3_holds 96 = .ok (.aload_n 0, 1) := by decide +kernel
theorem dX3_holds_97 : decode cX3_holds 97 = .ok (.getfield 22, 3) := by decide +kernel
theorem dX3_holds_100 : decode cX3_holds 100 = .ok (.iload 6, 2) := by decide +kernel
theorem dX3_holds_102 : decode cX3_holds 102 = .ok (.iaload, 1) := by decide +kernel
theorem dX3_holds_103 : decode cX3_holds 103 = .ok (.aload_n 0, 1) := by decide +kernel
theorem dX3_holds_104 : decode cX3_holds 104 = .ok (.getfield 25, 3) := by decide +kernel
theorem dX3_holds_107 : decode cX3_holds 107 = .ok (.iload 6, 2) := by decide +kernel
theorem dX3_holds_109 : decode cX3_holds 109 = .ok (.iaload, 1) := by decide +kernel
theorem dX3_holds_110 : decode cX3_holds 110 = .ok (.invokevirtual 72, 3) := by decide +kernel
theorem dX3_holds_113 : decode cX3_holds 113 = .ok (.lstore 7, 2) := by decide +kernel
theorem dX3_holds_115 : decode cX3_holds 115 = .ok (.aload_n 0, 1) := by decide +kernel
theorem dX3_holds_116 : decode cX3_holds 116 = .ok (.aload_n 0, 1) := by decide +kernel
theorem dX3_holds_117 : decode cX3_holds 117 = .ok (.getfield 25, 3) := by decide +kernel
theorem dX3_holds_120 : decode cX3_holds 120 = .ok (.iload 6, 2) := by decide +kernel
theorem dX3_holds_122 : decode cX3_holds 122 = .ok (.iaload, 1) := by decide +kernel
theorem dX3_holds_123 : decode cX3_holds 123 = .ok (.aload_n 0, 1) := by decide +kernel
theorem dX3_holds_124 : decode cX3_holds 124 = .ok (.getfield 28, 3) := by decide +kernel
theorem dX3_holds_127 : decode cX3_holds 127 = .ok (.iload 6, 2) := by decide +kernel
theorem dX3_holds_129 : decode cX3_holds 129 = .ok (.iaload, 1) := by decide +kernel
theorem dX3_holds_130 : decode cX3_holds 130 = .ok (.invokevirtual 72, 3) := by decide +kernel
theorem dX3_holds_133 : decode cX3_holds 133 = .ok (.lstore 9, 2) := by decide +kernel
theorem dX3_holds_135 : decode cX3_holds 135 = .ok (.lload_n 3, 1) := by decide +kernel
theorem dX3_holds_136 : decode cX3_holds 136 = .ok (.iconst 1, 1) := by decide +kernel
theorem dX3_holds_137 : decode cX3_holds 137 = .ok (.lshl, 1) := by decide +kernel
theorem dX3_holds_138 : decode cX3_holds 138 = .ok (.lload 7, 2) := by decide +kernel
theorem dX3_holds_140 : decode cX3_holds 140 = .ok (.aload_n 0, 1) := by decide +kernel
theorem dX3_holds_141 : decode cX3_holds 141 = .ok (.getfield 31, 3) := by decide +kernel
theorem dX3_holds_144 : decode cX3_holds 144 = .ok (.iload 6, 2) := by decide +kernel
theorem dX3_holds_146 : decode cX3_holds 146 = .ok (.iaload, 1) := by decide +kernel
theorem dX3_holds_147 : decode cX3_holds 147 = .ok (.lload 9, 2) := by decide +kernel
theorem dX3_holds_149 : decode cX3_holds 149 = .ok (.invokestatic 134, 3) := by decide +kernel
theorem dX3_holds_152 : decode cX3_holds 152 = .ok (.ifCond .eq 7, 3) := by decide +kernel
theorem dX3_holds_155 : decode cX3_holds 155 = .ok (.iconst 1, 1) := by decide +kernel
theorem dX3_holds_156 : decode cX3_holds 156 = .ok (.goto 4, 3) := by decide +kernel
theorem dX3_holds_159 : decode cX3_holds 159 = .ok (.iconst 0, 1) := by decide +kernel
theorem dX3_holds_160 : decode cX3_holds 160 = .ok (.i2l, 1) := by decide +kernel
theorem dX3_holds_161 : decode cX3_holds 161 = .ok (.lor, 1) := by decide +kernel
theorem dX3_holds_162 : decode cX3_holds 162 = .ok (.lstore_n 3, 1) := by decide +kernel
theorem dX3_holds_163 : decode cX3_holds 163 = .ok (.iinc 5 1, 3) := by decide +kernel
theorem dX3_holds_166 : decode cX3_holds 166 = .ok (.goto (-161), 3) := by decide +kernel
theorem dX3_holds_169 : decode cX3_holds 169 = .ok (.lload_n 3, 1) := by decide +kernel
theorem dX3_holds_170 : decode cX3_holds 170 = .ok (.lconst 1, 1) := by decide +kernel
theorem dX3_holds_171 : decode cX3_holds 171 = .ok (.land, 1) := by decide +kernel
theorem dX3_holds_172 : decode cX3_holds 172 = .ok (.lconst 1, 1) := by decide +kernel
theorem dX3_holds_173 : decode cX3_holds 173 = .ok (.lcmp, 1) := by decide +kernel
theorem dX3_holds_174 : decode cX3_holds 174 = .ok (.ifCond .ne 7, 3) := by decide +kernel
theorem dX3_holds_177 : decode cX3_holds 177 = .ok (.iconst 1, 1) := by decide +kernel
theorem dX3_holds_178 : decode cX3_holds 178 = .ok (.goto 4, 3) := by decide +kernel
theorem dX3_holds_181 : decode cX3_holds 181 = .ok (.iconst 0, 1) := by decide +kernel
theorem dX3_holds_182 : decode cX3_holds 182 = .ok (.ireturn, 1) := by decide +kernel
theorem dX3_isSo_0 : decode cX3_isSo 0 = .ok (.iload_n 2, 1) := by decide +kernel
theorem dX3_isSo_1 : decode cX3_isSo 1 = .ok (.lookupswitch 91 #[(60, 43), (61, 67), (256, 55), (257, 79)], 43) := by decide +kernel
theorem dX3_isSo_44 : decode cX3_isSo 44 = .ok (.lload_n 0, 1) := by decide +kernel
theorem dX3_isSo_45 : decode cX3_isSo 45 = .ok (.lload_n 3, 1) := by decide +kernel
theorem dX3_isSo_46 : decode cX3_isSo 46 = .ok (.lcmp, 1) := by decide +kernel
theorem dX3_isSo_47 : decode cX3_isSo 47 = .ok (.ifCond .ge 7, 3) := by decide +kernel
theorem dX3_isSo_50 : decode cX3_isSo 50 = .ok (.iconst 1, 1) := by decide +kernel
theorem dX3_isSo_51 : decode cX3_isSo 51 = .ok (.goto 4, 3) := by decide +kernel
theorem dX3_isSo_54 : decode cX3_isSo 54 = .ok (.iconst 0, 1) := by decide +kernel
theorem dX3_isSo_55 : decode cX3_isSo 55 = .ok (.ireturn, 1) := by decide +kernel
theorem dX3_isSo_56 : decode cX3_isSo 56 = .ok (.lload_n 0, 1) := by decide +kernel
theorem dX3_isSo_57 : decode cX3_isSo 57 = .ok (.lload_n 3, 1) := by decide +kernel
theorem dX3_isSo_58 : decode cX3_isSo 58 = .ok (.lcmp, 1) := by decide +kernel
theorem dX3_isSo_59 : decode cX3_isSo 59 = .ok (.ifCond .gt 7, 3) := by decide +kernel
theorem dX3_isSo_62 : decode cX3_isSo 62 = .ok (.iconst 1, 1) := by decide +kernel
theorem dX3_isSo_63 : decode cX3_isSo 63 = .ok (.goto 4, 3) := by decide +kernel
theorem dX3_isSo_66 : decode cX3_isSo 66 = .ok (.iconst 0, 1) := by decide +kernel
theorem dX3_isSo_67 : decode cX3_isSo 67 = .ok (.ireturn, 1) := by decide +kernel
theorem dX3_isSo_68 : decode cX3_isSo 68 = .ok (.lload_n 0, 1) := by decide +kernel
theorem dX3_isSo_69 : decode cX3_isSo 69 = .ok (.lload_n 3, 1) := by decide +kernel
theorem dX3_isSo_70 : decode cX3_isSo 70 = .ok (.lcmp, 1) := by decide +kernel
theorem dX3_isSo_71 : decode cX3_isSo 71 = .ok (.ifCond .ne 7, 3) := by decide +kernel
theorem dX3_isSo_74 : decode cX3_isSo 74 = .ok (.iconst 1, 1) := by decide +kernel
theorem dX3_isSo_75 : decode cX3_isSo 75 = .ok (.goto 4, 3) := by decide +kernel
theorem dX3_isSo_78 : decode cX3_isSo 78 = .ok (.iconst 0, 1) := by decide +kernel
theorem dX3_isSo_79 : decode cX3_isSo 79 = .ok (.ireturn, 1) := by decide +kernel
theorem dX3_isSo_80 : decode cX3_isSo 80 = .ok (.lload_n 0, 1) := by decide +kernel
theorem dX3_isSo_81 : decode cX3_isSo 81 = .ok (.lload_n 3, 1) := by decide +kernel
theorem dX3_isSo_82 : decode cX3_isSo 82 = .ok (.lcmp, 1) := by decide +kernel
theorem dX3_isSo_83 : decode cX3_isSo 83 = .ok (.ifCond .lt 7, 3) := by decide +kernel
theorem dX3_isSo_86 : decode cX3_isSo 86 = .ok (.iconst 1, 1) := by decide +kernel
theorem dX3_isSo_87 : decode cX3_isSo 87 = .ok (.goto 4, 3) := by decide +kernel
theorem dX3_isSo_90 : decode cX3_isSo 90 = .ok (.iconst 0, 1) := by decide +kernel
theorem dX3_isSo_91 : decode cX3_isSo 91 = .ok (.ireturn, 1) := by decide +kernel
theorem dX3_isSo_92 : decode cX3_isSo 92 = .ok (.lload_n 0, 1) := by decide +kernel
theorem dX3_isSo_93 : decode cX3_isSo 93 = .ok (.lload_n 3, 1) := by decide +kernel
theorem dX3_isSo_94 : decode cX3_isSo 94 = .ok (.lcmp, 1) := by decide +kernel
theorem dX3_isSo_95 : decode cX3_isSo 95 = .ok (.ifCond .le 7, 3) := by decide +kernel
theorem dX3_isSo_98 : decode cX3_isSo 98 = .ok (.iconst 1, 1) := by decide +kernel
theorem dX3_isSo_99 : decode cX3_isSo 99 = .ok (.goto 4, 3) := by decide +kernel
theorem dX3_isSo_102 : decode cX3_isSo 102 = .ok (.iconst 0, 1) := by decide +kernel
theorem dX3_isSo_103 : decode cX3_isSo 103 = .ok (.ireturn, 1) := by decide +kernel
theorem dX3_sumOf_0 : decode cX3_sumOf 0 = .ok (.lconst 0, 1) := by decide +kernel
theorem dX3_sumOf_1 : decode cX3_sumOf 1 = .ok (.lstore_n 3, 1) := by decide +kernel
theorem dX3_sumOf_2 : decode cX3_sumOf 2 = .ok (.lconst 0, 1) := by decide +kernel
theorem dX3_sumOf_3 : decode cX3_sumOf 3 = .ok (.lstore 5, 2) := by decide +kernel
theorem dX3_sumOf_5 : decode cX3_sumOf 5 = .ok (.iconst 0, 1) := by decide +kernel
theorem dX3_sumOf_6 : decode cX3_sumOf 6 = .ok (.istore 7, 2) := by decide +kernel
theorem dX3_sumOf_8 : decode cX3_sumOf 8 = .ok (.iload_n 1, 1) := by decide +kernel
theorem dX3_sumOf_9 : decode cX3_sumOf 9 = .ok (.istore 8, 2) := by decide +kernel
theorem dX3_sumOf_11 : decode cX3_sumOf 11 = .ok (.iload 8, 2) := by decide +kernel
theorem dX3_sumOf_13 : decode cX3_sumOf 13 = .ok (.iload_n 2, 1) := by decide +kernel
theorem dX3_sumOf_14 : decode cX3_sumOf 14 = .ok (.if_icmp .ge 192, 3) := by decide +kernel
theorem dX3_sumOf_17 : decode cX3_sumOf 17 = .ok (.iload 8, 2) := by decide +kernel
theorem dX3_sumOf_19 : decode cX3_sumOf 19 = .ok (.bipush 60, 2) := by decide +kernel
theorem dX3_sumOf_21 : decode cX3_sumOf 21 = .ok (.if_icmp .ge 185, 3) := by decide +kernel
theorem dX3_sumOf_24 : decode cX3_sumOf 24 = .ok (.aload_n 0, 1) := by decide +kernel
theorem dX3_sumOf_25 : decode cX3_sumOf 25 = .ok (.getfield 19, 3) := by decide +kernel
theorem dX3_sumOf_28 : decode cX3_sumOf 28 = .ok (.iload 8, 2) := by decide +kernel
theorem dX3_sumOf_30 : decode cX3_sumOf 30 = .ok (.iaload, 1) := by decide +kernel
theorem dX3_sumOf_31 : decode cX3_sumOf 31 = .ok (.istore 9, 2) := by decide +kernel
theorem dX3_sumOf_33 : decode cX3_sumOf 33 = .ok (.iload 9, 2) := by decide +kernel
theorem dX3_sumOf_35 : decode cX3_sumOf 35 = .ok (.ifCond .ge 11, 3) := by decide +kernel
theorem dX3_sumOf_38 : decode cX3_sumOf 38 = .ok (.iconst (-1), 1) := by decide +kernel
theorem dX3_sumOf_39 : decode cX3_sumOf 39 = .ok (.iload 9, 2) := by decide +kernel
theorem dX3_sumOf_41 : decode cX3_sumOf 41 = .ok (.isub, 1) := by decide +kernel
theorem dX3_sumOf_42 : decode cX3_sumOf 42 = .ok (.i2l, 1) := by decide +kernel
theorem dX3_sumOf_43 : decode cX3_sumOf 43 = .ok (.goto 21, 3) := by decide +kernel
theorem dX3_sumOf_46 : decode cX3_sumOf 46 = .ok (.iload 9, 2) := by decide +kernel
theorem dX3_sumOf_48 : decode cX3_sumOf 48 = .ok (.bipush 13, 2) := by decide +kernel
theorem dX3_sumOf_50 : decode cX3_sumOf 50 = .ok (.if_icmp .ge 13, 3) := by decide +kernel
theorem dX3_sumOf_53 : decode cX3_sumOf 53 = .ok (.aload_n 0, 1) := by decide +kernel
theorem dX3_sumOf_54 : decode cX3_sumOf 54 = .ok (.getfield 11, 3) := by decide +kernel
theorem dX3_sumOf_57 : decode cX3_sumOf 57 = .ok (.iload 9, 2) := by decide +kernel
theorem dX3_sumOf_59 : decode cX3_sumOf 59 = .ok (.laload, 1) := by decide +kernel
theorem dX3_sumOf_60 : decode cX3_sumOf 60 = .ok (.goto 4, 3) := by decide +kernel
theorem dX3_sumOf_63 : decode cX3_sumOf 63 = .ok (.lconst 0, 1) := by decide +kernel
theorem dX3_sumOf_64 : decode cX3_sumOf 64 = .ok (.lstore 10, 2) := by decide +kernel
theorem dX3_sumOf_66 : decode cX3_sumOf 66 = .ok (.aload_n 0, 1) := by decide +kernel
theorem dX3_sumOf_67 : decode cX3_sumOf 67 = .ok (.getfield 15, 3) := by decide +kernel
theorem dX3_sumOf_70 : decode cX3_sumOf 70 = .ok (.iload 8, 2) := by decide +kernel
theorem dX3_sumOf_72 : decode cX3_sumOf 72 = .ok (.iaload, 1) := by decide +kernel
theorem dX3_sumOf_73 : decode cX3_sumOf 73 = .ok (.lookupswitch 87 #[(37, 66), (42, 35), (47, 45)], 35) := by decide +kernel
theorem dX3_sumOf_108 : decode cX3_sumOf 108 = .ok (.lload 5, 2) := by decide +kernel
theorem dX3_sumOf_110 : decode cX3_sumOf 110 = .ok (.lload 10, 2) := by decide +kernel
theorem dX3_sumOf_112 : decode cX3_sumOf 112 = .ok (.lmul, 1) := by decide +kernel
theorem dX3_sumOf_113 : decode cX3_sumOf 113 = .ok (.lstore 5, 2) := by decide +kernel
theorem dX3_sumOf_115 : decode cX3_sumOf 115 = .ok (.goto 85, 3) := by decide +kernel
theorem dX3_sumOf_118 : decode cX3_sumOf 118 = .ok (.lload 10, 2) := by decide +kernel
theorem dX3_sumOf_120 : decode cX3_sumOf 120 = .ok (.lconst 0, 1) := by decide +kernel
theorem dX3_sumOf_121 : decode cX3_sumOf 121 = .ok (.lcmp, 1) := by decide +kernel
theorem dX3_sumOf_122 : decode cX3_sumOf 122 = .ok (.ifCond .ne 7, 3) := by decide +kernel
theorem dX3_sumOf_125 : decode cX3_sumOf 125 = .ok (.lconst 0, 1) := by decide +kernel
theorem dX3_sumOf_126 : decode cX3_sumOf 126 = .ok (.goto 8, 3) := by decide +kernel
theorem dX3_sumOf_129 : decode cX3_sumOf 129 = .ok (.lload 5, 2) := by decide +kernel
theorem dX3_sumOf_131 : decode cX3_sumOf 131 = .ok (.lload 10, 2) := by decide +kernel
theorem dX3_sumOf_133 : decode cX3_sumOf 133 = .ok (.ldiv, 1) := by decide +kernel
theorem dX3_sumOf_134 : decode cX3_sumOf 134 = .ok (.lstore 5, 2) := by decide +kernel
theorem dX3_sumOf_136 : decode cX3_sumOf 136 = .ok (.goto 64, 3) := by decide +kernel
theorem dX3_sumOf_139 : decode cX3_sumOf 139 = .ok (.lload 10, 2) := by decide +kernel
theorem dX3_sumOf_141 : decode cX3_sumOf 141 = .ok (.lconst 0, 1) := by decide +kernel
theorem dX3_sumOf_142 : decode cX3_sumOf 142 = .ok (.lcmp, 1) := by decide +kernel
theorem dX3_sumOf_143 : decode cX3_sumOf 143 = .ok (.ifCond .ne 7, 3) := by decide +kernel
theorem dX3_sumOf_146 : decode cX3_sumOf 146 = .ok (.lconst 0, 1) := by decide +kernel
theorem dX3_sumOf_147 : decode cX3_sumOf 147 = .ok (.goto 8, 3) := by decide +kernel
theorem dX3_sumOf_150 : decode cX3_sumOf 150 = .ok (.lload 5, 2) := by decide +kernel
theorem dX3_sumOf_152 : decode cX3_sumOf 152 = .ok (.lload 10, 2) := by decide +kernel
theorem dX3_sumOf_154 : decode cX3_sumOf 154 = .ok (.lrem, 1) := by decide +kernel
theorem dX3_sumOf_155 : decode cX3_sumOf 155 = .ok (.lstore 5, 2) := by decide +kernel
theorem dX3_sumOf_157 : decode cX3_sumOf 157 = .ok (.goto 43, 3) := by decide +kernel
theorem dX3_sumOf_160 : decode cX3_sumOf 160 = .ok (.iload 7, 2) := by decide +kernel
theorem dX3_sumOf_162 : decode cX3_sumOf 162 = .ok (.ifCond .eq 10, 3) := by decide +kernel
theorem dX3_sumOf_165 : decode cX3_sumOf 165 = .ok (.lload_n 3, 1) := by decide +kernel
theorem dX3_sumOf_166 : decode cX3_sumOf 166 = .ok (.lload 5, 2) := by decide +kernel
theorem dX3_sumOf_168 : decode cX3_sumOf 168 = .ok (.lsub, 1) := by decide +kernel
theorem dX3_sumOf_169 : decode cX3_sumOf 169 = .ok (.goto 7, 3) := by decide +kernel
theorem dX3_sumOf_172 : decode cX3_sumOf 172 = .ok (.lload_n 3, 1) := by decide +kernel
theorem dX3_sumOf_173 : decode cX3_sumOf 173 = .ok (.lload 5, 2) := by decide +kernel
theorem dX3_sumOf_175 : decode cX3_sumOf 175 = .ok (.ladd, 1) := by decide +kernel
theorem dX3_sumOf_176 : decode cX3_sumOf 176 = .ok (.lstore_n 3, 1) := by decide +kernel
theorem dX3_sumOf_177 : decode cX3_sumOf 177 = .ok (.lload 10, 2) := by decide +kernel
theorem dX3_sumOf_179 : decode cX3_sumOf 179 = .ok (.lstore 5, 2) := by decide +kernel
theorem dX3_sumOf_181 : decode cX3_sumOf 181 = .ok (.aload_n 0, 1) := by decide +kernel
theorem dX3_sumOf_182 : decode cX3_sumOf 182 = .ok (.getfield 15, 3) := by decide +kernel
theorem dX3_sumOf_185 : decode cX3_sumOf 185 = .ok (.iload 8, 2) := by decide +kernel
theorem dX3_sumOf_187 : decode cX3_sumOf 187 = .ok (.iaload, 1) := by decide +kernel
theorem dX3_sumOf_188 : decode cX3_sumOf 188 = .ok (.bipush 45, 2) := by decide +kernel
theorem dX3_sumOf_190 : decode cX3_sumOf 190 = .ok (.if_icmp .ne 7, 3) := by decide +kernel
theorem dX3_sumOf_193 : decode cX3_sumOf 193 = .ok (.iconst 1, 1) := by decide +kernel
theorem dX3_sumOf_194 : decode cX3_sumOf 194 = .ok (.goto 4, 3) := by decide +kernel
theorem dX3_sumOf_197 : decode cX3_sumOf 197 = .ok (.iconst 0, 1) := by decide +kernel
theorem dX3_sumOf_198 : decode cX3_sumOf 198 = .ok (.istore 7, 2) := by decide +kernel
theorem dX3_sumOf_200 : decode cX3_sumOf 200 = .ok (.iinc 8 1, 3) := by decide +kernel
theorem dX3_sumOf_203 : decode cX3_sumOf 203 = .ok (.goto (-192), 3) := by decide +kernel
theorem dX3_sumOf_206 : decode cX3_sumOf 206 = .ok (.iload 7, 2) := by decide +kernel
theorem dX3_sumOf_208 : decode cX3_sumOf 208 = .ok (.ifCond .eq 10, 3) := by decide +kernel
theorem dX3_sumOf_211 : decode cX3_sumOf 211 = .ok (.lload_n 3, 1) := by decide +kernel
theorem dX3_sumOf_212 : decode cX3_sumOf 212 = .ok (.lload 5, 2) := by decide +kernel
theorem dX3_sumOf_214 : decode cX3_sumOf 214 = .ok (.lsub, 1) := by decide +kernel
theorem dX3_sumOf_215 : decode cX3_sumOf 215 = .ok (.goto 7, 3) := by decide +kernel
theorem dX3_sumOf_218 : decode cX3_sumOf 218 = .ok (.lload_n 3, 1) := by decide +kernel
theorem dX3_sumOf_219 : decode cX3_sumOf 219 = .ok (.lload 5, 2) := by decide +kernel
theorem dX3_sumOf_221 : decode cX3_sumOf 221 = .ok (.ladd, 1) := by decide +kernel
theorem dX3_sumOf_222 : decode cX3_sumOf 222 = .ok (.lreturn, 1) := by decide +kernel
