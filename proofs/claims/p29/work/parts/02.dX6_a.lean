theorem dX6_init_0 : decode cX6_init 0 = .ok (.aload_n 0, 1) := by decide +kernel
theorem dX6_init_1 : decode cX6_init 1 = .ok (.invokespecial 3, 3) := by decide +kernel
theorem dX6_init_4 : decode cX6_init 4 = .ok (.aload_n 0, 1) := by decide +kernel
theorem dX6_init_5 : decode cX6_init 5 = .ok (.sipush 400, 3) := by decide +kernel
theorem dX6_init_8 : decode cX6_init 8 = .ok (.newarray .byte, 2) := by decide +kernel
theorem dX6_init_10 : decode cX6_init 10 = .ok (.putfield 11, 3) := by decide +kernel
theorem dX6_init_13 : decode cX6_init 13 = .ok (.aload_n 0, 1) := by decide +kernel
theorem dX6_init_14 : decode cX6_init 14 = .ok (.invokestatic 15, 3) := by decide +kernel
theorem dX6_init_17 : decode cX6_init 17 = .ok (.putfield 21, 3) := by decide +kernel
theorem dX6_init_20 : decode cX6_init 20 = .ok (.aload_n 0, 1) := by decide +kernel
theorem dX6_init_21 : decode cX6_init 21 = .ok (.sipush 401, 3) := by decide +kernel
theorem dX6_init_24 : decode cX6_init 24 = .ok (.newarray .int, 2) := by decide +kernel
theorem dX6_init_26 : decode cX6_init 26 = .ok (.putfield 25, 3) := by decide +kernel
theorem dX6_init_29 : decode cX6_init 29 = .ok (.aload_n 0, 1) := by decide +kernel
theorem dX6_init_30 : decode cX6_init 30 = .ok (.sipush 401, 3) := by decide +kernel
theorem dX6_init_33 : decode cX6_init 33 = .ok (.newarray .int, 2) := by decide +kernel
theorem dX6_init_35 : decode cX6_init 35 = .ok (.putfield 29, 3) := by decide +kernel
theorem dX6_init_38 : decode cX6_init 38 = .ok (.aload_n 0, 1) := by decide +kernel
theorem dX6_init_39 : decode cX6_init 39 = .ok (.sipush 401, 3) := by decide +kernel
theorem dX6_init_42 : decode cX6_init 42 = .ok (.newarray .int, 2) := by decide +kernel
theorem dX6_init_44 : decode cX6_init 44 = .ok (.putfield 32, 3) := by decide +kernel
theorem dX6_init_47 : decode cX6_init 47 = .ok (.aload_n 0, 1) := by decide +kernel
theorem dX6_init_48 : decode cX6_init 48 = .ok (.sipush 401, 3) := by decide +kernel
theorem dX6_init_51 : decode cX6_init 51 = .ok (.anewarray 16, 3) := by decide +kernel
theorem dX6_init_54 : decode cX6_init 54 = .ok (.putfield 35, 3) := by decide +kernel
theorem dX6_init_57 : decode cX6_init 57 = .ok (.iconst 0, 1) := by decide +kernel
theorem dX6_init_58 : decode cX6_init 58 = .ok (.istore_n 1, 1) := by decide +kernel
theorem dX6_init_59 : decode cX6_init 59 = .ok (.iload_n 1, 1) := by decide +kernel
theorem dX6_init_60 : decode cX6_init 60 = .ok (.aload_n 0, 1) := by decide +kernel
theorem dX6_init_61 : decode cX6_init 61 = .ok (.getfield 35, 3) := by decide +kernel
theorem dX6_init_64 : decode cX6_init 64 = .ok (.arraylength, 1) := by decide +kernel
theorem dX6_init_65 : decode cX6_init 65 = .ok (.if_icmp .ge 18, 3) := by decide +kernel
theorem dX6_init_68 : decode cX6_init 68 = .ok (.aload_n 0, 1) := by decide +kernel
theorem dX6_init_69 : decode cX6_init 69 = .ok (.getfield 35, 3) := by decide +kernel
theorem dX6_init_72 : decode cX6_init 72 = .ok (.iload_n 1, 1) := by decide +kernel
theorem dX6_init_73 : decode cX6_init 73 = .ok (.getstatic 38, 3) := by decide +kernel
theorem dX6_init_76 : decode cX6_init 76 = .ok (.aastore, 1) := by decide +kernel
theorem dX6_init_77 : decode cX6_init 77 = .ok (.iinc 1 1, 3) := by decide +kernel
theorem dX6_init_80 : decode cX6_init 80 = .ok (.goto (-21), 3) := by decide +kernel
theorem dX6_init_83 : decode cX6_init 83 = .ok (.return_, 1) := by decide +kernel
theorem dX6_hasRoomFor_0 : decode cX6_hasRoomFor 0 = .ok (.aload_n 0, 1) := by decide +kernel
theorem dX6_hasRoomFor_1 : decode cX6_hasRoomFor 1 = .ok (.getfield 42, 3) := by decide +kernel
theorem dX6_hasRoomFor_4 : decode cX6_hasRoomFor 4 = .ok (.iload_n 1, 1) := by decide +kernel
theorem dX6_hasRoomFor_5 : decode cX6_hasRoomFor 5 = .ok (.iadd, 1) := by decide +kernel
theorem dX6_hasRoomFor_6 : decode cX6_hasRoomFor 6 = .ok (.sipush 400, 3) := by decide +kernel
theorem dX6_hasRoomFor_9 : decode cX6_hasRoomFor 9 = .ok (.if_icmp .gt 7, 3) := by decide +kernel
theorem dX6_hasRoomFor_12 : decode cX6_hasRoomFor 12 = .ok (.iconst 1, 1) := by decide +kernel
theorem dX6_hasRoomFor_13 : decode cX6_hasRoomFor 13 = .ok (.goto 4, 3) := by decide +kernel
theorem dX6_hasRoomFor_16 : decode cX6_hasRoomFor 16 = .ok (.iconst 0, 1) := by decide +kernel
theorem dX6_hasRoomFor_17 : decode cX6_hasRoomFor 17 = .ok (.ireturn, 1) := by decide +kernel
theorem dX6_add_0 : decode cX6_add 0 = .ok (.bipush 24, 2) := by decide +kernel
theorem dX6_add_2 : decode cX6_add 2 = .ok (.istore_n 2, 1) := by decide +kernel
theorem dX6_add_3 : decode cX6_add 3 = .ok (.iload_n 2, 1) := by decide +kernel
theorem dX6_add_4 : decode cX6_add 4 = .ok (.ifCond .lt 42, 3) := by decide +kernel
theorem dX6_add_7 : decode cX6_add 7 = .ok (.aload_n 0, 1) := by decide +kernel
theorem dX6_add_8 : decode cX6_add 8 = .ok (.getfield 42, 3) := by decide +kernel
theorem dX6_add_11 : decode cX6_add 11 = .ok (.sipush 400, 3) := by decide +kernel
theorem dX6_add_14 : decode cX6_add 14 = .ok (.if_icmp .ge 32, 3) := by decide +kernel
theorem dX6_add_17 : decode cX6_add 17 = .ok (.aload_n 0, 1) := by decide +kernel
theorem dX6_add_18 : decode cX6_add 18 = .ok (.getfield 11, 3) := by decide +kernel
theorem dX6_add_21 : decode cX6_add 21 = .ok (.aload_n 0, 1) := by decide +kernel
theorem dX6_add_22 : decode cX6_add 22 = .ok (.getfield 42, 3) := by decide +kernel
theorem dX6_add_25 : decode cX6_add 25 = .ok (.iload_n 1, 1) := by decide +kernel
theorem dX6_add_26 : decode cX6_add 26 = .ok (.iload_n 2, 1) := by decide +kernel
theorem dX6_add_27 : decode cX6_add 27 = .ok (.ishr, 1) := by decide +kernel
theorem dX6_add_28 : decode cX6_add 28 = .ok (.i2b, 1) := by decide +kernel
theorem dX6_add_29 : decode cX6_add 29 = .ok (.bastore, 1) := by decide +kernel
theorem dX6_add_30 : decode cX6_add 30 = .ok (.aload_n 0, 1) := by decide +kernel
theorem dX6_add_31 : decode cX6_add 31 = .ok (.dup, 1) := by decide +kernel
theorem dX6_add_32 : decode cX6_add 32 = .ok (.getfield 42, 3) := by decide +kernel
theorem dX6_add_35 : decode cX6_add 35 = .ok (.iconst 1, 1) := by decide +kernel
theorem dX6_add_36 : decode cX6_add 36 = .ok (.iadd, 1) := by decide +kernel
theorem dX6_add_37 : decode cX6_add 37 = .ok (.putfield 42, 3) := by decide +kernel
theorem dX6_add_40 : decode cX6_add 40 = .ok (.iinc 2 (-8), 3) := by decide +kernel
theorem dX6_add_43 : decode cX6_add 43 = .ok (.goto (-40), 3) := by decide +kernel
theorem dX6_add_46 : decode cX6_add 46 = .ok (.return_, 1) := by decide +kernel
theorem dX6_split_0 : decode cX6_split 0 = .ok (.aload_n 0, 1) := by decide +kernel
theorem dX6_split_1 : decode cX6_split 1 = .ok (.iconst 0, 1) := by decide +kernel
theorem dX6_split_2 : decode cX6_split 2 = .ok (.putfield 46, 3) := by decide +kernel
theorem dX6_split_5 : decode cX6_split 5 = .ok (.aload_n 0, 1) := by decide +kernel
theorem dX6_split_6 : decode cX6_split 6 = .ok (.iconst 0, 1) := by decide +kernel
theorem dX6_split_7 : decode cX6_split 7 = .ok (.putfield 49, 3) := by decide +kernel
theorem dX6_split_10 : decode cX6_split 10 = .ok (.aload_n 0, 1) := by decide +kernel
theorem dX6_split_11 : decode cX6_split 11 = .ok (.iconst 0, 1) := by decide +kernel
theorem dX6_split_12 : decode cX6_split 12 = .ok (.putfield 52, 3) := by decide +kernel
theorem dX6_split_15 : decode cX6_split 15 = .ok (.iconst 0, 1) := by decide +kernel
theorem dX6_split_16 : decode cX6_split 16 = .ok (.istore_n 1, 1) := by decide +kernel
theorem dX6_split_17 : decode cX6_split 17 = .ok (.iload_n 1, 1) := by decide +kernel
theorem dX6_split_18 : decode cX6_split 18 = .ok (.aload_n 0, 1) := by decide +kernel
theorem dX6_split_19 : decode cX6_split 19 = .ok (.getfield 42, 3) := by decide +kernel
theorem dX6_split_22 : decode cX6_split 22 = .ok (.if_icmp .ge 68, 3) := by decide +kernel
theorem dX6_split_25 : decode cX6_split 25 = .ok (.aload_n 0, 1) := by decide +kernel
theorem dX6_split_26 : decode cX6_split 26 = .ok (.iload_n 1, 1) := by decide +kernel
theorem dX6_split_27 : decode cX6_split 27 = .ok (.invokevirtual 55, 3) := by decide +kernel
theorem dX6_split_30 : decode cX6_split 30 = .ok (.istore_n 2, 1) := by decide +kernel
theorem dX6_split_31 : decode cX6_split 31 = .ok (.iload_n 1, 1) := by decide +kernel
theorem dX6_split_32 : decode cX6_split 32 = .ok (.iconst 1, 1) := by decide +kernel
theorem dX6_split_33 : decode cX6_split 33 = .ok (.iadd, 1) := by decide +kernel
theorem dX6_split_34 : decode cX6_split 34 = .ok (.istore_n 3, 1) := by decide +kernel
theorem dX6_split_35 : decode cX6_split 35 = .ok (.iload_n 2, 1) := by decide +kernel
theorem dX6_split_36 : decode cX6_split 36 = .ok (.invokestatic 59, 3) := by decide +kernel
theorem dX6_split_39 : decode cX6_split 39 = .ok (.ifCond .eq 12, 3) := by decide +kernel
theorem dX6_split_42 : decode cX6_split 42 = .ok (.aload_n 0, 1) := by decide +kernel
theorem dX6_split_43 : decode cX6_split 43 = .ok (.iload_n 1, 1) := by decide +kernel
theorem dX6_split_44 : decode cX6_split 44 = .ok (.invokevirtual 63, 3) := by decide +kernel
theorem dX6_split_47 : decode cX6_split 47 = .ok (.istore_n 3, 1) := by decide +kernel
theorem dX6_split_48 : decode cX6_split 48 = .ok (.goto 31, 3) := by decide +kernel
theorem dX6_split_51 : decode cX6_split 51 = .ok (.iload_n 2, 1) := by decide +kernel
theorem dX6_split_52 : decode cX6_split 52 = .ok (.invokestatic 66, 3) := by decide +kernel
theorem dX6_split_55 : decode cX6_split 55 = .ok (.ifCond .eq 12, 3) := by decide +kernel
theorem dX6_split_58 : decode cX6_split 58 = .ok (.aload_n 0, 1) := by decide +kernel
theorem dX6_split_59 : decode cX6_split 59 = .ok (.iload_n 1, 1) := by decide +kernel
theorem dX6_split_60 : decode cX6_split 60 = .ok (.invokevirtual 69, 3) := by decide +kernel
theorem dX6_split_63 : decode cX6_split 63 = .ok (.istore_n 3, 1) := by decide +kernel
theorem dX6_split_64 : decode cX6_split 64 = .ok (.goto 15, 3) := by decide +kernel
theorem dX6_split_67 : decode cX6_split 67 = .ok (.iload_n 2, 1) := by decide +kernel
theorem dX6_split_68 : decode cX6_split 68 = .ok (.bipush 32, 2) := by decide +kernel
theorem dX6_split_70 : decode cX6_split 70 = .ok (.if_icmp .eq 9, 3) := by decide +kernel
theorem dX6_split_73 : decode cX6_split 73 = .ok (.aload_n 0, 1) := by decide +kernel
theorem dX6_split_74 : decode cX6_split 74 = .ok (.iload_n 1, 1) := by decide +kernel
theorem dX6_split_75 : decode cX6_split 75 = .ok (.invokevirtual 72, 3) := by decide +kernel
theorem dX6_split_78 : decode cX6_split 78 = .ok (.istore_n 3, 1) := by decide +kernel
theorem dX6_split_79 : decode cX6_split 79 = .ok (.iload_n 3, 1) := by decide +kernel
theorem dX6_split_80 : decode cX6_split 80 = .ok (.iload_n 1, 1) := by decide +kernel
theorem dX6_split_81 : decode cX6_split 81 = .ok (.iconst 1, 1) := by decide +kernel
theorem dX6_split_82 : decode cX6_split 82 = .ok (.iadd, 1) := by decide +kernel
theorem dX6_split_83 : decode cX6_split 83 = .ok (.invokestatic 75, 3) := by decide +kernel
theorem dX6_split_86 : decode cX6_split 86 = .ok (.istore_n 1, 1) := by decide +kernel
theorem dX6_split_87 : decode cX6_split 87 = .ok (.goto (-70), 3) := by decide +kernel
theorem dX6_split_90 : decode cX6_split 90 = .ok (.aload_n 0, 1) := by decide +kernel
theorem dX6_split_91 : decode cX6_split 91 = .ok (.iconst (-1), 1) := by decide +kernel
theorem dX6_split_92 : decode cX6_split 92 = .ok (.aload_n 0, 1) := by decide +kernel
theorem dX6_split_93 : decode cX6_split 93 = .ok (.getfield 42, 3) := by decide +kernel
theorem dX6_split_96 : decode cX6_split 96 = .ok (.iconst (-1), 1) := by decide +kernel
theorem dX6_split_97 : decode cX6_split 97 = .ok (.getstatic 38, 3) := by decide +kernel
theorem dX6_split_100 : decode cX6_split 100 = .ok (.invokevirtual 81, 3) := by decide +kernel
theorem dX6_split_103 : decode cX6_split 103 = .ok (.return_, 1) := by decide +kernel
theorem dX6_byteAt_0 : decode cX6_byteAt 0 = .ok (.iload_n 1, 1) := by decide +kernel
theorem dX6_byteAt_1 : decode cX6_byteAt 1 = .ok (.ifCond .lt 31, 3) := by decide +kernel
theorem dX6_byteAt_4 : decode cX6_byteAt 4 = .ok (.iload_n 1, 1) := by decide +kernel
theorem dX6_byteAt_5 : decode cX6_byteAt 5 = .ok (.aload_n 0, 1) := by decide +kernel
theorem dX6_byteAt_6 : decode cX6_byteAt 6 = .ok (.getfield 42, 3) := by decide +kernel
theorem dX6_byteAt_9 : decode cX6_byteAt 9 = .ok (.if_icmp .ge 23, 3) := by decide +kernel
theorem dX6_byteAt_12 : decode cX6_byteAt 12 = .ok (.iload_n 1, 1) := by decide +kernel
theorem dX6_byteAt_13 : decode cX6_byteAt 13 = .ok (.sipush 400, 3) := by decide +kernel
theorem dX6_byteAt_16 : decode cX6_byteAt 16 = .ok (.if_icmp .ge 16, 3) := by decide +kernel
theorem dX6_byteAt_19 : decode cX6_byteAt 19 = .ok (.aload_n 0, 1) := by decide +kernel
theorem dX6_byteAt_20 : decode cX6_byteAt 20 = .ok (.getfield 11, 3) := by decide +kernel
theorem dX6_byteAt_23 : decode cX6_byteAt 23 = .ok (.iload_n 1, 1) := by decide +kernel
theorem dX6_byteAt_24 : decode cX6_byteAt 24 = .ok (.baload, 1) := by decide +kernel
theorem dX6_byteAt_25 : decode cX6_byteAt 25 = .ok (.sipush 255, 3) := by decide +kernel
theorem dX6_byteAt_28 : decode cX6_byteAt 28 = .ok (.iand, 1) := by decide +kernel
theorem dX6_byteAt_29 : decode cX6_byteAt 29 = .ok (.goto 4, 3) := by decide +kernel
theorem dX6_byteAt_32 : decode cX6_byteAt 32 = .ok (.iconst (-1), 1) := by decide +kernel
theorem dX6_byteAt_33 : decode cX6_byteAt 33 = .ok (.ireturn, 1) := by decide +kernel
theorem dX6_isDigit_0 : decode cX6_isDigit 0 = .ok (.iload_n 0, 1) := by decide +kernel
theorem dX6_isDigit_1 : decode cX6_isDigit 1 = .ok (.bipush 48, 2) := by decide +kernel
theorem dX6_isDigit_3 : decode cX6_isDigit 3 = .ok (.if_icmp .lt 13, 3) := by decide +kernel
theorem dX6_isDigit_6 : decode cX6_isDigit 6 = .ok (.iload_n 0, 1) := by decide +kernel
theorem dX6_isDigit_7 : decode cX6_isDigit 7 = .ok (.bipush 57, 2) := by decide +kernel
theorem dX6_isDigit_9 : decode cX6_isDigit 9 = .ok (.if_icmp .gt 7, 3) := by decide +kernel
theorem dX6_isDigit_12 : decode cX6_isDigit 12 = .ok (.iconst 1, 1) := by decide +kernel
theorem dX6_isDigit_13 : decode cX6_isDigit 13 = .ok (.goto 4, 3) := by decide +kernel
theorem dX6_isDigit_16 : decode cX6_isDigit 16 = .ok (.iconst 0, 1) := by decide +kernel
theorem dX6_isDigit_17 : decode cX6_isDigit 17 = .ok (.ireturn, 1) := by decide +kernel
theorem dX6_isLetter_0 : decode cX6_isLetter 0 = .ok (.iload_n 0, 1) := by decide +kernel
theorem dX6_isLetter_1 : decode cX6_isLetter 1 = .ok (.bipush 97, 2) := by decide +kernel
theorem dX6_isLetter_3 : decode cX6_isLetter 3 = .ok (.if_icmp .lt 13, 3) := by decide +kernel
theorem dX6_isLetter_6 : decode cX6_isLetter 6 = .ok (.iload_n 0, 1) := by decide +kernel
theorem dX6_isLetter_7 : decode cX6_isLetter 7 = .ok (.bipush 122, 2) := by decide +kernel
theorem dX6_isLetter_9 : decode cX6_isLetter 9 = .ok (.if_icmp .gt 7, 3) := by decide +kernel
theorem dX6_isLetter_12 : decode cX6_isLetter 12 = .ok (.iconst 1, 1) := by decide +kernel
theorem dX6_isLetter_13 : decode cX6_isLetter 13 = .ok (.goto 4, 3) := by decide +kernel
theorem dX6_isLetter_16 : decode cX6_isLetter 16 = .ok (.iconst 0, 1) := by decide +kernel
theorem dX6_isLetter_17 : decode cX6_isLetter 17 = .ok (.ireturn, 1) := by decide +kernel
theorem dX6_addToken_0 : decode cX6_addToken 0 = .ok (.aload_n 0, 1) := by decide +kernel
theorem dX6_addToken_1 : decode cX6_addToken 1 = .ok (.getfield 52, 3) := by decide +kernel
theorem dX6_addToken_4 : decode cX6_addToken 4 = .ok (.aload_n 0, 1) := by decide +kernel
theorem dX6_addToken_5 : decode cX6_addToken 5 = .ok (.getfield 25, 3) := by decide +kernel
theorem dX6_addToken_8 : decode cX6_addToken 8 = .ok (.arraylength, 1) := by decide +kernel
theorem dX6_addToken_9 : decode cX6_addToken 9 = .ok (.if_icmp .ge 54, 3) := by decide +kernel
theorem dX6_addToken_12 : decode cX6_addToken 12 = .ok (.aload_n 0, 1) := by decide +kernel
theorem dX6_addToken_13 : decode cX6_addToken 13 = .ok (.getfield 25, 3) := by decide +kernel
theorem dX6_addToken_16 : decode cX6_addToken 16 = .ok (.aload_n 0, 1) := by decide +kernel
theorem dX6_addToken_17 : decode cX6_addToken 17 = .ok (.getfield 52, 3) := by decide +kernel
theorem dX6_addToken_20 : decode cX6_addToken 20 = .ok (.iload_n 1, 1) := by decide +kernel
theorem dX6_addToken_21 : decode cX6_addToken 21 = .ok (.iastore, 1) := by decide +kernel
theorem dX6_addToken_22 : decode cX6_addToken 22 = .ok (.aload_n 0, 1) := by decide +kernel
theorem dX6_addToken_23 : decode cX6_addToken 23 = .ok (.getfield 29, 3) := by decide +kernel
theorem dX6_addToken_26 : decode cX6_addToken 26 = .ok (.aload_n 0, 1) := by decide +kernel
theorem dX6_addToken_27 : decode cX6_addToken 27 = .ok (.getfield 52, 3) := by decide +kernel
theorem dX6_addToken_30 : decode cX6_addToken 30 = .ok (.iload_n 2, 1) := by decide +kernel
theorem dX6_addToken_31 : decode cX6_addToken 31 = .ok (.iastore, 1) := by decide +kernel
theorem dX6_addToken_32 : decode cX6_addToken 32 = .ok (.aload_n 0, 1) := by decide +kernel
theorem dX6_addToken_33 : decode cX6_addToken 33 = .ok (.getfield 32, 3) := by decide +kernel
theorem dX6_addToken_36 : decode cX6_addToken 36 = .ok (.aload_n 0, 1) := by decide +kernel
theorem dX6_addToken_37 : decode cX6_addToken 37 = .ok (.getfield 52, 3) := by decide +kernel
theorem dX6_addToken_40 : decode cX6_addToken 40 = .ok (.iload_n 3, 1) := by decide +kernel
theorem dX6_addToken_41 : decode cX6_addToken 41 = .ok (.iastore, 1) := by decide +kernel
theorem dX6_addToken_42 : decode cX6_addToken 42 = .ok (.aload_n 0, 1) := by decide +kernel
theorem dX6_addToken_43 : decode cX6_addToken 43 = .ok (.getfield 35, 3) := by decide +kernel
theorem dX6_addToken_46 : decode cX6_addToken 46 = .ok (.aload_n 0, 1) := by decide +kernel
theorem dX6_addToken_47 : decode cX6_addToken 47 = .ok (.getfield 52, 3) := by decide +kernel
theorem dX6_addToken_50 : decode cX6_addToken 50 = .ok (.aload 4, 2) := by decide +kernel
theorem dX6_addToken_52 : decode cX6_addToken 52 = .ok (.aastore, 1) := by decide +kernel
theorem dX6_addToken_53 : decode cX6_addToken 53 = .ok (.aload_n 0, 1) := by decide +kernel
theorem dX6_addToken_54 : decode cX6_addToken 54 = .ok (.dup, 1) := by decide +kernel
theorem dX6_addToken_55 : decode cX6_addToken 55 = .ok (.getfield 52, 3) := by decide +kernel
theorem dX6_addToken_58 : decode cX6_addToken 58 = .ok (.iconst 1, 1) := by decide +kernel
theorem dX6_addToken_59 : decode cX6_addToken 59 = .ok (.iadd, 1) := by decide +kernel
theorem dX6_addToken_60 : decode cX6_addToken 60 = .ok (.putfield 52, 3) := by decide +kernel
theorem dX6_addToken_63 : decode cX6_addToken 63 = .ok (.return_, 1) := by decide +kernel
theorem dX6_splitNumber_0 : decode cX6_splitNumber 0 = .ok (.iconst 0, 1) := by decide +kernel
theorem dX6_splitNumber_1 : decode cX6_splitNumber 1 = .ok (.istore_n 2, 1) := by decide +kernel
theorem dX6_splitNumber_2 : decode cX6_splitNumber 2 = .ok (.iload_n 1, 1) := by decide +kernel
theorem dX6_splitNumber_3 : decode cX6_splitNumber 3 = .ok (.istore_n 3, 1) := by decide +kernel
theorem dX6_splitNumber_4 : decode cX6_splitNumber 4 = .ok (.iload_n 3, 1) := by decide +kernel
theorem dX6_splitNumber_5 : decode cX6_splitNumber 5 = .ok (.aload_n 0, 1) := by decide +kernel
theorem dX6_splitNumber_6 : decode cX6_splitNumber 6 = .ok (.getfield 42, 3) := by decide +kernel
theorem dX6_splitNumber_9 : decode cX6_splitNumber 9 = .ok (.if_icmp .ge 41, 3) := by decide +kernel
theorem dX6_splitNumber_12 : decode cX6_splitNumber 12 = .ok (.aload_n 0, 1) := by decide +kernel
theorem dX6_splitNumber_13 : decode cX6_splitNumber 13 = .ok (.iload_n 3, 1) := by decide +kernel
theorem dX6_splitNumber_14 : decode cX6_splitNumber 14 = .ok (.invokevirtual 55, 3) := by decide +kernel
theorem dX6_splitNumber_17 : decode cX6_splitNumber 17 = .ok (.invokestatic 59, 3) := by decide +kernel
theorem dX6_splitNumber_20 : decode cX6_splitNumber 20 = .ok (.ifCond .eq 30, 3) := by decide +kernel
theorem dX6_splitNumber_23 : decode cX6_splitNumber 23 = .ok (.iload_n 3, 1) := by decide +kernel
theorem dX6_splitNumber_24 : decode cX6_splitNumber 24 = .ok (.iload_n 1, 1) := by decide +kernel
theorem dX6_splitNumber_25 : decode cX6_splitNumber 25 = .ok (.isub, 1) := by decide +kernel
theorem dX6_splitNumber_26 : decode cX6_splitNumber 26 = .ok (.iconst 5, 1) := by decide +kernel
theorem dX6_splitNumber_27 : decode cX6_splitNumber 27 = .ok (.if_icmp .ge 17, 3) := by decide +kernel
theorem dX6_splitNumber_30 : decode cX6_splitNumber 30 = .ok (.iload_n 2, 1) := by decide +kernel
theorem dX6_splitNumber_31 : decode cX6_splitNumber 31 = .ok (.bipush 10, 2) := by decide +kernel
theorem dX6_splitNumber_33 : decode cX6_splitNumber 33 = .ok (.imul, 1) := by decide +kernel
theorem dX6_splitNumber_34 : decode cX6_splitNumber 34 = .ok (.aload_n 0, 1) := by decide +kernel
theorem dX6_splitNumber_35 : decode cX6_splitNumber 35 = .ok (.iload_n 3, 1) := by decide +kernel
theorem dX6_splitNumber_36 : decode cX6_splitNumber 36 = .ok (.invokevirtual 55, 3) := by decide +kernel
theorem dX6_splitNumber_39 : decode cX6_splitNumber 39 = .ok (.iadd, 1) := by decide +kernel
theorem dX6_splitNumber_40 : decode cX6_splitNumber 40 = .ok (.bipush 48, 2) := by decide +kernel
theorem dX6_splitNumber_42 : decode cX6_splitNumber 42 = .ok (.isub, 1) := by decide +kernel
theorem dX6_splitNumber_43 : decode cX6_splitNumber 43 = .ok (.istore_n 2, 1) := by decide +kernel
theorem dX6_splitNumber_44 : decode cX6_splitNumber 44 = .ok (.iinc 3 1, 3) := by decide +kernel
theorem dX6_splitNumber_47 : decode cX6_splitNumber 47 = .ok (.goto (-43), 3) := by decide +kernel
theorem dX6_splitNumber_50 : decode cX6_splitNumber 50 = .ok (.aload_n 0, 1) := by decide +kernel
theorem dX6_splitNumber_51 : decode cX6_splitNumber 51 = .ok (.bipush (-2), 2) := by decide +kernel
theorem dX6_splitNumber_53 : decode cX6_splitNumber 53 = .ok (.iload_n 1, 1) := by decide +kernel
theorem dX6_splitNumber_54 : decode cX6_splitNumber 54 = .ok (.iload_n 3, 1) := by decide +kernel
theorem dX6_splitNumber_55 : decode cX6_splitNumber 55 = .ok (.iload_n 1, 1) := by decide +kernel
theorem dX6_splitNumber_56 : decode cX6_splitNumber 56 = .ok (.isub, 1) := by decide +kernel
theorem dX6_splitNumber_57 : decode cX6_splitNumber 57 = .ok (.iconst 5, 1) := by decide +kernel
theorem dX6_splitNumber_58 : decode cX6_splitNumber 58 = .ok (.if_icmp .le 7, 3) := by decide +kernel
theorem dX6_splitNumber_61 : decode cX6_splitNumber 61 = .ok (.iconst (-1), 1) := by decide +kernel
theorem dX6_splitNumber_62 : decode cX6_splitNumber 62 = .ok (.goto 4, 3) := by decide +kernel
theorem dX6_splitNumber_65 : decode cX6_splitNumber 65 = .ok (.iload_n 2, 1) := by decide +kernel
theorem dX6_splitNumber_66 : decode cX6_splitNumber 66 = .ok (.getstatic 38, 3) := by decide +kernel
theorem dX6_splitNumber_69 : decode cX6_splitNumber 69 = .ok (.invokevirtual 81, 3) := by decide +kernel
theorem dX6_splitNumber_72 : decode cX6_splitNumber 72 = .ok (.iload_n 3, 1) := by decide +kernel
theorem dX6_splitNumber_73 : decode cX6_splitNumber 73 = .ok (.ireturn, 1) := by decide +kernel
theorem dX6_splitWord_0 : decode cX6_splitWord 0 = .ok (.iload_n 1, 1) := by decide +kernel
theorem dX6_splitWord_1 : decode cX6_splitWord 1 = .ok (.istore_n 2, 1) := by decide +kernel
theorem dX6_splitWord_2 : decode cX6_splitWord 2 = .ok (.iload_n 2, 1) := by decide +kernel
theorem dX6_splitWord_3 : decode cX6_splitWord 3 = .ok (.aload_n 0, 1) := by decide +kernel
theorem dX6_splitWord_4 : decode cX6_splitWord 4 = .ok (.getfield 42, 3) := by decide +kernel
theorem dX6_splitWord_7 : decode cX6_splitWord 7 = .ok (.if_icmp .ge 20, 3) := by decide +kernel
theorem dX6_splitWord_10 : decode cX6_splitWord 10 = .ok (.aload_n 0, 1) := by decide +kernel
theorem dX6_splitWord_11 : decode cX6_splitWord 11 = .ok (.iload_n 2, 1) := by decide +kernel
theorem dX6_splitWord_12 : decode cX6_splitWord 12 = .ok (.invokevirtual 55, 3) := by decide +kernel
theorem dX6_splitWord_15 : decode cX6_splitWord 15 = .ok (.invokestatic 66, 3) := by decide +kernel
theorem dX6_splitWord_18 : decode cX6_splitWord 18 = .ok (.ifCond .eq 9, 3) := by decide +kernel
theorem dX6_splitWord_21 : decode cX6_splitWord 21 = .ok (.iinc 2 1, 3) := by decide +kernel
theorem dX6_splitWord_24 : decode cX6_splitWord 24 = .ok (.goto (-22), 3) := by decide +kernel
theorem dX6_splitWord_27 : decode cX6_splitWord 27 = .ok (.getstatic 38, 3) := by decide +kernel
theorem dX6_splitWord_30 : decode cX6_splitWord 30 = .ok (.astore_n 3, 1) := by decide +kernel
theorem dX6_splitWord_31 : decode cX6_splitWord 31 = .ok (.iconst 0, 1) := by decide +kernel
theorem dX6_splitWord_32 : decode cX6_splitWord 32 = .ok (.istore 4, 2) := by decide +kernel
theorem dX6_splitWord_34 : decode cX6_splitWord 34 = .ok (.iload 4, 2) := by decide +kernel
theorem dX6_splitWord_36 : decode cX6_splitWord 36 = .ok (.aload_n 0, 1) := by decide +kernel
theorem dX6_splitWord_37 : decode cX6_splitWord 37 = .ok (.getfield 21, 3) := by decide +kernel
theorem dX6_splitWord_40 : decode cX6_splitWord 40 = .ok (.arraylength, 1) := by decide +kernel
theorem dX6_splitWord_41 : decode cX6_splitWord 41 = .ok (.if_icmp .ge 36, 3) := by decide +kernel
theorem dX6_splitWord_44 : decode cX6_splitWord 44 = .ok (.aload_n 0, 1) := by decide +kernel
theorem dX6_splitWord_45 : decode cX6_splitWord 45 = .ok (.aload_n 0, 1) := by decide +kernel
theorem dX6_splitWord_46 : decode cX6_splitWord 46 = .ok (.getfield 21, 3) := by decide +kernel
theorem dX6_splitWord_49 : decode cX6_splitWord 49 = .ok (.iload 4, 2) := by decide +kernel
theorem dX6_splitWord_51 : decode cX6_splitWord 51 = .ok (.aaload, 1) := by decide +kernel
theorem dX6_splitWord_52 : decode cX6_splitWord 52 = .ok (.getfield 85, 3) := by decide +kernel
theorem dX6_splitWord_55 : decode cX6_splitWord 55 = .ok (.iload_n 1, 1) := by decide +kernel
theorem dX6_splitWord_56 : decode cX6_splitWord 56 = .ok (.iload_n 2, 1) := by decide +kernel
theorem dX6_splitWord_57 : decode cX6_splitWord 57 = .ok (.invokevirtual 89, 3) := by decide +kernel
theorem dX6_splitWord_60 : decode cX6_splitWord 60 = .ok (.ifCond .eq 11, 3) := by decide +kernel
theorem dX6_splitWord_63 : decode cX6_splitWord 63 = .ok (.aload_n 0, 1) := by decide +kernel
theorem dX6_splitWord_64 : decode cX6_splitWord 64 = .ok (.getfield 21, 3) := by decide +kernel
theorem dX6_splitWord_67 : decode cX6_splitWord 67 = .ok (.iload 4, 2) := by decide +kernel
theorem dX6_splitWord_69 : decode cX6_splitWord 69 = .ok (.aaload, 1) := by decide +kernel
theorem dX6_splitWord_70 : decode cX6_splitWord 70 = .ok (.astore_n 3, 1) := by decide +kernel
theorem dX6_splitWord_71 : decode cX6_splitWord 71 = .ok (.iinc 4 1, 3) := by decide +kernel
theorem dX6_splitWord_74 : decode cX6_splitWord 74 = .ok (.goto (-40), 3) := by decide +kernel
theorem dX6_splitWord_77 : decode cX6_splitWord 77 = .ok (.aload_n 0, 1) := by decide +kernel
theorem dX6_splitWord_78 : decode cX6_splitWord 78 = .ok (.bipush (-3), 2) := by decide +kernel
theorem dX6_splitWord_80 : decode cX6_splitWord 80 = .ok (.iload_n 1, 1) := by decide +kernel
theorem dX6_splitWord_81 : decode cX6_splitWord 81 = .ok (.iconst (-1), 1) := by decide +kernel
theorem dX6_splitWord_82 : decode cX6_splitWord 82 = .ok (.aload_n 3, 1) := by decide +kernel
theorem dX6_splitWord_83 : decode cX6_splitWord 83 = .ok (.invokevirtual 81, 3) := by decide +kernel
theorem dX6_splitWord_86 : decode cX6_splitWord 86 = .ok (.iload_n 2, 1) := by decide +kernel
theorem dX6_splitWord_87 : decode cX6_splitWord 87 = .ok (.ireturn, 1) := by decide +kernel
theorem dX6_isText_0 : decode cX6_isText 0 = .ok (.aload_n 1, 1) := by decide +kernel
theorem dX6_isText_1 : decode cX6_isText 1 = .ok (.invokevirtual 93, 3) := by decide +kernel
theorem dX6_isText_4 : decode cX6_isText 4 = .ok (.iload_n 3, 1) := by decide +kernel
theorem dX6_isText_5 : decode cX6_isText 5 = .ok (.iload_n 2, 1) := by decide +kernel
theorem dX6_isText_6 : decode cX6_isText 6 = .ok (.isub, 1) := by decide +kernel
theorem dX6_isText_7 : decode cX6_isText 7 = .ok (.if_icmp .eq 5, 3) := by decide +kernel
theorem dX6_isText_10 : decode cX6_isText 10 = .ok (.iconst 0, 1) := by decide +kernel
theorem dX6_isText_11 : decode cX6_isText 11 = .ok (.ireturn, 1) := by decide +kernel
theorem dX6_isText_12 : decode cX6_isText 12 = .ok (.iconst 0, 1) := by decide +kernel
theorem dX6_isText_13 : decode cX6_isText 13 = .ok (.istore 4, 2) := by decide +kernel
theorem dX6_isText_15 : decode cX6_isText 15 = .ok (.iload 4, 2) := by decide +kernel
theorem dX6_isText_17 : decode cX6_isText 17 = .ok (.aload_n 1, 1) := by decide +kernel
theorem dX6_isText_18 : decode cX6_isText 18 = .ok (.invokevirtual 93, 3) := by decide +kernel
theorem dX6_isText_21 : decode cX6_isText 21 = .ok (.if_icmp .ge 28, 3) := by decide +kernel
theorem dX6_isText_24 : decode cX6_isText 24 = .ok (.aload_n 1, 1) := by decide +kernel
theorem dX6_isText_25 : decode cX6_isText 25 = .ok (.iload 4, 2) := by decide +kernel
theorem dX6_isText_27 : decode cX6_isText 27 = .ok (.invokevirtual 98, 3) := by decide +kernel
theorem dX6_isText_30 : decode cX6_isText 30 = .ok (.aload_n 0, 1) := by decide +kernel
theorem dX6_isText_31 : decode cX6_isText 31 = .ok (.iload_n 2, 1) := by decide +kernel
theorem dX6_isText_32 : decode cX6_isText 32 = .ok (.iload 4, 2) := by decide +kernel
theorem dX6_isText_34 : decode cX6_isText 34 = .ok (.iadd, 1) := by decide +kernel
theorem dX6_isText_35 : decode cX6_isText 35 = .ok (.invokevirtual 55, 3) := by decide +kernel
theorem dX6_isText_38 : decode cX6_isText 38 = .ok (.if_icmp .eq 5, 3) := by decide +kernel
theorem dX6_isText_41 : decode cX6_isText 41 = .ok (.iconst 0, 1) := by decide +kernel
theorem dX6_isText_42 : decode cX6_isText 42 = .ok (.ireturn, 1) := by decide +kernel
theorem dX6_isText_43 : decode cX6_isText 43 = .ok (.iinc 4 1, 3) := by decide +kernel
theorem dX6_isText_46 : decode cX6_isText 46 = .ok (.goto (-31), 3) := by decide +kernel
theorem dX6_isText_49 : decode cX6_isText 49 = .ok (.iconst 1, 1) := by decide +kernel
theorem dX6_isText_50 : decode cX6_isText 50 = .ok (.ireturn, 1) := by decide +kernel
theorem dX6_splitSign_0 : decode cX6_splitSign 0 = .ok (.aload_n 0, 1) := by decide +kernel
theorem dX6_splitSign_1 : decode cX6_splitSign 1 = .ok (.iload_n 1, 1) := by decide +kernel
theorem dX6_splitSign_2 : decode cX6_splitSign 2 = .ok (.invokevirtual 55, 3) := by decide +kernel
theorem dX6_splitSign_5 : decode cX6_splitSign 5 = .ok (.istore_n 2, 1) := by decide +kernel
theorem dX6_splitSign_6 : decode cX6_splitSign 6 = .ok (.iload_n 2, 1) := by decide +kernel
theorem dX6_splitSign_7 : decode cX6_splitSign 7 = .ok (.bipush 60, 2) := by decide +kernel
theorem dX6_splitSign_9 : decode cX6_splitSign 9 = .ok (.if_icmp .eq 9, 3) := by decide +kernel
theorem dX6_splitSign_12 : decode cX6_splitSign 12 = .ok (.iload_n 2, 1) := by decide +kernel
theorem dX6_splitSign_13 : decode cX6_splitSign 13 = .ok (.bipush 62, 2) := by decide +kernel
theorem dX6_splitSign_15 : decode cX6_splitSign 15 = .ok (.if_icmp .ne 19, 3) := by decide +kernel
theorem dX6_splitSign_18 : decode cX6_splitSign 18 = .ok (.aload_n 0, 1) := by decide +kernel
theorem dX6_splitSign_19 : decode cX6_splitSign 19 = .ok (.iload_n 1, 1) := by decide +kernel
theorem dX6_splitSign_20 : decode cX6_splitSign 20 = .ok (.iconst 1, 1) := by decide +kernel
theorem dX6_splitSign_21 : decode cX6_splitSign 21 = .ok (.iadd, 1) := by decide +kernel
theorem dX6_splitSign_22 : decode cX6_splitSign 22 = .ok (.invokevirtual 55, 3) := by decide +kernel
theorem dX6_splitSign_25 : decode cX6_splitSign 25 = .ok (.bipush 61, 2) := by decide +kernel
theorem dX6_splitSign_27 : decode cX6_splitSign 27 = .ok (.if_icmp .ne 7, 3) := by decide +kernel
theorem dX6_splitSign_30 : decode cX6_splitSign 30 = .ok (.iconst 1, 1) := by decide +kernel
theorem dX6_splitSign_31 : decode cX6_splitSign 31 = .ok (.goto 4, 3) := by decide +kernel
theorem dX6_splitSign_34 : decode cX6_splitSign 34 = .ok (.iconst 0, 1) := by decide +kernel
theorem dX6_splitSign_35 : decode cX6_splitSign 35 = .ok (.istore_n 3, 1) := by decide +kernel
theorem dX6_splitSign_36 : decode cX6_splitSign 36 = .ok (.iload_n 2, 1) := by decide +kernel
theorem dX6_splitSign_37 : decode cX6_splitSign 37 = .ok (.bipush 60, 2) := by decide +kernel
theorem dX6_splitSign_39 : decode cX6_splitSign 39 = .ok (.if_icmp .ne 9, 3) := by decide +kernel
theorem dX6_splitSign_42 : decode cX6_splitSign 42 = .ok (.sipush 256, 3) := by decide +kernel
theorem dX6_splitSign_45 : decode cX6_splitSign 45 = .ok (.goto 6, 3) := by decide +kernel
theorem dX6_splitSign_48 : decode cX6_splitSign 48 = .ok (.sipush 257, 3) := by decide +kernel
theorem dX6_splitSign_51 : decode cX6_splitSign 51 = .ok (.istore 4, 2) := by decide +kernel
theorem dX6_splitSign_53 : decode cX6_splitSign 53 = .ok (.aload_n 0, 1) := by decide +kernel
theorem dX6_splitSign_54 : decode cX6_splitSign 54 = .ok (.iload_n 3, 1) := by decide +kernel
theorem dX6_splitSign_55 : decode cX6_splitSign 55 = .ok (.ifCond .eq 8, 3) := by decide +kernel
theorem dX6_splitSign_58 : decode cX6_splitSign 58 = .ok (.iload 4, 2) := by decide +kernel
theorem dX6_splitSign_60 : decode cX6_splitSign 60 = .ok (.goto 4, 3) := by decide +kernel
theorem dX6_splitSign_63 : decode cX6_splitSign 63 = .ok (.iload_n 2, 1) := by decide +kernel
theorem dX6_splitSign_64 : decode cX6_splitSign 64 = .ok (.iload_n 1, 1) := by decide +kernel
theorem dX6_splitSign_65 : decode cX6_splitSign 65 = .ok (.iconst (-1), 1) := by decide +kernel
theorem dX6_splitSign_66 : decode cX6_splitSign 66 = .ok (.getstatic 38, 3) := by decide +kernel
theorem dX6_splitSign_69 : decode cX6_splitSign 69 = .ok (.invokevirtual 81, 3) := by decide +kernel
theorem dX6_splitSign_72 : decode cX6_splitSign 72 = .ok (.iload_n 3, 1) := by decide +kernel
theorem dX6_splitSign_73 : decode cX6_splitSign 73 = .ok (.ifCond .eq 9, 3) := by decide +kernel
theorem dX6_splitSign_76 : decode cX6_splitSign 76 = .ok (.iload_n 1, 1) := by decide +kernel
theorem dX6_splitSign_77 : decode cX6_splitSign 77 = .ok (.iconst 2, 1) := by decide +kernel
theorem dX6_splitSign_78 : decode cX6_splitSign 78 = .ok (.iadd, 1) := by decide +kernel
theorem dX6_splitSign_79 : decode cX6_splitSign 79 = .ok (.goto 6, 3) := by decide +kernel
theorem dX6_splitSign_82 : decode cX6_splitSign 82 = .ok (.iload_n 1, 1) := by decide +kernel
theorem dX6_splitSign_83 : decode cX6_splitSign 83 = .ok (.iconst 1, 1) := by decide +kernel
theorem dX6_splitSign_84 : decode cX6_splitSign 84 = .ok (.iadd, 1) := by decide +kernel
theorem dX6_splitSign_85 : decode cX6_splitSign 85 = .ok (.ireturn, 1) := by decide +kernel
theorem dX6_kind_0 : decode cX6_kind 0 = .ok (.aload_n 0, 1) := by decide +kernel
theorem dX6_kind_1 : decode cX6_kind 1 = .ok (.getfield 49, 3) := by decide +kernel
theorem dX6_kind_4 : decode cX6_kind 4 = .ok (.aload_n 0, 1) := by decide +kernel
theorem dX6_kind_5 : decode cX6_kind 5 = .ok (.getfield 52, 3) := by decide +kernel
theorem dX6_kind_8 : decode cX6_kind 8 = .ok (.if_icmp .ge 15, 3) := by decide +kernel
theorem dX6_kind_11 : decode cX6_kind 11 = .ok (.aload_n 0, 1) := by decide +kernel
theorem dX6_kind_12 : decode cX6_kind 12 = .ok (.getfield 25, 3) := by decide +kernel
theorem dX6_kind_15 : decode cX6_kind 15 = .ok (.aload_n 0, 1) := by decide +kernel
theorem dX6_kind_16 : decode cX6_kind 16 = .ok (.getfield 49, 3) := by decide +kernel
theorem dX6_kind_19 : decode cX6_kind 19 = .ok (.iaload, 1) := by decide +kernel
theorem dX6_kind_20 : decode cX6_kind 20 = .ok (.goto 4, 3) := by decide +kernel
theorem dX6_kind_23 : decode cX6_kind 23 = .ok (.iconst (-1), 1) := by decide +kernel
theorem dX6_kind_24 : decode cX6_kind 24 = .ok (.ireturn, 1) := by decide +kernel
theorem dX6_number_0 : decode cX6_number 0 = .ok (.aload_n 0, 1) := by decide +kernel
theorem dX6_number_1 : decode cX6_number 1 = .ok (.getfield 49, 3) := by decide +kernel
theorem dX6_number_4 : decode cX6_number 4 = .ok (.aload_n 0, 1) := by decide +kernel
theorem dX6_number_5 : decode cX6_number 5 = .ok (.getfield 52, 3) := by decide +kernel
theorem dX6_number_8 : decode cX6_number 8 = .ok (.if_icmp .ge 15, 3) := by decide +kernel
theorem dX6_number_11 : decode cX6_number 11 = .ok (.aload_n 0, 1) := by decide +kernel
theorem dX6_number_12 : decode cX6_number 12 = .ok (.getfield 32, 3) := by decide +kernel
theorem dX6_number_15 : decode cX6_number 15 = .ok (.aload_n 0, 1) := by decide +kernel
theorem dX6_number_16 : decode cX6_number 16 = .ok (.getfield 49, 3) := by decide +kernel
theorem dX6_number_19 : decode cX6_number 19 = .ok (.iaload, 1) := by decide +kernel
theorem dX6_number_20 : decode cX6_number 20 = .ok (.goto 4, 3) := by decide +kernel
theorem dX6_number_23 : decode cX6_number 23 = .ok (.iconst (-1), 1) := by decide +kernel
theorem dX6_number_24 : decode cX6_number 24 = .ok (.ireturn, 1) := by decide +kernel
theorem dX6_word_0 : decode cX6_word 0 = .ok (.aload_n 0, 1) := by decide +kernel
theorem dX6_word_1 : decode cX6_word 1 = .ok (.getfield 49, 3) := by decide +kernel
theorem dX6_word_4 : decode cX6_word 4 = .ok (.aload_n 0, 1) := by decide +kernel
theorem dX6_word_5 : decode cX6_word 5 = .ok (.getfield 52, 3) := by decide +kernel
theorem dX6_word_8 : decode cX6_word 8 = .ok (.if_icmp .ge 15, 3) := by decide +kernel
theorem dX6_word_11 : decode cX6_word 11 = .ok (.aload_n 0, 1) := by decide +kernel
theorem dX6_word_12 : decode cX6_word 12 = .ok (.getfield 35, 3) := by decide +kernel
theorem dX6_word_15 : decode cX6_word 15 = .ok (.aload_n 0, 1) := by decide +kernel
theorem dX6_word_16 : decode cX6_word 16 = .ok (.getfield 49, 3) := by decide +kernel
theorem dX6_word_19 : decode cX6_word 19 = .ok (.aaload, 1) := by decide +kernel
theorem dX6_word_20 : decode cX6_word 20 = .ok (.goto 6, 3) := by decide +kernel
theorem dX6_word_23 : decode cX6_word 23 = .ok (.getstatic 38, 3) := by decide +kernel
theorem dX6_word_26 : decode cX6_word 26 = .ok (.areturn, 1) := by decide +kernel
theorem dX6_advance_0 : decode cX6_advance 0 = .ok (.aload_n 0, 1) := by decide +kernel
theorem dX6_advance_1 : decode cX6_advance 1 = .ok (.getfield 49, 3) := by decide +kernel
theorem dX6_advance_4 : decode cX6_advance 4 = .ok (.aload_n 0, 1) := by decide +kernel
theorem dX6_advance_5 : decode cX6_advance 5 = .ok (.getfield 52, 3) := by decide +kernel
theorem dX6_advance_8 : decode cX6_advance 8 = .ok (.if_icmp .ge 13, 3) := by decide +kernel
theorem dX6_advance_11 : decode cX6_advance 11 = .ok (.aload_n 0, 1) := by decide +kernel
theorem dX6_advance_12 : decode cX6_advance 12 = .ok (.dup, 1) := by decide +kernel
theorem dX6_advance_13 : decode cX6_advance 13 = .ok (.getfield 49, 3) := by decide +kernel
theorem dX6_advance_16 : decode cX6_advance 16 = .ok (.iconst 1, 1) := by decide +kernel
theorem dX6_advance_17 : decode cX6_advance 17 = .ok (.iadd, 1) := by decide +kernel
theorem dX6_advance_18 : decode cX6_advance 18 = .ok (.putfield 49, 3) := by decide +kernel
theorem dX6_advance_21 : decode cX6_advance 21 = .ok (.return_, 1) := by decide +kernel
theorem dX6_fail_0 : decode cX6_fail 0 = .ok (.aload_n 0, 1) := by decide +kernel
theorem dX6_fail_1 : decode cX6_fail 1 = .ok (.iconst 1, 1) := by decide +kernel
theorem dX6_fail_2 : decode cX6_fail 2 = .ok (.bipush 8, 2) := by decide +kernel
theorem dX6_fail_4 : decode cX6_fail 4 = .ok (.aload_n 0, 1) := by decide +kernel
theorem dX6_fail_5 : decode cX6_fail 5 = .ok (.getfield 49, 3) := by decide +kernel
theorem dX6_fail_8 : decode cX6_fail 8 = .ok (.aload_n 0, 1) := by decide +kernel
theorem dX6_fail_9 : decode cX6_fail 9 = .ok (.getfield 52, 3) := by decide +kernel
theorem dX6_fail_12 : decode cX6_fail 12 = .ok (.if_icmp .ge 15, 3) := by decide +kernel
theorem dX6_fail_15 : decode cX6_fail 15 = .ok (.aload_n 0, 1) := by decide +kernel
theorem dX6_fail_16 : decode cX6_fail 16 = .ok (.getfield 29, 3) := by decide +kernel
theorem dX6_fail_19 : decode cX6_fail 19 = .ok (.aload_n 0, 1) := by decide +kernel
theorem dX6_fail_20 : decode cX6_fail 20 = .ok (.getfield 49, 3) := by decide +kernel
theorem dX6_fail_23 : decode cX6_fail 23 = .ok (.iaload, 1) := by decide +kernel
theorem dX6_fail_24 : decode cX6_fail 24 = .ok (.goto 7, 3) := by decide +kernel
theorem dX6_fail_27 : decode cX6_fail 27 = .ok (.aload_n 0, 1) := by decide +kernel
theorem dX6_fail_28 : decode cX6_fail 28 = .ok (.getfield 42, 3) := by decide +kernel
theorem dX6_fail_31 : decode cX6_fail 31 = .ok (.imul, 1) := by decide +kernel
theorem dX6_fail_32 : decode cX6_fail 32 = .ok (.iadd, 1) := by decide +kernel
theorem dX6_fail_33 : decode cX6_fail 33 = .ok (.iload_n 1, 1) := by decide +kernel
theorem dX6_fail_34 : decode cX6_fail 34 = .ok (.iadd, 1) := by decide +kernel
theorem dX6_fail_35 : decode cX6_fail 35 = .ok (.putfield 46, 3) := by decide +kernel
theorem dX6_fail_38 : decode cX6_fail 38 = .ok (.iconst 0, 1) := by decide +kernel
theorem dX6_fail_39 : decode cX6_fail 39 = .ok (.ireturn, 1) := by decide +kernel
theorem dX6_passes_0 : decode cX6_passes 0 = .ok (.aload_n 0, 1) := by decide +kernel
theorem dX6_passes_1 : decode cX6_passes 1 = .ok (.invokevirtual 102, 3) := by decide +kernel
theorem dX6_passes_4 : decode cX6_passes 4 = .ok (.iload_n 1, 1) := by decide +kernel
theorem dX6_passes_5 : decode cX6_passes 5 = .ok (.if_icmp .eq 9, 3) := by decide +kernel
theorem dX6_passes_8 : decode cX6_passes 8 = .ok (.aload_n 0, 1) := by decide +kernel
theorem dX6_passes_9 : decode cX6_passes 9 = .ok (.iconst 0, 1) := by decide +kernel
theorem dX6_passes_10 : decode cX6_passes 10 = .ok (.invokevirtual 105, 3) := by decide +kernel
theorem dX6_passes_13 : decode cX6_passes 13 = .ok (.ireturn, 1) := by decide +kernel
theorem dX6_passes_14 : decode cX6_passes 14 = .ok (.aload_n 0, 1) := by decide +kernel
theorem dX6_passes_15 : decode cX6_passes 15 = .ok (.invokevirtual 108, 3) := by decide +kernel
theorem dX6_passes_18 : decode cX6_passes 18 = .ok (.iconst 1, 1) := by decide +kernel
theorem dX6_passes_19 : decode cX6_passes 19 = .ok (.ireturn, 1) := by decide +kernel
theorem dX6_takeNumber_0 : decode cX6_takeNumber 0 = .ok (.aload_n 0, 1) := by decide +kernel
theorem dX6_takeNumber_1 : decode cX6_takeNumber 1 = .ok (.getfield 46, 3) := by decide +kernel
theorem dX6_takeNumber_4 : decode cX6_takeNumber 4 = .ok (.ifCond .eq 5, 3) := by decide +kernel
theorem dX6_takeNumber_7 : decode cX6_takeNumber 7 = .ok (.iconst (-1), 1) := by decide +kernel
theorem dX6_takeNumber_8 : decode cX6_takeNumber 8 = .ok (.ireturn, 1) := by decide +kernel
theorem dX6_takeNumber_9 : decode cX6_takeNumber 9 = .ok (.aload_n 0, 1) := by decide +kernel
theorem dX6_takeNumber_10 : decode cX6_takeNumber 10 = .ok (.invokevirtual 111, 3) := by decide +kernel
theorem dX6_takeNumber_13 : decode cX6_takeNumber 13 = .ok (.istore_n 3, 1) := by decide +kernel
theorem dX6_takeNumber_14 : decode cX6_takeNumber 14 = .ok (.aload_n 0, 1) := by decide +kernel
theorem dX6_takeNumber_15 : decode cX6_takeNumber 15 = .ok (.invokevirtual 102, 3) := by decide +kernel
theorem dX6_takeNumber_18 : decode cX6_takeNumber 18 = .ok (.bipush (-2), 2) := by decide +kernel
theorem dX6_takeNumber_20 : decode cX6_takeNumber 20 = .ok (.if_icmp .eq 11, 3) := by decide +kernel
theorem dX6_takeNumber_23 : decode cX6_takeNumber 23 = .ok (.aload_n 0, 1) := by decide +kernel
theorem dX6_takeNumber_24 : decode cX6_takeNumber 24 = .ok (.iconst 0, 1) := by decide +kernel
theorem dX6_takeNumber_25 : decode cX6_takeNumber 25 = .ok (.invokevirtual 105, 3) := by decide +kernel
theorem dX6_takeNumber_28 : decode cX6_takeNumber 28 = .ok (.pop, 1) := by decide +kernel
theorem dX6_takeNumber_29 : decode cX6_takeNumber 29 = .ok (.iconst (-1), 1) := by decide +kernel
theorem dX6_takeNumber_30 : decode cX6_takeNumber 30 = .ok (.ireturn, 1) := by decide +kernel
theorem dX6_takeNumber_31 : decode cX6_takeNumber 31 = .ok (.iload_n 3, 1) := by decide +kernel
theorem dX6_takeNumber_32 : decode cX6_takeNumber 32 = .ok (.iload_n 1, 1) := by decide +kernel
theorem dX6_takeNumber_33 : decode cX6_takeNumber 33 = .ok (.if_icmp .lt 8, 3) := by decide +kernel
theorem dX6_takeNumber_36 : decode cX6_takeNumber 36 = .ok (.iload_n 3, 1) := by decide +kernel
theorem dX6_takeNumber_37 : decode cX6_takeNumber 37 = .ok (.iload_n 2, 1) := by decide +kernel
theorem dX6_takeNumber_38 : decode cX6_takeNumber 38 = .ok (.if_icmp .le 11, 3) := by decide +kernel
theorem dX6_takeNumber_41 : decode cX6_takeNumber 41 = .ok (.aload_n 0, 1) := by decide +kernel
theorem dX6_takeNumber_42 : decode cX6_takeNumber 42 = .ok (.iconst 1, 1) := by decide +kernel
theorem dX6_takeNumber_43 : decode cX6_takeNumber 43 = .ok (.invokevirtual 105, 3) := by decide +kernel
theorem dX6_takeNumber_46 : decode cX6_takeNumber 46 = .ok (.pop, 1) := by decide +kernel
theorem dX6_takeNumber_47 : decode cX6_takeNumber 47 = .ok (.iconst (-1), 1) := by decide +kernel
theorem dX6_takeNumber_48 : decode cX6_takeNumber 48 = .ok (.ireturn, 1) := by decide +kernel
theorem dX6_takeNumber_49 : decode cX6_takeNumber 49 = .ok (.aload_n 0, 1) := by decide +kernel
theorem dX6_takeNumber_50 : decode cX6_takeNumber 50 = .ok (.invokevirtual 108, 3) := by decide +kernel
theorem dX6_takeNumber_53 : decode cX6_takeNumber 53 = .ok (.iload_n 3, 1) := by decide +kernel
theorem dX6_takeNumber_54 : decode cX6_takeNumber 54 = .ok (.ireturn, 1) := by decide +kernel
