theorem dX8_init_0 : decode cX8_init 0 = .ok (.aload_n 0, 1) := by decide +kernel
theorem dX8_init_1 : decode cX8_init 1 = .ok (.invokespecial 1, 3) := by decide +kernel
theorem dX8_init_4 : decode cX8_init 4 = .ok (.aload_n 0, 1) := by decide +kernel
theorem dX8_init_5 : decode cX8_init 5 = .ok (.sipush 312, 3) := by decide +kernel
theorem dX8_init_8 : decode cX8_init 8 = .ok (.newarray .int, 2) := by decide +kernel
theorem dX8_init_10 : decode cX8_init 10 = .ok (.putfield 7, 3) := by decide +kernel
theorem dX8_init_13 : decode cX8_init 13 = .ok (.aload_n 0, 1) := by decide +kernel
theorem dX8_init_14 : decode cX8_init 14 = .ok (.sipush 624, 3) := by decide +kernel
theorem dX8_init_17 : decode cX8_init 17 = .ok (.newarray .int, 2) := by decide +kernel
theorem dX8_init_19 : decode cX8_init 19 = .ok (.putfield 13, 3) := by decide +kernel
theorem dX8_init_22 : decode cX8_init 22 = .ok (.aload_n 0, 1) := by decide +kernel
theorem dX8_init_23 : decode cX8_init 23 = .ok (.iconst 2, 1) := by decide +kernel
theorem dX8_init_24 : decode cX8_init 24 = .ok (.newarray .boolean, 2) := by decide +kernel
theorem dX8_init_26 : decode cX8_init 26 = .ok (.putfield 16, 3) := by decide +kernel
theorem dX8_init_29 : decode cX8_init 29 = .ok (.aload_n 0, 1) := by decide +kernel
theorem dX8_init_30 : decode cX8_init 30 = .ok (.iconst 3, 1) := by decide +kernel
theorem dX8_init_31 : decode cX8_init 31 = .ok (.newarray .int, 2) := by decide +kernel
theorem dX8_init_33 : decode cX8_init 33 = .ok (.putfield 20, 3) := by decide +kernel
theorem dX8_init_36 : decode cX8_init 36 = .ok (.aload_n 0, 1) := by decide +kernel
theorem dX8_init_37 : decode cX8_init 37 = .ok (.lconst 1, 1) := by decide +kernel
theorem dX8_init_38 : decode cX8_init 38 = .ok (.putfield 23, 3) := by decide +kernel
theorem dX8_init_41 : decode cX8_init 41 = .ok (.aload_n 0, 1) := by decide +kernel
theorem dX8_init_42 : decode cX8_init 42 = .ok (.bipush 49, 2) := by decide +kernel
theorem dX8_init_44 : decode cX8_init 44 = .ok (.newarray .int, 2) := by decide +kernel
theorem dX8_init_46 : decode cX8_init 46 = .ok (.putfield 27, 3) := by decide +kernel
theorem dX8_init_49 : decode cX8_init 49 = .ok (.aload_n 0, 1) := by decide +kernel
theorem dX8_init_50 : decode cX8_init 50 = .ok (.bipush 6, 2) := by decide +kernel
theorem dX8_init_52 : decode cX8_init 52 = .ok (.newarray .int, 2) := by decide +kernel
theorem dX8_init_54 : decode cX8_init 54 = .ok (.putfield 30, 3) := by decide +kernel
theorem dX8_init_57 : decode cX8_init 57 = .ok (.aload_n 0, 1) := by decide +kernel
theorem dX8_init_58 : decode cX8_init 58 = .ok (.bipush 64, 2) := by decide +kernel
theorem dX8_init_60 : decode cX8_init 60 = .ok (.newarray .int, 2) := by decide +kernel
theorem dX8_init_62 : decode cX8_init 62 = .ok (.putfield 33, 3) := by decide +kernel
theorem dX8_init_65 : decode cX8_init 65 = .ok (.aload_n 0, 1) := by decide +kernel
theorem dX8_init_66 : decode cX8_init 66 = .ok (.bipush 64, 2) := by decide +kernel
theorem dX8_init_68 : decode cX8_init 68 = .ok (.newarray .int, 2) := by decide +kernel
theorem dX8_init_70 : decode cX8_init 70 = .ok (.putfield 36, 3) := by decide +kernel
theorem dX8_init_73 : decode cX8_init 73 = .ok (.aload_n 0, 1) := by decide +kernel
theorem dX8_init_74 : decode cX8_init 74 = .ok (.bipush 6, 2) := by decide +kernel
theorem dX8_init_76 : decode cX8_init 76 = .ok (.newarray .int, 2) := by decide +kernel
theorem dX8_init_78 : decode cX8_init 78 = .ok (.putfield 39, 3) := by decide +kernel
theorem dX8_init_81 : decode cX8_init 81 = .ok (.aload_n 0, 1) := by decide +kernel
theorem dX8_init_82 : decode cX8_init 82 = .ok (.sipush 150, 3) := by decide +kernel
theorem dX8_init_85 : decode cX8_init 85 = .ok (.newarray .int, 2) := by decide +kernel
theorem dX8_init_87 : decode cX8_init 87 = .ok (.putfield 42, 3) := by decide +kernel
theorem dX8_init_90 : decode cX8_init 90 = .ok (.aload_n 0, 1) := by decide +kernel
theorem dX8_init_91 : decode cX8_init 91 = .ok (.bipush 112, 2) := by decide +kernel
theorem dX8_init_93 : decode cX8_init 93 = .ok (.newarray .int, 2) := by decide +kernel
theorem dX8_init_95 : decode cX8_init 95 = .ok (.putfield 45, 3) := by decide +kernel
theorem dX8_init_98 : decode cX8_init 98 = .ok (.aload_n 0, 1) := by decide +kernel
theorem dX8_init_99 : decode cX8_init 99 = .ok (.iconst 3, 1) := by decide +kernel
theorem dX8_init_100 : decode cX8_init 100 = .ok (.newarray .int, 2) := by decide +kernel
theorem dX8_init_102 : decode cX8_init 102 = .ok (.putfield 48, 3) := by decide +kernel
theorem dX8_init_105 : decode cX8_init 105 = .ok (.aload_n 0, 1) := by decide +kernel
theorem dX8_init_106 : decode cX8_init 106 = .ok (.getfield 7, 3) := by decide +kernel
theorem dX8_init_109 : decode cX8_init 109 = .ok (.invokestatic 51, 3) := by decide +kernel
theorem dX8_init_112 : decode cX8_init 112 = .ok (.return_, 1) := by decide +kernel
theorem dX8_in_0 : decode cX8_in 0 = .ok (.lload_n 0, 1) := by decide +kernel
theorem dX8_in_1 : decode cX8_in 1 = .ok (.lload_n 2, 1) := by decide +kernel
theorem dX8_in_2 : decode cX8_in 2 = .ok (.lcmp, 1) := by decide +kernel
theorem dX8_in_3 : decode cX8_in 3 = .ok (.ifCond .lt 14, 3) := by decide +kernel
theorem dX8_in_6 : decode cX8_in 6 = .ok (.lload_n 0, 1) := by decide +kernel
theorem dX8_in_7 : decode cX8_in 7 = .ok (.lload 4, 2) := by decide +kernel
theorem dX8_in_9 : decode cX8_in 9 = .ok (.lcmp, 1) := by decide +kernel
theorem dX8_in_10 : decode cX8_in 10 = .ok (.ifCond .gt 7, 3) := by decide +kernel
theorem dX8_in_13 : decode cX8_in 13 = .ok (.iconst 1, 1) := by decide +kernel
theorem dX8_in_14 : decode cX8_in 14 = .ok (.goto 4, 3) := by decide +kernel
theorem dX8_in_17 : decode cX8_in 17 = .ok (.iconst 0, 1) := by decide +kernel
theorem dX8_in_18 : decode cX8_in 18 = .ok (.ireturn, 1) := by decide +kernel
theorem dX8_bad_0 : decode cX8_bad 0 = .ok (.aload_n 0, 1) := by decide +kernel
theorem dX8_bad_1 : decode cX8_bad 1 = .ok (.getfield 20, 3) := by decide +kernel
theorem dX8_bad_4 : decode cX8_bad 4 = .ok (.iconst 0, 1) := by decide +kernel
theorem dX8_bad_5 : decode cX8_bad 5 = .ok (.dup2, 1) := by decide +kernel
theorem dX8_bad_6 : decode cX8_bad 6 = .ok (.iaload, 1) := by decide +kernel
theorem dX8_bad_7 : decode cX8_bad 7 = .ok (.iconst 1, 1) := by decide +kernel
theorem dX8_bad_8 : decode cX8_bad 8 = .ok (.iadd, 1) := by decide +kernel
theorem dX8_bad_9 : decode cX8_bad 9 = .ok (.iastore, 1) := by decide +kernel
theorem dX8_bad_10 : decode cX8_bad 10 = .ok (.iload_n 1, 1) := by decide +kernel
theorem dX8_bad_11 : decode cX8_bad 11 = .ok (.ireturn, 1) := by decide +kernel
theorem dX8_no_0 : decode cX8_no 0 = .ok (.aload_n 0, 1) := by decide +kernel
theorem dX8_no_1 : decode cX8_no 1 = .ok (.getfield 20, 3) := by decide +kernel
theorem dX8_no_4 : decode cX8_no 4 = .ok (.iconst 1, 1) := by decide +kernel
theorem dX8_no_5 : decode cX8_no 5 = .ok (.dup2, 1) := by decide +kernel
theorem dX8_no_6 : decode cX8_no 6 = .ok (.iaload, 1) := by decide +kernel
theorem dX8_no_7 : decode cX8_no 7 = .ok (.iconst 1, 1) := by decide +kernel
theorem dX8_no_8 : decode cX8_no 8 = .ok (.iadd, 1) := by decide +kernel
theorem dX8_no_9 : decode cX8_no 9 = .ok (.iastore, 1) := by decide +kernel
theorem dX8_no_10 : decode cX8_no 10 = .ok (.bipush (-3), 2) := by decide +kernel
theorem dX8_no_12 : decode cX8_no 12 = .ok (.ireturn, 1) := by decide +kernel
theorem dX8_full_0 : decode cX8_full 0 = .ok (.aload_n 0, 1) := by decide +kernel
theorem dX8_full_1 : decode cX8_full 1 = .ok (.getfield 20, 3) := by decide +kernel
theorem dX8_full_4 : decode cX8_full 4 = .ok (.iconst 2, 1) := by decide +kernel
theorem dX8_full_5 : decode cX8_full 5 = .ok (.dup2, 1) := by decide +kernel
theorem dX8_full_6 : decode cX8_full 6 = .ok (.iaload, 1) := by decide +kernel
theorem dX8_full_7 : decode cX8_full 7 = .ok (.iconst 1, 1) := by decide +kernel
theorem dX8_full_8 : decode cX8_full 8 = .ok (.iadd, 1) := by decide +kernel
theorem dX8_full_9 : decode cX8_full 9 = .ok (.iastore, 1) := by decide +kernel
theorem dX8_full_10 : decode cX8_full 10 = .ok (.bipush (-4), 2) := by decide +kernel
theorem dX8_full_12 : decode cX8_full 12 = .ok (.ireturn, 1) := by decide +kernel
theorem dX8_has_0 : decode cX8_has 0 = .ok (.iload_n 0, 1) := by decide +kernel
theorem dX8_has_1 : decode cX8_has 1 = .ok (.iload_n 1, 1) := by decide +kernel
theorem dX8_has_2 : decode cX8_has 2 = .ok (.ishr, 1) := by decide +kernel
theorem dX8_has_3 : decode cX8_has 3 = .ok (.iconst 1, 1) := by decide +kernel
theorem dX8_has_4 : decode cX8_has 4 = .ok (.iand, 1) := by decide +kernel
theorem dX8_has_5 : decode cX8_has 5 = .ok (.iconst 1, 1) := by decide +kernel
theorem dX8_has_6 : decode cX8_has 6 = .ok (.if_icmp .ne 7, 3) := by decide +kernel
theorem dX8_has_9 : decode cX8_has 9 = .ok (.iconst 1, 1) := by decide +kernel
theorem dX8_has_10 : decode cX8_has 10 = .ok (.goto 4, 3) := by decide +kernel
theorem dX8_has_13 : decode cX8_has 13 = .ok (.iconst 0, 1) := by decide +kernel
theorem dX8_has_14 : decode cX8_has 14 = .ok (.ireturn, 1) := by decide +kernel
theorem dX8_begin_0 : decode cX8_begin 0 = .ok (.iconst 0, 1) := by decide +kernel
theorem dX8_begin_1 : decode cX8_begin 1 = .ok (.istore_n 1, 1) := by decide +kernel
theorem dX8_begin_2 : decode cX8_begin 2 = .ok (.iload_n 1, 1) := by decide +kernel
theorem dX8_begin_3 : decode cX8_begin 3 = .ok (.bipush 112, 2) := by decide +kernel
theorem dX8_begin_5 : decode cX8_begin 5 = .ok (.if_icmp .ge 13, 3) := by decide +kernel
theorem dX8_begin_8 : decode cX8_begin 8 = .ok (.aload_n 0, 1) := by decide +kernel
theorem dX8_begin_9 : decode cX8_begin 9 = .ok (.iload_n 1, 1) := by decide +kernel
theorem dX8_begin_10 : decode cX8_begin 10 = .ok (.iconst 0, 1) := by decide +kernel
theorem dX8_begin_11 : decode cX8_begin 11 = .ok (.iastore, 1) := by decide +kernel
theorem dX8_begin_12 : decode cX8_begin 12 = .ok (.iinc 1 1, 3) := by decide +kernel
theorem dX8_begin_15 : decode cX8_begin 15 = .ok (.goto (-13), 3) := by decide +kernel
theorem dX8_begin_18 : decode cX8_begin 18 = .ok (.return_, 1) := by decide +kernel
theorem dX8_many_0 : decode cX8_many 0 = .ok (.aload_n 0, 1) := by decide +kernel
theorem dX8_many_1 : decode cX8_many 1 = .ok (.getfield 7, 3) := by decide +kernel
theorem dX8_many_4 : decode cX8_many 4 = .ok (.iconst 0, 1) := by decide +kernel
theorem dX8_many_5 : decode cX8_many 5 = .ok (.iaload, 1) := by decide +kernel
theorem dX8_many_6 : decode cX8_many 6 = .ok (.ireturn, 1) := by decide +kernel
theorem dX8_isSleeper_0 : decode cX8_isSleeper 0 = .ok (.iload_n 1, 1) := by decide +kernel
theorem dX8_isSleeper_1 : decode cX8_isSleeper 1 = .ok (.i2l, 1) := by decide +kernel
theorem dX8_isSleeper_2 : decode cX8_isSleeper 2 = .ok (.lconst 0, 1) := by decide +kernel
theorem dX8_isSleeper_3 : decode cX8_isSleeper 3 = .ok (.aload_n 0, 1) := by decide +kernel
theorem dX8_isSleeper_4 : decode cX8_isSleeper 4 = .ok (.invokevirtual 55, 3) := by decide +kernel
theorem dX8_isSleeper_7 : decode cX8_isSleeper 7 = .ok (.iconst 1, 1) := by decide +kernel
theorem dX8_isSleeper_8 : decode cX8_isSleeper 8 = .ok (.isub, 1) := by decide +kernel
theorem dX8_isSleeper_9 : decode cX8_isSleeper 9 = .ok (.i2l, 1) := by decide +kernel
theorem dX8_isSleeper_10 : decode cX8_isSleeper 10 = .ok (.invokestatic 59, 3) := by decide +kernel
theorem dX8_isSleeper_13 : decode cX8_isSleeper 13 = .ok (.ireturn, 1) := by decide +kernel
theorem dX8_isFlower_0 : decode cX8_isFlower 0 = .ok (.iload_n 1, 1) := by decide +kernel
theorem dX8_isFlower_1 : decode cX8_isFlower 1 = .ok (.i2l, 1) := by decide +kernel
theorem dX8_isFlower_2 : decode cX8_isFlower 2 = .ok (.lconst 0, 1) := by decide +kernel
theorem dX8_isFlower_3 : decode cX8_isFlower 3 = .ok (.aload_n 0, 1) := by decide +kernel
theorem dX8_isFlower_4 : decode cX8_isFlower 4 = .ok (.getfield 7, 3) := by decide +kernel
theorem dX8_isFlower_7 : decode cX8_isFlower 7 = .ok (.iconst 1, 1) := by decide +kernel
theorem dX8_isFlower_8 : decode cX8_isFlower 8 = .ok (.iaload, 1) := by decide +kernel
theorem dX8_isFlower_9 : decode cX8_isFlower 9 = .ok (.iconst 1, 1) := by decide +kernel
theorem dX8_isFlower_10 : decode cX8_isFlower 10 = .ok (.isub, 1) := by decide +kernel
theorem dX8_isFlower_11 : decode cX8_isFlower 11 = .ok (.i2l, 1) := by decide +kernel
theorem dX8_isFlower_12 : decode cX8_isFlower 12 = .ok (.invokestatic 59, 3) := by decide +kernel
theorem dX8_isFlower_15 : decode cX8_isFlower 15 = .ok (.ireturn, 1) := by decide +kernel
theorem dX8_isPillow_0 : decode cX8_isPillow 0 = .ok (.iload_n 0, 1) := by decide +kernel
theorem dX8_isPillow_1 : decode cX8_isPillow 1 = .ok (.i2l, 1) := by decide +kernel
theorem dX8_isPillow_2 : decode cX8_isPillow 2 = .ok (.lconst 0, 1) := by decide +kernel
theorem dX8_isPillow_3 : decode cX8_isPillow 3 = .ok (.ldc2_w 63, 3) := by decide +kernel
theorem dX8_isPillow_6 : decode cX8_isPillow 6 = .ok (.invokestatic 59, 3) := by decide +kernel
theorem dX8_isPillow_9 : decode cX8_isPillow 9 = .ok (.ireturn, 1) := by decide +kernel
theorem dX8_isKind_0 : decode cX8_isKind 0 = .ok (.iload_n 0, 1) := by decide +kernel
theorem dX8_isKind_1 : decode cX8_isKind 1 = .ok (.i2l, 1) := by decide +kernel
theorem dX8_isKind_2 : decode cX8_isKind 2 = .ok (.lconst 0, 1) := by decide +kernel
theorem dX8_isKind_3 : decode cX8_isKind 3 = .ok (.ldc2_w 63, 3) := by decide +kernel
theorem dX8_isKind_6 : decode cX8_isKind 6 = .ok (.invokestatic 59, 3) := by decide +kernel
theorem dX8_isKind_9 : decode cX8_isKind 9 = .ok (.ireturn, 1) := by decide +kernel
theorem dX8_isWord_0 : decode cX8_isWord 0 = .ok (.iload_n 0, 1) := by decide +kernel
theorem dX8_isWord_1 : decode cX8_isWord 1 = .ok (.i2l, 1) := by decide +kernel
theorem dX8_isWord_2 : decode cX8_isWord 2 = .ok (.lconst 1, 1) := by decide +kernel
theorem dX8_isWord_3 : decode cX8_isWord 3 = .ok (.ldc2_w 65, 3) := by decide +kernel
theorem dX8_isWord_6 : decode cX8_isWord 6 = .ok (.invokestatic 59, 3) := by decide +kernel
theorem dX8_isWord_9 : decode cX8_isWord 9 = .ok (.ireturn, 1) := by decide +kernel
theorem dX8_isWool_0 : decode cX8_isWool 0 = .ok (.iload_n 0, 1) := by decide +kernel
theorem dX8_isWool_1 : decode cX8_isWool 1 = .ok (.i2l, 1) := by decide +kernel
theorem dX8_isWool_2 : decode cX8_isWool 2 = .ok (.lconst 0, 1) := by decide +kernel
theorem dX8_isWool_3 : decode cX8_isWool 3 = .ok (.ldc2_w 65, 3) := by decide +kernel
theorem dX8_isWool_6 : decode cX8_isWool 6 = .ok (.invokestatic 59, 3) := by decide +kernel
theorem dX8_isWool_9 : decode cX8_isWool 9 = .ok (.ireturn, 1) := by decide +kernel
theorem dX8_office_0 : decode cX8_office 0 = .ok (.aload_n 0, 1) := by decide +kernel
theorem dX8_office_1 : decode cX8_office 1 = .ok (.invokevirtual 55, 3) := by decide +kernel
theorem dX8_office_4 : decode cX8_office 4 = .ok (.istore_n 1, 1) := by decide +kernel
theorem dX8_office_5 : decode cX8_office 5 = .ok (.aload_n 0, 1) := by decide +kernel
theorem dX8_office_6 : decode cX8_office 6 = .ok (.getfield 7, 3) := by decide +kernel
theorem dX8_office_9 : decode cX8_office 9 = .ok (.invokestatic 51, 3) := by decide +kernel
theorem dX8_office_12 : decode cX8_office 12 = .ok (.iload_n 1, 1) := by decide +kernel
theorem dX8_office_13 : decode cX8_office 13 = .ok (.ireturn, 1) := by decide +kernel
theorem dX8_whoOn_0 : decode cX8_whoOn 0 = .ok (.iconst 0, 1) := by decide +kernel
theorem dX8_whoOn_1 : decode cX8_whoOn 1 = .ok (.istore_n 2, 1) := by decide +kernel
theorem dX8_whoOn_2 : decode cX8_whoOn 2 = .ok (.iload_n 2, 1) := by decide +kernel
theorem dX8_whoOn_3 : decode cX8_whoOn 3 = .ok (.aload_n 0, 1) := by decide +kernel
theorem dX8_whoOn_4 : decode cX8_whoOn 4 = .ok (.iconst 0, 1) := by decide +kernel
theorem dX8_whoOn_5 : decode cX8_whoOn 5 = .ok (.iaload, 1) := by decide +kernel
theorem dX8_whoOn_6 : decode cX8_whoOn 6 = .ok (.if_icmp .ge 21, 3) := by decide +kernel
theorem dX8_whoOn_9 : decode cX8_whoOn 9 = .ok (.aload_n 0, 1) := by decide +kernel
theorem dX8_whoOn_10 : decode cX8_whoOn 10 = .ok (.bipush 6, 2) := by decide +kernel
theorem dX8_whoOn_12 : decode cX8_whoOn 12 = .ok (.iload_n 2, 1) := by decide +kernel
theorem dX8_whoOn_13 : decode cX8_whoOn 13 = .ok (.iadd, 1) := by decide +kernel
theorem dX8_whoOn_14 : decode cX8_whoOn 14 = .ok (.iaload, 1) := by decide +kernel
theorem dX8_whoOn_15 : decode cX8_whoOn 15 = .ok (.iload_n 1, 1) := by decide +kernel
theorem dX8_whoOn_16 : decode cX8_whoOn 16 = .ok (.if_icmp .ne 5, 3) := by decide +kernel
theorem dX8_whoOn_19 : decode cX8_whoOn 19 = .ok (.iload_n 2, 1) := by decide +kernel
theorem dX8_whoOn_20 : decode cX8_whoOn 20 = .ok (.ireturn, 1) := by decide +kernel
theorem dX8_whoOn_21 : decode cX8_whoOn 21 = .ok (.iinc 2 1, 3) := by decide +kernel
theorem dX8_whoOn_24 : decode cX8_whoOn 24 = .ok (.goto (-22), 3) := by decide +kernel
theorem dX8_whoOn_27 : decode cX8_whoOn 27 = .ok (.iconst (-1), 1) := by decide +kernel
theorem dX8_whoOn_28 : decode cX8_whoOn 28 = .ok (.ireturn, 1) := by decide +kernel
theorem dX8_laySleeper_0 : decode cX8_laySleeper 0 = .ok (.aload_n 0, 1) := by decide +kernel
theorem dX8_laySleeper_1 : decode cX8_laySleeper 1 = .ok (.iconst 0, 1) := by decide +kernel
theorem dX8_laySleeper_2 : decode cX8_laySleeper 2 = .ok (.iaload, 1) := by decide +kernel
theorem dX8_laySleeper_3 : decode cX8_laySleeper 3 = .ok (.istore_n 3, 1) := by decide +kernel
theorem dX8_laySleeper_4 : decode cX8_laySleeper 4 = .ok (.iconst 0, 1) := by decide +kernel
theorem dX8_laySleeper_5 : decode cX8_laySleeper 5 = .ok (.istore 4, 2) := by decide +kernel
theorem dX8_laySleeper_7 : decode cX8_laySleeper 7 = .ok (.aload_n 0, 1) := by decide +kernel
theorem dX8_laySleeper_8 : decode cX8_laySleeper 8 = .ok (.iload 4, 2) := by decide +kernel
theorem dX8_laySleeper_10 : decode cX8_laySleeper 10 = .ok (.invokestatic 67, 3) := by decide +kernel
theorem dX8_laySleeper_13 : decode cX8_laySleeper 13 = .ok (.iconst (-1), 1) := by decide +kernel
theorem dX8_laySleeper_14 : decode cX8_laySleeper 14 = .ok (.if_icmp .eq 9, 3) := by decide +kernel
theorem dX8_laySleeper_17 : decode cX8_laySleeper 17 = .ok (.iinc 4 1, 3) := by decide +kernel
theorem dX8_laySleeper_20 : decode cX8_laySleeper 20 = .ok (.goto (-13), 3) := by decide +kernel
theorem dX8_laySleeper_23 : decode cX8_laySleeper 23 = .ok (.aload_n 0, 1) := by decide +kernel
theorem dX8_laySleeper_24 : decode cX8_laySleeper 24 = .ok (.bipush 31, 2) := by decide +kernel
theorem dX8_laySleeper_26 : decode cX8_laySleeper 26 = .ok (.iload_n 3, 1) := by decide +kernel
theorem dX8_laySleeper_27 : decode cX8_laySleeper 27 = .ok (.iadd, 1) := by decide +kernel
theorem dX8_laySleeper_28 : decode cX8_laySleeper 28 = .ok (.iload_n 1, 1) := by decide +kernel
theorem dX8_laySleeper_29 : decode cX8_laySleeper 29 = .ok (.iastore, 1) := by decide +kernel
theorem dX8_laySleeper_30 : decode cX8_laySleeper 30 = .ok (.aload_n 0, 1) := by decide +kernel
theorem dX8_laySleeper_31 : decode cX8_laySleeper 31 = .ok (.bipush 6, 2) := by decide +kernel
theorem dX8_laySleeper_33 : decode cX8_laySleeper 33 = .ok (.iload_n 3, 1) := by decide +kernel
theorem dX8_laySleeper_34 : decode cX8_laySleeper 34 = .ok (.iadd, 1) := by decide +kernel
theorem dX8_laySleeper_35 : decode cX8_laySleeper 35 = .ok (.iload 4, 2) := by decide +kernel
theorem dX8_laySleeper_37 : decode cX8_laySleeper 37 = .ok (.iastore, 1) := by decide +kernel
theorem dX8_laySleeper_38 : decode cX8_laySleeper 38 = .ok (.aload_n 0, 1) := by decide +kernel
theorem dX8_laySleeper_39 : decode cX8_laySleeper 39 = .ok (.bipush 12, 2) := by decide +kernel
theorem dX8_laySleeper_41 : decode cX8_laySleeper 41 = .ok (.iload_n 3, 1) := by decide +kernel
theorem dX8_laySleeper_42 : decode cX8_laySleeper 42 = .ok (.iadd, 1) := by decide +kernel
theorem dX8_laySleeper_43 : decode cX8_laySleeper 43 = .ok (.iload_n 2, 1) := by decide +kernel
theorem dX8_laySleeper_44 : decode cX8_laySleeper 44 = .ok (.iastore, 1) := by decide +kernel
theorem dX8_laySleeper_45 : decode cX8_laySleeper 45 = .ok (.aload_n 0, 1) := by decide +kernel
theorem dX8_laySleeper_46 : decode cX8_laySleeper 46 = .ok (.bipush 18, 2) := by decide +kernel
theorem dX8_laySleeper_48 : decode cX8_laySleeper 48 = .ok (.iload_n 3, 1) := by decide +kernel
theorem dX8_laySleeper_49 : decode cX8_laySleeper 49 = .ok (.iadd, 1) := by decide +kernel
theorem dX8_laySleeper_50 : decode cX8_laySleeper 50 = .ok (.iconst 0, 1) := by decide +kernel
theorem dX8_laySleeper_51 : decode cX8_laySleeper 51 = .ok (.iastore, 1) := by decide +kernel
theorem dX8_laySleeper_52 : decode cX8_laySleeper 52 = .ok (.aload_n 0, 1) := by decide +kernel
theorem dX8_laySleeper_53 : decode cX8_laySleeper 53 = .ok (.iconst 0, 1) := by decide +kernel
theorem dX8_laySleeper_54 : decode cX8_laySleeper 54 = .ok (.dup2, 1) := by decide +kernel
theorem dX8_laySleeper_55 : decode cX8_laySleeper 55 = .ok (.iaload, 1) := by decide +kernel
theorem dX8_laySleeper_56 : decode cX8_laySleeper 56 = .ok (.iconst 1, 1) := by decide +kernel
theorem dX8_laySleeper_57 : decode cX8_laySleeper 57 = .ok (.iadd, 1) := by decide +kernel
theorem dX8_laySleeper_58 : decode cX8_laySleeper 58 = .ok (.iastore, 1) := by decide +kernel
theorem dX8_laySleeper_59 : decode cX8_laySleeper 59 = .ok (.return_, 1) := by decide +kernel
theorem dX8_layFlower_0 : decode cX8_layFlower 0 = .ok (.aload_n 0, 1) := by decide +kernel
theorem dX8_layFlower_1 : decode cX8_layFlower 1 = .ok (.iconst 1, 1) := by decide +kernel
theorem dX8_layFlower_2 : decode cX8_layFlower 2 = .ok (.iaload, 1) := by decide +kernel
theorem dX8_layFlower_3 : decode cX8_layFlower 3 = .ok (.istore 4, 2) := by decide +kernel
theorem dX8_layFlower_5 : decode cX8_layFlower 5 = .ok (.aload_n 0, 1) := by decide +kernel
theorem dX8_layFlower_6 : decode cX8_layFlower 6 = .ok (.bipush 37, 2) := by decide +kernel
theorem dX8_layFlower_8 : decode cX8_layFlower 8 = .ok (.iload 4, 2) := by decide +kernel
theorem dX8_layFlower_10 : decode cX8_layFlower 10 = .ok (.iadd, 1) := by decide +kernel
theorem dX8_layFlower_11 : decode cX8_layFlower 11 = .ok (.iload_n 1, 1) := by decide +kernel
theorem dX8_layFlower_12 : decode cX8_layFlower 12 = .ok (.iastore, 1) := by decide +kernel
theorem dX8_layFlower_13 : decode cX8_layFlower 13 = .ok (.aload_n 0, 1) := by decide +kernel
theorem dX8_layFlower_14 : decode cX8_layFlower 14 = .ok (.bipush 43, 2) := by decide +kernel
theorem dX8_layFlower_16 : decode cX8_layFlower 16 = .ok (.iload 4, 2) := by decide +kernel
theorem dX8_layFlower_18 : decode cX8_layFlower 18 = .ok (.iadd, 1) := by decide +kernel
theorem dX8_layFlower_19 : decode cX8_layFlower 19 = .ok (.iload_n 2, 1) := by decide +kernel
theorem dX8_layFlower_20 : decode cX8_layFlower 20 = .ok (.iastore, 1) := by decide +kernel
theorem dX8_layFlower_21 : decode cX8_layFlower 21 = .ok (.aload_n 0, 1) := by decide +kernel
theorem dX8_layFlower_22 : decode cX8_layFlower 22 = .ok (.bipush 24, 2) := by decide +kernel
theorem dX8_layFlower_24 : decode cX8_layFlower 24 = .ok (.iload 4, 2) := by decide +kernel
theorem dX8_layFlower_26 : decode cX8_layFlower 26 = .ok (.iadd, 1) := by decide +kernel
theorem dX8_layFlower_27 : decode cX8_layFlower 27 = .ok (.iload_n 3, 1) := by decide +kernel
theorem dX8_layFlower_28 : decode cX8_layFlower 28 = .ok (.iastore, 1) := by decide +kernel
theorem dX8_layFlower_29 : decode cX8_layFlower 29 = .ok (.aload_n 0, 1) := by decide +kernel
theorem dX8_layFlower_30 : decode cX8_layFlower 30 = .ok (.iconst 1, 1) := by decide +kernel
theorem dX8_layFlower_31 : decode cX8_layFlower 31 = .ok (.dup2, 1) := by decide +kernel
theorem dX8_layFlower_32 : decode cX8_layFlower 32 = .ok (.iaload, 1) := by decide +kernel
theorem dX8_layFlower_33 : decode cX8_layFlower 33 = .ok (.iconst 1, 1) := by decide +kernel
theorem dX8_layFlower_34 : decode cX8_layFlower 34 = .ok (.iadd, 1) := by decide +kernel
theorem dX8_layFlower_35 : decode cX8_layFlower 35 = .ok (.iastore, 1) := by decide +kernel
theorem dX8_layFlower_36 : decode cX8_layFlower 36 = .ok (.return_, 1) := by decide +kernel
theorem dX8_sleeper_0 : decode cX8_sleeper 0 = .ok (.iload_n 1, 1) := by decide +kernel
theorem dX8_sleeper_1 : decode cX8_sleeper 1 = .ok (.invokestatic 71, 3) := by decide +kernel
theorem dX8_sleeper_4 : decode cX8_sleeper 4 = .ok (.ifCond .ne 10, 3) := by decide +kernel
theorem dX8_sleeper_7 : decode cX8_sleeper 7 = .ok (.aload_n 0, 1) := by decide +kernel
theorem dX8_sleeper_8 : decode cX8_sleeper 8 = .ok (.bipush (-2), 2) := by decide +kernel
theorem dX8_sleeper_10 : decode cX8_sleeper 10 = .ok (.invokevirtual 75, 3) := by decide +kernel
theorem dX8_sleeper_13 : decode cX8_sleeper 13 = .ok (.ireturn, 1) := by decide +kernel
theorem dX8_sleeper_14 : decode cX8_sleeper 14 = .ok (.aload_n 0, 1) := by decide +kernel
theorem dX8_sleeper_15 : decode cX8_sleeper 15 = .ok (.invokevirtual 55, 3) := by decide +kernel
theorem dX8_sleeper_18 : decode cX8_sleeper 18 = .ok (.bipush 6, 2) := by decide +kernel
theorem dX8_sleeper_20 : decode cX8_sleeper 20 = .ok (.if_icmp .ne 8, 3) := by decide +kernel
theorem dX8_sleeper_23 : decode cX8_sleeper 23 = .ok (.aload_n 0, 1) := by decide +kernel
theorem dX8_sleeper_24 : decode cX8_sleeper 24 = .ok (.invokevirtual 79, 3) := by decide +kernel
theorem dX8_sleeper_27 : decode cX8_sleeper 27 = .ok (.ireturn, 1) := by decide +kernel
theorem dX8_sleeper_28 : decode cX8_sleeper 28 = .ok (.aload_n 0, 1) := by decide +kernel
theorem dX8_sleeper_29 : decode cX8_sleeper 29 = .ok (.getfield 7, 3) := by decide +kernel
theorem dX8_sleeper_32 : decode cX8_sleeper 32 = .ok (.iload_n 1, 1) := by decide +kernel
theorem dX8_sleeper_33 : decode cX8_sleeper 33 = .ok (.iconst 0, 1) := by decide +kernel
theorem dX8_sleeper_34 : decode cX8_sleeper 34 = .ok (.invokestatic 82, 3) := by decide +kernel
theorem dX8_sleeper_37 : decode cX8_sleeper 37 = .ok (.aload_n 0, 1) := by decide +kernel
theorem dX8_sleeper_38 : decode cX8_sleeper 38 = .ok (.getfield 7, 3) := by decide +kernel
theorem dX8_sleeper_41 : decode cX8_sleeper 41 = .ok (.iconst 5, 1) := by decide +kernel
theorem dX8_sleeper_42 : decode cX8_sleeper 42 = .ok (.iconst 0, 1) := by decide +kernel
theorem dX8_sleeper_43 : decode cX8_sleeper 43 = .ok (.iastore, 1) := by decide +kernel
theorem dX8_sleeper_44 : decode cX8_sleeper 44 = .ok (.aload_n 0, 1) := by decide +kernel
theorem dX8_sleeper_45 : decode cX8_sleeper 45 = .ok (.invokevirtual 55, 3) := by decide +kernel
theorem dX8_sleeper_48 : decode cX8_sleeper 48 = .ok (.iconst 1, 1) := by decide +kernel
theorem dX8_sleeper_49 : decode cX8_sleeper 49 = .ok (.isub, 1) := by decide +kernel
theorem dX8_sleeper_50 : decode cX8_sleeper 50 = .ok (.ireturn, 1) := by decide +kernel
theorem dX8_flower_0 : decode cX8_flower 0 = .ok (.iload_n 1, 1) := by decide +kernel
theorem dX8_flower_1 : decode cX8_flower 1 = .ok (.invokestatic 71, 3) := by decide +kernel
theorem dX8_flower_4 : decode cX8_flower 4 = .ok (.ifCond .eq 17, 3) := by decide +kernel
theorem dX8_flower_7 : decode cX8_flower 7 = .ok (.iload_n 2, 1) := by decide +kernel
theorem dX8_flower_8 : decode cX8_flower 8 = .ok (.invokestatic 86, 3) := by decide +kernel
theorem dX8_flower_11 : decode cX8_flower 11 = .ok (.ifCond .eq 10, 3) := by decide +kernel
theorem dX8_flower_14 : decode cX8_flower 14 = .ok (.iload_n 3, 1) := by decide +kernel
theorem dX8_flower_15 : decode cX8_flower 15 = .ok (.invokestatic 89, 3) := by decide +kernel
theorem dX8_flower_18 : decode cX8_flower 18 = .ok (.ifCond .ne 10, 3) := by decide +kernel
theorem dX8_flower_21 : decode cX8_flower 21 = .ok (.aload_n 0, 1) := by decide +kernel
theorem dX8_flower_22 : decode cX8_flower 22 = .ok (.bipush (-2), 2) := by decide +kernel
theorem dX8_flower_24 : decode cX8_flower 24 = .ok (.invokevirtual 75, 3) := by decide +kernel
theorem dX8_flower_27 : decode cX8_flower 27 = .ok (.ireturn, 1) := by decide +kernel
theorem dX8_flower_28 : decode cX8_flower 28 = .ok (.aload_n 0, 1) := by decide +kernel
theorem dX8_flower_29 : decode cX8_flower 29 = .ok (.getfield 7, 3) := by decide +kernel
theorem dX8_flower_32 : decode cX8_flower 32 = .ok (.iconst 1, 1) := by decide +kernel
theorem dX8_flower_33 : decode cX8_flower 33 = .ok (.iaload, 1) := by decide +kernel
theorem dX8_flower_34 : decode cX8_flower 34 = .ok (.bipush 6, 2) := by decide +kernel
theorem dX8_flower_36 : decode cX8_flower 36 = .ok (.if_icmp .ne 8, 3) := by decide +kernel
theorem dX8_flower_39 : decode cX8_flower 39 = .ok (.aload_n 0, 1) := by decide +kernel
theorem dX8_flower_40 : decode cX8_flower 40 = .ok (.invokevirtual 79, 3) := by decide +kernel
theorem dX8_flower_43 : decode cX8_flower 43 = .ok (.ireturn, 1) := by decide +kernel
theorem dX8_flower_44 : decode cX8_flower 44 = .ok (.aload_n 0, 1) := by decide +kernel
theorem dX8_flower_45 : decode cX8_flower 45 = .ok (.getfield 7, 3) := by decide +kernel
theorem dX8_flower_48 : decode cX8_flower 48 = .ok (.iload_n 1, 1) := by decide +kernel
theorem dX8_flower_49 : decode cX8_flower 49 = .ok (.iload_n 2, 1) := by decide +kernel
theorem dX8_flower_50 : decode cX8_flower 50 = .ok (.iload_n 3, 1) := by decide +kernel
theorem dX8_flower_51 : decode cX8_flower 51 = .ok (.invokestatic 92, 3) := by decide +kernel
theorem dX8_flower_54 : decode cX8_flower 54 = .ok (.aload_n 0, 1) := by decide +kernel
theorem dX8_flower_55 : decode cX8_flower 55 = .ok (.getfield 7, 3) := by decide +kernel
theorem dX8_flower_58 : decode cX8_flower 58 = .ok (.iconst 5, 1) := by decide +kernel
theorem dX8_flower_59 : decode cX8_flower 59 = .ok (.iconst 0, 1) := by decide +kernel
theorem dX8_flower_60 : decode cX8_flower 60 = .ok (.iastore, 1) := by decide +kernel
theorem dX8_flower_61 : decode cX8_flower 61 = .ok (.aload_n 0, 1) := by decide +kernel
theorem dX8_flower_62 : decode cX8_flower 62 = .ok (.getfield 7, 3) := by decide +kernel
theorem dX8_flower_65 : decode cX8_flower 65 = .ok (.iconst 1, 1) := by decide +kernel
theorem dX8_flower_66 : decode cX8_flower 66 = .ok (.iaload, 1) := by decide +kernel
theorem dX8_flower_67 : decode cX8_flower 67 = .ok (.iconst 1, 1) := by decide +kernel
theorem dX8_flower_68 : decode cX8_flower 68 = .ok (.isub, 1) := by decide +kernel
theorem dX8_flower_69 : decode cX8_flower 69 = .ok (.ireturn, 1) := by decide +kernel
theorem dX8_tellsAs_0 : decode cX8_tellsAs 0 = .ok (.iload_n 2, 1) := by decide +kernel
theorem dX8_tellsAs_1 : decode cX8_tellsAs 1 = .ok (.iconst 3, 1) := by decide +kernel
theorem dX8_tellsAs_2 : decode cX8_tellsAs 2 = .ok (.irem, 1) := by decide +kernel
theorem dX8_tellsAs_3 : decode cX8_tellsAs 3 = .ok (.ifCond .ne 9, 3) := by decide +kernel
theorem dX8_tellsAs_6 : decode cX8_tellsAs 6 = .ok (.iconst 2, 1) := by decide +kernel
theorem dX8_tellsAs_7 : decode cX8_tellsAs 7 = .ok (.iload_n 1, 1) := by decide +kernel
theorem dX8_tellsAs_8 : decode cX8_tellsAs 8 = .ok (.imul, 1) := by decide +kernel
theorem dX8_tellsAs_9 : decode cX8_tellsAs 9 = .ok (.goto 4, 3) := by decide +kernel
theorem dX8_tellsAs_12 : decode cX8_tellsAs 12 = .ok (.iload_n 1, 1) := by decide +kernel
theorem dX8_tellsAs_13 : decode cX8_tellsAs 13 = .ok (.istore_n 3, 1) := by decide +kernel
theorem dX8_tellsAs_14 : decode cX8_tellsAs 14 = .ok (.iload_n 0, 1) := by decide +kernel
theorem dX8_tellsAs_15 : decode cX8_tellsAs 15 = .ok (.tableswitch 72 1 5 #[33, 37, 39, 45, 59], 33) := by decide +kernel
theorem dX8_tellsAs_48 : decode cX8_tellsAs 48 = .ok (.iload_n 1, 1) := by decide +kernel
theorem dX8_tellsAs_49 : decode cX8_tellsAs 49 = .ok (.iconst 2, 1) := by decide +kernel
theorem dX8_tellsAs_50 : decode cX8_tellsAs 50 = .ok (.iadd, 1) := by decide +kernel
theorem dX8_tellsAs_51 : decode cX8_tellsAs 51 = .ok (.ireturn, 1) := by decide +kernel
theorem dX8_tellsAs_52 : decode cX8_tellsAs 52 = .ok (.iload_n 3, 1) := by decide +kernel
theorem dX8_tellsAs_53 : decode cX8_tellsAs 53 = .ok (.ireturn, 1) := by decide +kernel
theorem dX8_tellsAs_54 : decode cX8_tellsAs 54 = .ok (.iload_n 1, 1) := by decide +kernel
theorem dX8_tellsAs_55 : decode cX8_tellsAs 55 = .ok (.iconst 1, 1) := by decide +kernel
theorem dX8_tellsAs_56 : decode cX8_tellsAs 56 = .ok (.iadd, 1) := by decide +kernel
theorem dX8_tellsAs_57 : decode cX8_tellsAs 57 = .ok (.iconst 2, 1) := by decide +kernel
theorem dX8_tellsAs_58 : decode cX8_tellsAs 58 = .ok (.idiv, 1) := by decide +kernel
theorem dX8_tellsAs_59 : decode cX8_tellsAs 59 = .ok (.ireturn, 1) := by decide +kernel
theorem dX8_tellsAs_60 : decode cX8_tellsAs 60 = .ok (.iload_n 2, 1) := by decide +kernel
theorem dX8_tellsAs_61 : decode cX8_tellsAs 61 = .ok (.iconst 2, 1) := by decide +kernel
theorem dX8_tellsAs_62 : decode cX8_tellsAs 62 = .ok (.irem, 1) := by decide +kernel
theorem dX8_tellsAs_63 : decode cX8_tellsAs 63 = .ok (.ifCond .ne 9, 3) := by decide +kernel
theorem dX8_tellsAs_66 : decode cX8_tellsAs 66 = .ok (.iload_n 1, 1) := by decide +kernel
theorem dX8_tellsAs_67 : decode cX8_tellsAs 67 = .ok (.iconst 2, 1) := by decide +kernel
theorem dX8_tellsAs_68 : decode cX8_tellsAs 68 = .ok (.iadd, 1) := by decide +kernel
theorem dX8_tellsAs_69 : decode cX8_tellsAs 69 = .ok (.goto 4, 3) := by decide +kernel
theorem dX8_tellsAs_72 : decode cX8_tellsAs 72 = .ok (.iconst 0, 1) := by decide +kernel
theorem dX8_tellsAs_73 : decode cX8_tellsAs 73 = .ok (.ireturn, 1) := by decide +kernel
theorem dX8_tellsAs_74 : decode cX8_tellsAs 74 = .ok (.iload_n 3, 1) := by decide +kernel
theorem dX8_tellsAs_75 : decode cX8_tellsAs 75 = .ok (.iconst 3, 1) := by decide +kernel
theorem dX8_tellsAs_76 : decode cX8_tellsAs 76 = .ok (.if_icmp .le 9, 3) := by decide +kernel
theorem dX8_tellsAs_79 : decode cX8_tellsAs 79 = .ok (.iload_n 3, 1) := by decide +kernel
theorem dX8_tellsAs_80 : decode cX8_tellsAs 80 = .ok (.iconst 3, 1) := by decide +kernel
theorem dX8_tellsAs_81 : decode cX8_tellsAs 81 = .ok (.isub, 1) := by decide +kernel
theorem dX8_tellsAs_82 : decode cX8_tellsAs 82 = .ok (.goto 4, 3) := by decide +kernel
theorem dX8_tellsAs_85 : decode cX8_tellsAs 85 = .ok (.iconst 0, 1) := by decide +kernel
theorem dX8_tellsAs_86 : decode cX8_tellsAs 86 = .ok (.ireturn, 1) := by decide +kernel
theorem dX8_tellsAs_87 : decode cX8_tellsAs 87 = .ok (.iload_n 1, 1) := by decide +kernel
theorem dX8_tellsAs_88 : decode cX8_tellsAs 88 = .ok (.ireturn, 1) := by decide +kernel
theorem dX8_believesAs_0 : decode cX8_believesAs 0 = .ok (.iload_n 1, 1) := by decide +kernel
theorem dX8_believesAs_1 : decode cX8_believesAs 1 = .ok (.iload_n 2, 1) := by decide +kernel
theorem dX8_believesAs_2 : decode cX8_believesAs 2 = .ok (.if_icmp .le 9, 3) := by decide +kernel
theorem dX8_believesAs_5 : decode cX8_believesAs 5 = .ok (.iload_n 1, 1) := by decide +kernel
theorem dX8_believesAs_6 : decode cX8_believesAs 6 = .ok (.iload_n 2, 1) := by decide +kernel
theorem dX8_believesAs_7 : decode cX8_believesAs 7 = .ok (.isub, 1) := by decide +kernel
theorem dX8_believesAs_8 : decode cX8_believesAs 8 = .ok (.goto 4, 3) := by decide +kernel
theorem dX8_believesAs_11 : decode cX8_believesAs 11 = .ok (.iconst 0, 1) := by decide +kernel
theorem dX8_believesAs_12 : decode cX8_believesAs 12 = .ok (.istore_n 3, 1) := by decide +kernel
theorem dX8_believesAs_13 : decode cX8_believesAs 13 = .ok (.iload_n 1, 1) := by decide +kernel
theorem dX8_believesAs_14 : decode cX8_believesAs 14 = .ok (.iconst 1, 1) := by decide +kernel
theorem dX8_believesAs_15 : decode cX8_believesAs 15 = .ok (.if_icmp .lt 9, 3) := by decide +kernel
theorem dX8_believesAs_18 : decode cX8_believesAs 18 = .ok (.iload_n 3, 1) := by decide +kernel
theorem dX8_believesAs_19 : decode cX8_believesAs 19 = .ok (.iconst 1, 1) := by decide +kernel
theorem dX8_believesAs_20 : decode cX8_believesAs 20 = .ok (.iadd, 1) := by decide +kernel
theorem dX8_believesAs_21 : decode cX8_believesAs 21 = .ok (.goto 4, 3) := by decide +kernel
theorem dX8_believesAs_24 : decode cX8_believesAs 24 = .ok (.iload_n 3, 1) := by decide +kernel
theorem dX8_believesAs_25 : decode cX8_believesAs 25 = .ok (.istore 4, 2) := by decide +kernel
theorem dX8_believesAs_27 : decode cX8_believesAs 27 = .ok (.iload_n 0, 1) := by decide +kernel
theorem dX8_believesAs_28 : decode cX8_believesAs 28 = .ok (.tableswitch 72 1 5 #[36, 40, 43, 56, 67], 36) := by decide +kernel
theorem dX8_believesAs_64 : decode cX8_believesAs 64 = .ok (.iload_n 3, 1) := by decide +kernel
theorem dX8_believesAs_65 : decode cX8_believesAs 65 = .ok (.iconst 2, 1) := by decide +kernel
theorem dX8_believesAs_66 : decode cX8_believesAs 66 = .ok (.idiv, 1) := by decide +kernel
theorem dX8_believesAs_67 : decode cX8_believesAs 67 = .ok (.ireturn, 1) := by decide +kernel
theorem dX8_believesAs_68 : decode cX8_believesAs 68 = .ok (.iload 4, 2) := by decide +kernel
theorem dX8_believesAs_70 : decode cX8_believesAs 70 = .ok (.ireturn, 1) := by decide +kernel
theorem dX8_believesAs_71 : decode cX8_believesAs 71 = .ok (.iload_n 1, 1) := by decide +kernel
theorem dX8_believesAs_72 : decode cX8_believesAs 72 = .ok (.iconst 4, 1) := by decide +kernel
theorem dX8_believesAs_73 : decode cX8_believesAs 73 = .ok (.if_icmp .ge 7, 3) := by decide +kernel
theorem dX8_believesAs_76 : decode cX8_believesAs 76 = .ok (.iconst 0, 1) := by decide +kernel
theorem dX8_believesAs_77 : decode cX8_believesAs 77 = .ok (.goto 6, 3) := by decide +kernel
theorem dX8_believesAs_80 : decode cX8_believesAs 80 = .ok (.iload_n 3, 1) := by decide +kernel
theorem dX8_believesAs_81 : decode cX8_believesAs 81 = .ok (.iconst 2, 1) := by decide +kernel
theorem dX8_believesAs_82 : decode cX8_believesAs 82 = .ok (.idiv, 1) := by decide +kernel
theorem dX8_believesAs_83 : decode cX8_believesAs 83 = .ok (.ireturn, 1) := by decide +kernel
theorem dX8_believesAs_84 : decode cX8_believesAs 84 = .ok (.iload_n 3, 1) := by decide +kernel
theorem dX8_believesAs_85 : decode cX8_believesAs 85 = .ok (.iconst 5, 1) := by decide +kernel
theorem dX8_believesAs_86 : decode cX8_believesAs 86 = .ok (.if_icmp .le 7, 3) := by decide +kernel
theorem dX8_believesAs_89 : decode cX8_believesAs 89 = .ok (.iconst 5, 1) := by decide +kernel
theorem dX8_believesAs_90 : decode cX8_believesAs 90 = .ok (.goto 4, 3) := by decide +kernel
theorem dX8_believesAs_93 : decode cX8_believesAs 93 = .ok (.iload_n 3, 1) := by decide +kernel
theorem dX8_believesAs_94 : decode cX8_believesAs 94 = .ok (.ireturn, 1) := by decide +kernel
theorem dX8_believesAs_95 : decode cX8_believesAs 95 = .ok (.iconst 2, 1) := by decide +kernel
theorem dX8_believesAs_96 : decode cX8_believesAs 96 = .ok (.iload 4, 2) := by decide +kernel
theorem dX8_believesAs_98 : decode cX8_believesAs 98 = .ok (.imul, 1) := by decide +kernel
theorem dX8_believesAs_99 : decode cX8_believesAs 99 = .ok (.ireturn, 1) := by decide +kernel
theorem dX8_believesAs_100 : decode cX8_believesAs 100 = .ok (.iload_n 3, 1) := by decide +kernel
theorem dX8_believesAs_101 : decode cX8_believesAs 101 = .ok (.ireturn, 1) := by decide +kernel
theorem dX8_believesOf_0 : decode cX8_believesOf 0 = .ok (.aload_n 0, 1) := by decide +kernel
theorem dX8_believesOf_1 : decode cX8_believesOf 1 = .ok (.bipush 31, 2) := by decide +kernel
theorem dX8_believesOf_3 : decode cX8_believesOf 3 = .ok (.iload_n 1, 1) := by decide +kernel
theorem dX8_believesOf_4 : decode cX8_believesOf 4 = .ok (.iadd, 1) := by decide +kernel
theorem dX8_believesOf_5 : decode cX8_believesOf 5 = .ok (.iaload, 1) := by decide +kernel
theorem dX8_believesOf_6 : decode cX8_believesOf 6 = .ok (.aload_n 0, 1) := by decide +kernel
theorem dX8_believesOf_7 : decode cX8_believesOf 7 = .ok (.bipush 37, 2) := by decide +kernel
theorem dX8_believesOf_9 : decode cX8_believesOf 9 = .ok (.iload_n 2, 1) := by decide +kernel
theorem dX8_believesOf_10 : decode cX8_believesOf 10 = .ok (.iadd, 1) := by decide +kernel
theorem dX8_believesOf_11 : decode cX8_believesOf 11 = .ok (.iaload, 1) := by decide +kernel
theorem dX8_believesOf_12 : decode cX8_believesOf 12 = .ok (.aload_n 0, 1) := by decide +kernel
theorem dX8_believesOf_13 : decode cX8_believesOf 13 = .ok (.bipush 43, 2) := by decide +kernel
theorem dX8_believesOf_15 : decode cX8_believesOf 15 = .ok (.iload_n 2, 1) := by decide +kernel
theorem dX8_believesOf_16 : decode cX8_believesOf 16 = .ok (.iadd, 1) := by decide +kernel
theorem dX8_believesOf_17 : decode cX8_believesOf 17 = .ok (.iaload, 1) := by decide +kernel
theorem dX8_believesOf_18 : decode cX8_believesOf 18 = .ok (.aload_n 0, 1) := by decide +kernel
theorem dX8_believesOf_19 : decode cX8_believesOf 19 = .ok (.bipush 30, 2) := by decide +kernel
theorem dX8_believesOf_21 : decode cX8_believesOf 21 = .ok (.iaload, 1) := by decide +kernel
theorem dX8_believesOf_22 : decode cX8_believesOf 22 = .ok (.invokestatic 96, 3) := by decide +kernel
theorem dX8_believesOf_25 : decode cX8_believesOf 25 = .ok (.aload_n 0, 1) := by decide +kernel
theorem dX8_believesOf_26 : decode cX8_believesOf 26 = .ok (.bipush 12, 2) := by decide +kernel
theorem dX8_believesOf_28 : decode cX8_believesOf 28 = .ok (.iload_n 1, 1) := by decide +kernel
theorem dX8_believesOf_29 : decode cX8_believesOf 29 = .ok (.iadd, 1) := by decide +kernel
theorem dX8_believesOf_30 : decode cX8_believesOf 30 = .ok (.iaload, 1) := by decide +kernel
theorem dX8_believesOf_31 : decode cX8_believesOf 31 = .ok (.invokestatic 100, 3) := by decide +kernel
theorem dX8_believesOf_34 : decode cX8_believesOf 34 = .ok (.ireturn, 1) := by decide +kernel
theorem dX8_believesOn_0 : decode cX8_believesOn 0 = .ok (.iconst 0, 1) := by decide +kernel
theorem dX8_believesOn_1 : decode cX8_believesOn 1 = .ok (.istore_n 3, 1) := by decide +kernel
theorem dX8_believesOn_2 : decode cX8_believesOn 2 = .ok (.iconst 0, 1) := by decide +kernel
theorem dX8_believesOn_3 : decode cX8_believesOn 3 = .ok (.istore 4, 2) := by decide +kernel
theorem dX8_believesOn_5 : decode cX8_believesOn 5 = .ok (.iload 4, 2) := by decide +kernel
theorem dX8_believesOn_7 : decode cX8_believesOn 7 = .ok (.aload_n 0, 1) := by decide +kernel
theorem dX8_believesOn_8 : decode cX8_believesOn 8 = .ok (.iconst 1, 1) := by decide +kernel
theorem dX8_believesOn_9 : decode cX8_believesOn 9 = .ok (.iaload, 1) := by decide +kernel
theorem dX8_believesOn_10 : decode cX8_believesOn 10 = .ok (.if_icmp .ge 34, 3) := by decide +kernel
theorem dX8_believesOn_13 : decode cX8_believesOn 13 = .ok (.iload_n 3, 1) := by decide +kernel
theorem dX8_believesOn_14 : decode cX8_believesOn 14 = .ok (.aload_n 0, 1) := by decide +kernel
theorem dX8_believesOn_15 : decode cX8_believesOn 15 = .ok (.bipush 24, 2) := by decide +kernel
theorem dX8_believesOn_17 : decode cX8_believesOn 17 = .ok (.iload 4, 2) := by decide +kernel
theorem dX8_believesOn_19 : decode cX8_believesOn 19 = .ok (.iadd, 1) := by decide +kernel
theorem dX8_believesOn_20 : decode cX8_believesOn 20 = .ok (.iaload, 1) := by decide +kernel
theorem dX8_believesOn_21 : decode cX8_believesOn 21 = .ok (.iload_n 2, 1) := by decide +kernel
theorem dX8_believesOn_22 : decode cX8_believesOn 22 = .ok (.if_icmp .ne 13, 3) := by decide +kernel
theorem dX8_believesOn_25 : decode cX8_believesOn 25 = .ok (.aload_n 0, 1) := by decide +kernel
theorem dX8_believesOn_26 : decode cX8_believesOn 26 = .ok (.iload_n 1, 1) := by decide +kernel
theorem dX8_believesOn_27 : decode cX8_believesOn 27 = .ok (.iload 4, 2) := by decide +kernel
theorem dX8_believesOn_29 : decode cX8_believesOn 29 = .ok (.invokestatic 103, 3) := by decide +kernel
theorem dX8_believesOn_32 : decode cX8_believesOn 32 = .ok (.goto 4, 3) := by decide +kernel
theorem dX8_believesOn_35 : decode cX8_believesOn 35 = .ok (.iconst 0, 1) := by decide +kernel
theorem dX8_believesOn_36 : decode cX8_believesOn 36 = .ok (.iadd, 1) := by decide +kernel
theorem dX8_believesOn_37 : decode cX8_believesOn 37 = .ok (.istore_n 3, 1) := by decide +kernel
theorem dX8_believesOn_38 : decode cX8_believesOn 38 = .ok (.iinc 4 1, 3) := by decide +kernel
theorem dX8_believesOn_41 : decode cX8_believesOn 41 = .ok (.goto (-36), 3) := by decide +kernel
theorem dX8_believesOn_44 : decode cX8_believesOn 44 = .ok (.iload_n 3, 1) := by decide +kernel
theorem dX8_believesOn_45 : decode cX8_believesOn 45 = .ok (.ireturn, 1) := by decide +kernel
theorem dX8_goNight_0 : decode cX8_goNight 0 = .ok (.iconst 0, 1) := by decide +kernel
theorem dX8_goNight_1 : decode cX8_goNight 1 = .ok (.istore_n 1, 1) := by decide +kernel
theorem dX8_goNight_2 : decode cX8_goNight 2 = .ok (.iload_n 1, 1) := by decide +kernel
theorem dX8_goNight_3 : decode cX8_goNight 3 = .ok (.aload_n 0, 1) := by decide +kernel
theorem dX8_goNight_4 : decode cX8_goNight 4 = .ok (.iconst 0, 1) := by decide +kernel
theorem dX8_goNight_5 : decode cX8_goNight 5 = .ok (.iaload, 1) := by decide +kernel
theorem dX8_goNight_6 : decode cX8_goNight 6 = .ok (.if_icmp .ge 48, 3) := by decide +kernel
theorem dX8_goNight_9 : decode cX8_goNight 9 = .ok (.aload_n 0, 1) := by decide +kernel
theorem dX8_goNight_10 : decode cX8_goNight 10 = .ok (.bipush 18, 2) := by decide +kernel
theorem dX8_goNight_12 : decode cX8_goNight 12 = .ok (.iload_n 1, 1) := by decide +kernel
theorem dX8_goNight_13 : decode cX8_goNight 13 = .ok (.iadd, 1) := by decide +kernel
theorem dX8_goNight_14 : decode cX8_goNight 14 = .ok (.iaload, 1) := by decide +kernel
theorem dX8_goNight_15 : decode cX8_goNight 15 = .ok (.aload_n 0, 1) := by decide +kernel
theorem dX8_goNight_16 : decode cX8_goNight 16 = .ok (.iload_n 1, 1) := by decide +kernel
theorem dX8_goNight_17 : decode cX8_goNight 17 = .ok (.aload_n 0, 1) := by decide +kernel
theorem dX8_goNight_18 : decode cX8_goNight 18 = .ok (.bipush 6, 2) := by decide +kernel
theorem dX8_goNight_20 : decode cX8_goNight 20 = .ok (.iload_n 1, 1) := by decide +kernel
theorem dX8_goNight_21 : decode cX8_goNight 21 = .ok (.iadd, 1) := by decide +kernel
theorem dX8_goNight_22 : decode cX8_goNight 22 = .ok (.iaload, 1) := by decide +kernel
theorem dX8_goNight_23 : decode cX8_goNight 23 = .ok (.invokestatic 107, 3) := by decide +kernel
theorem dX8_goNight_26 : decode cX8_goNight 26 = .ok (.iadd, 1) := by decide +kernel
theorem dX8_goNight_27 : decode cX8_goNight 27 = .ok (.istore_n 2, 1) := by decide +kernel
theorem dX8_goNight_28 : decode cX8_goNight 28 = .ok (.aload_n 0, 1) := by decide +kernel
theorem dX8_goNight_29 : decode cX8_goNight 29 = .ok (.bipush 18, 2) := by decide +kernel
theorem dX8_goNight_31 : decode cX8_goNight 31 = .ok (.iload_n 1, 1) := by decide +kernel
theorem dX8_goNight_32 : decode cX8_goNight 32 = .ok (.iadd, 1) := by decide +kernel
theorem dX8_goNight_33 : decode cX8_goNight 33 = .ok (.iload_n 2, 1) := by decide +kernel
theorem dX8_goNight_34 : decode cX8_goNight 34 = .ok (.sipush 999, 3) := by decide +kernel
theorem dX8_goNight_37 : decode cX8_goNight 37 = .ok (.if_icmp .le 9, 3) := by decide +kernel
theorem dX8_goNight_40 : decode cX8_goNight 40 = .ok (.sipush 999, 3) := by decide +kernel
theorem dX8_goNight_43 : decode cX8_goNight 43 = .ok (.goto 4, 3) := by decide +kernel
theorem dX8_goNight_46 : decode cX8_goNight 46 = .ok (.iload_n 2, 1) := by decide +kernel
theorem dX8_goNight_47 : decode cX8_goNight 47 = .ok (.iastore, 1) := by decide +kernel
theorem dX8_goNight_48 : decode cX8_goNight 48 = .ok (.iinc 1 1, 3) := by decide +kernel
theorem dX8_goNight_51 : decode cX8_goNight 51 = .ok (.goto (-49), 3) := by decide +kernel
theorem dX8_goNight_54 : decode cX8_goNight 54 = .ok (.aload_n 0, 1) := by decide +kernel
theorem dX8_goNight_55 : decode cX8_goNight 55 = .ok (.bipush 30, 2) := by decide +kernel
theorem dX8_goNight_57 : decode cX8_goNight 57 = .ok (.dup2, 1) := by decide +kernel
theorem dX8_goNight_58 : decode cX8_goNight 58 = .ok (.iaload, 1) := by decide +kernel
theorem dX8_goNight_59 : decode cX8_goNight 59 = .ok (.iconst 1, 1) := by decide +kernel
theorem dX8_goNight_60 : decode cX8_goNight 60 = .ok (.iadd, 1) := by decide +kernel
theorem dX8_goNight_61 : decode cX8_goNight 61 = .ok (.iastore, 1) := by decide +kernel
theorem dX8_goNight_62 : decode cX8_goNight 62 = .ok (.return_, 1) := by decide +kernel
theorem dX8_goNights_0 : decode cX8_goNights 0 = .ok (.iconst 0, 1) := by decide +kernel
theorem dX8_goNights_1 : decode cX8_goNights 1 = .ok (.istore_n 2, 1) := by decide +kernel
theorem dX8_goNights_2 : decode cX8_goNights 2 = .ok (.iload_n 2, 1) := by decide +kernel
theorem dX8_goNights_3 : decode cX8_goNights 3 = .ok (.iload_n 1, 1) := by decide +kernel
theorem dX8_goNights_4 : decode cX8_goNights 4 = .ok (.if_icmp .ge 23, 3) := by decide +kernel
theorem dX8_goNights_7 : decode cX8_goNights 7 = .ok (.aload_n 0, 1) := by decide +kernel
theorem dX8_goNights_8 : decode cX8_goNights 8 = .ok (.bipush 30, 2) := by decide +kernel
theorem dX8_goNights_10 : decode cX8_goNights 10 = .ok (.iaload, 1) := by decide +kernel
theorem dX8_goNights_11 : decode cX8_goNights 11 = .ok (.sipush 999, 3) := by decide +kernel
theorem dX8_goNights_14 : decode cX8_goNights 14 = .ok (.if_icmp .ge 13, 3) := by decide +kernel
theorem dX8_goNights_17 : decode cX8_goNights 17 = .ok (.aload_n 0, 1) := by decide +kernel
theorem dX8_goNights_18 : decode cX8_goNights 18 = .ok (.invokestatic 110, 3) := by decide +kernel
theorem dX8_goNights_21 : decode cX8_goNights 21 = .ok (.iinc 2 1, 3) := by decide +kernel
theorem dX8_goNights_24 : decode cX8_goNights 24 = .ok (.goto (-22), 3) := by decide +kernel
theorem dX8_goNights_27 : decode cX8_goNights 27 = .ok (.return_, 1) := by decide +kernel
theorem dX8_manyWhoDo_0 : decode cX8_manyWhoDo 0 = .ok (.iconst 0, 1) := by decide +kernel
theorem dX8_manyWhoDo_1 : decode cX8_manyWhoDo 1 = .ok (.istore_n 1, 1) := by decide +kernel
theorem dX8_manyWhoDo_2 : decode cX8_manyWhoDo 2 = .ok (.iconst 0, 1) := by decide +kernel
theorem dX8_manyWhoDo_3 : decode cX8_manyWhoDo 3 = .ok (.istore_n 2, 1) := by decide +kernel
theorem dX8_manyWhoDo_4 : decode cX8_manyWhoDo 4 = .ok (.iload_n 2, 1) := by decide +kernel
theorem dX8_manyWhoDo_5 : decode cX8_manyWhoDo 5 = .ok (.aload_n 0, 1) := by decide +kernel
theorem dX8_manyWhoDo_6 : decode cX8_manyWhoDo 6 = .ok (.iconst 0, 1) := by decide +kernel
theorem dX8_manyWhoDo_7 : decode cX8_manyWhoDo 7 = .ok (.iaload, 1) := by decide +kernel
theorem dX8_manyWhoDo_8 : decode cX8_manyWhoDo 8 = .ok (.if_icmp .ge 28, 3) := by decide +kernel
theorem dX8_manyWhoDo_11 : decode cX8_manyWhoDo 11 = .ok (.iload_n 1, 1) := by decide +kernel
theorem dX8_manyWhoDo_12 : decode cX8_manyWhoDo 12 = .ok (.aload_n 0, 1) := by decide +kernel
theorem dX8_manyWhoDo_13 : decode cX8_manyWhoDo 13 = .ok (.bipush 18, 2) := by decide +kernel
theorem dX8_manyWhoDo_15 : decode cX8_manyWhoDo 15 = .ok (.iload_n 2, 1) := by decide +kernel
theorem dX8_manyWhoDo_16 : decode cX8_manyWhoDo 16 = .ok (.iadd, 1) := by decide +kernel
theorem dX8_manyWhoDo_17 : decode cX8_manyWhoDo 17 = .ok (.iaload, 1) := by decide +kernel
theorem dX8_manyWhoDo_18 : decode cX8_manyWhoDo 18 = .ok (.bipush 20, 2) := by decide +kernel
theorem dX8_manyWhoDo_20 : decode cX8_manyWhoDo 20 = .ok (.if_icmp .lt 7, 3) := by decide +kernel
theorem dX8_manyWhoDo_23 : decode cX8_manyWhoDo 23 = .ok (.iconst 1, 1) := by decide +kernel
theorem dX8_manyWhoDo_24 : decode cX8_manyWhoDo 24 = .ok (.goto 4, 3) := by decide +kernel
theorem dX8_manyWhoDo_27 : decode cX8_manyWhoDo 27 = .ok (.iconst 0, 1) := by decide +kernel
theorem dX8_manyWhoDo_28 : decode cX8_manyWhoDo 28 = .ok (.iadd, 1) := by decide +kernel
theorem dX8_manyWhoDo_29 : decode cX8_manyWhoDo 29 = .ok (.istore_n 1, 1) := by decide +kernel
theorem dX8_manyWhoDo_30 : decode cX8_manyWhoDo 30 = .ok (.iinc 2 1, 3) := by decide +kernel
theorem dX8_manyWhoDo_33 : decode cX8_manyWhoDo 33 = .ok (.goto (-29), 3) := by decide +kernel
theorem dX8_manyWhoDo_36 : decode cX8_manyWhoDo 36 = .ok (.iload_n 1, 1) := by decide +kernel
theorem dX8_manyWhoDo_37 : decode cX8_manyWhoDo 37 = .ok (.ireturn, 1) := by decide +kernel
theorem dX8_save_0 : decode cX8_save 0 = .ok (.aload_n 0, 1) := by decide +kernel
theorem dX8_save_1 : decode cX8_save 1 = .ok (.getfield 7, 3) := by decide +kernel
theorem dX8_save_4 : decode cX8_save 4 = .ok (.iconst 5, 1) := by decide +kernel
theorem dX8_save_5 : decode cX8_save 5 = .ok (.iaload, 1) := by decide +kernel
theorem dX8_save_6 : decode cX8_save 6 = .ok (.bipush 8, 2) := by decide +kernel
theorem dX8_save_8 : decode cX8_save 8 = .ok (.if_icmp .ne 45, 3) := by decide +kernel
theorem dX8_save_11 : decode cX8_save 11 = .ok (.iconst 0, 1) := by decide +kernel
theorem dX8_save_12 : decode cX8_save 12 = .ok (.istore_n 1, 1) := by decide +kernel
theorem dX8_save_13 : decode cX8_save 13 = .ok (.iload_n 1, 1) := by decide +kernel
theorem dX8_save_14 : decode cX8_save 14 = .ok (.sipush 175, 3) := by decide +kernel
theorem dX8_save_17 : decode cX8_save 17 = .ok (.if_icmp .ge 28, 3) := by decide +kernel
theorem dX8_save_20 : decode cX8_save 20 = .ok (.aload_n 0, 1) := by decide +kernel
theorem dX8_save_21 : decode cX8_save 21 = .ok (.getfield 7, 3) := by decide +kernel
theorem dX8_save_24 : decode cX8_save 24 = .ok (.bipush 112, 2) := by decide +kernel
theorem dX8_save_26 : decode cX8_save 26 = .ok (.iload_n 1, 1) := by decide +kernel
theorem dX8_save_27 : decode cX8_save 27 = .ok (.iadd, 1) := by decide +kernel
theorem dX8_save_28 : decode cX8_save 28 = .ok (.aload_n 0, 1) := by decide +kernel
theorem dX8_save_29 : decode cX8_save 29 = .ok (.getfield 7, 3) := by decide +kernel
theorem dX8_save_32 : decode cX8_save 32 = .ok (.sipush 137, 3) := by decide +kernel
theorem dX8_save_35 : decode cX8_save 35 = .ok (.iload_n 1, 1) := by decide +kernel
theorem dX8_save_36 : decode cX8_save 36 = .ok (.iadd, 1) := by decide +kernel
theorem dX8_save_37 : decode cX8_save 37 = .ok (.iaload, 1) := by decide +kernel
theorem dX8_save_38 : decode cX8_save 38 = .ok (.iastore, 1) := by decide +kernel
theorem dX8_save_39 : decode cX8_save 39 = .ok (.iinc 1 1, 3) := by decide +kernel
theorem dX8_save_42 : decode cX8_save 42 = .ok (.goto (-29), 3) := by decide +kernel
theorem dX8_save_45 : decode cX8_save 45 = .ok (.aload_n 0, 1) := by decide +kernel
theorem dX8_save_46 : decode cX8_save 46 = .ok (.getfield 7, 3) := by decide +kernel
theorem dX8_save_49 : decode cX8_save 49 = .ok (.iconst 5, 1) := by decide +kernel
theorem dX8_save_50 : decode cX8_save 50 = .ok (.bipush 7, 2) := by decide +kernel
theorem dX8_save_52 : decode cX8_save 52 = .ok (.iastore, 1) := by decide +kernel
theorem dX8_save_53 : decode cX8_save 53 = .ok (.iconst 0, 1) := by decide +kernel
theorem dX8_save_54 : decode cX8_save 54 = .ok (.istore_n 1, 1) := by decide +kernel
theorem dX8_save_55 : decode cX8_save 55 = .ok (.iload_n 1, 1) := by decide +kernel
theorem dX8_save_56 : decode cX8_save 56 = .ok (.bipush 25, 2) := by decide +kernel
theorem dX8_save_58 : decode cX8_save 58 = .ok (.if_icmp .ge 37, 3) := by decide +kernel
theorem dX8_save_61 : decode cX8_save 61 = .ok (.aload_n 0, 1) := by decide +kernel
theorem dX8_save_62 : decode cX8_save 62 = .ok (.getfield 7, 3) := by decide +kernel
theorem dX8_save_65 : decode cX8_save 65 = .ok (.bipush 112, 2) := by decide +kernel
theorem dX8_save_67 : decode cX8_save 67 = .ok (.bipush 25, 2) := by decide +kernel
theorem dX8_save_69 : decode cX8_save 69 = .ok (.aload_n 0, 1) := by decide +kernel
theorem dX8_save_70 : decode cX8_save 70 = .ok (.getfield 7, 3) := by decide +kernel
theorem dX8_save_73 : decode cX8_save 73 = .ok (.iconst 5, 1) := by decide +kernel
theorem dX8_save_74 : decode cX8_save 74 = .ok (.iaload, 1) := by decide +kernel
theorem dX8_save_75 : decode cX8_save 75 = .ok (.imul, 1) := by decide +kernel
theorem dX8_save_76 : decode cX8_save 76 = .ok (.iadd, 1) := by decide +kernel
theorem dX8_save_77 : decode cX8_save 77 = .ok (.iload_n 1, 1) := by decide +kernel
theorem dX8_save_78 : decode cX8_save 78 = .ok (.iadd, 1) := by decide +kernel
theorem dX8_save_79 : decode cX8_save 79 = .ok (.aload_n 0, 1) := by decide +kernel
theorem dX8_save_80 : decode cX8_save 80 = .ok (.getfield 7, 3) := by decide +kernel
theorem dX8_save_83 : decode cX8_save 83 = .ok (.bipush 6, 2) := by decide +kernel
theorem dX8_save_85 : decode cX8_save 85 = .ok (.iload_n 1, 1) := by decide +kernel
theorem dX8_save_86 : decode cX8_save 86 = .ok (.iadd, 1) := by decide +kernel
theorem dX8_save_87 : decode cX8_save 87 = .ok (.iaload, 1) := by decide +kernel
theorem dX8_save_88 : decode cX8_save 88 = .ok (.iastore, 1) := by decide +kernel
theorem dX8_save_89 : decode cX8_save 89 = .ok (.iinc 1 1, 3) := by decide +kernel
theorem dX8_save_92 : decode cX8_save 92 = .ok (.goto (-37), 3) := by decide +kernel
theorem dX8_save_95 : decode cX8_save 95 = .ok (.aload_n 0, 1) := by decide +kernel
theorem dX8_save_96 : decode cX8_save 96 = .ok (.getfield 7, 3) := by decide +kernel
theorem dX8_save_99 : decode cX8_save 99 = .ok (.iconst 5, 1) := by decide +kernel
theorem dX8_save_100 : decode cX8_save 100 = .ok (.dup2, 1) := by decide +kernel
theorem dX8_save_101 : decode cX8_save 101 = .ok (.iaload, 1) := by decide +kernel
theorem dX8_save_102 : decode cX8_save 102 = .ok (.iconst 1, 1) := by decide +kernel
theorem dX8_save_103 : decode cX8_save 103 = .ok (.iadd, 1) := by decide +kernel
theorem dX8_save_104 : decode cX8_save 104 = .ok (.iastore, 1) := by decide +kernel
theorem dX8_save_105 : decode cX8_save 105 = .ok (.return_, 1) := by decide +kernel
theorem dX8_nights_0 : decode cX8_nights 0 = .ok (.iload_n 1, 1) := by decide +kernel
theorem dX8_nights_1 : decode cX8_nights 1 = .ok (.i2l, 1) := by decide +kernel
theorem dX8_nights_2 : decode cX8_nights 2 = .ok (.lconst 1, 1) := by decide +kernel
theorem dX8_nights_3 : decode cX8_nights 3 = .ok (.ldc2_w 113, 3) := by decide +kernel
theorem dX8_nights_6 : decode cX8_nights 6 = .ok (.invokestatic 59, 3) := by decide +kernel
theorem dX8_nights_9 : decode cX8_nights 9 = .ok (.ifCond .ne 10, 3) := by decide +kernel
theorem dX8_nights_12 : decode cX8_nights 12 = .ok (.aload_n 0, 1) := by decide +kernel
theorem dX8_nights_13 : decode cX8_nights 13 = .ok (.bipush (-2), 2) := by decide +kernel
theorem dX8_nights_15 : decode cX8_nights 15 = .ok (.invokevirtual 75, 3) := by decide +kernel
theorem dX8_nights_18 : decode cX8_nights 18 = .ok (.ireturn, 1) := by decide +kernel
theorem dX8_nights_19 : decode cX8_nights 19 = .ok (.aload_n 0, 1) := by decide +kernel
theorem dX8_nights_20 : decode cX8_nights 20 = .ok (.invokevirtual 115, 3) := by decide +kernel
theorem dX8_nights_23 : decode cX8_nights 23 = .ok (.aload_n 0, 1) := by decide +kernel
theorem dX8_nights_24 : decode cX8_nights 24 = .ok (.getfield 7, 3) := by decide +kernel
theorem dX8_nights_27 : decode cX8_nights 27 = .ok (.iload_n 1, 1) := by decide +kernel
theorem dX8_nights_28 : decode cX8_nights 28 = .ok (.invokestatic 118, 3) := by decide +kernel
theorem dX8_nights_31 : decode cX8_nights 31 = .ok (.aload_n 0, 1) := by decide +kernel
theorem dX8_nights_32 : decode cX8_nights 32 = .ok (.getfield 7, 3) := by decide +kernel
theorem dX8_nights_35 : decode cX8_nights 35 = .ok (.invokestatic 122, 3) := by decide +kernel
theorem dX8_nights_38 : decode cX8_nights 38 = .ok (.ireturn, 1) := by decide +kernel
theorem dX8_swapOn_0 : decode cX8_swapOn 0 = .ok (.aload_n 0, 1) := by decide +kernel
theorem dX8_swapOn_1 : decode cX8_swapOn 1 = .ok (.iload_n 1, 1) := by decide +kernel
theorem dX8_swapOn_2 : decode cX8_swapOn 2 = .ok (.invokestatic 67, 3) := by decide +kernel
theorem dX8_swapOn_5 : decode cX8_swapOn 5 = .ok (.istore_n 3, 1) := by decide +kernel
theorem dX8_swapOn_6 : decode cX8_swapOn 6 = .ok (.aload_n 0, 1) := by decide +kernel
theorem dX8_swapOn_7 : decode cX8_swapOn 7 = .ok (.iload_n 2, 1) := by decide +kernel
theorem dX8_swapOn_8 : decode cX8_swapOn 8 = .ok (.invokestatic 67, 3) := by decide +kernel
theorem dX8_swapOn_11 : decode cX8_swapOn 11 = .ok (.istore 4, 2) := by decide +kernel
theorem dX8_swapOn_13 : decode cX8_swapOn 13 = .ok (.iload_n 3, 1) := by decide +kernel
theorem dX8_swapOn_14 : decode cX8_swapOn 14 = .ok (.iconst (-1), 1) := by decide +kernel
theorem dX8_swapOn_15 : decode cX8_swapOn 15 = .ok (.if_icmp .eq 10, 3) := by decide +kernel
theorem dX8_swapOn_18 : decode cX8_swapOn 18 = .ok (.aload_n 0, 1) := by decide +kernel
theorem dX8_swapOn_19 : decode cX8_swapOn 19 = .ok (.bipush 6, 2) := by decide +kernel
theorem dX8_swapOn_21 : decode cX8_swapOn 21 = .ok (.iload_n 3, 1) := by decide +kernel
theorem dX8_swapOn_22 : decode cX8_swapOn 22 = .ok (.iadd, 1) := by decide +kernel
theorem dX8_swapOn_23 : decode cX8_swapOn 23 = .ok (.iload_n 2, 1) := by decide +kernel
theorem dX8_swapOn_24 : decode cX8_swapOn 24 = .ok (.iastore, 1) := by decide +kernel
theorem dX8_swapOn_25 : decode cX8_swapOn 25 = .ok (.iload 4, 2) := by decide +kernel
theorem dX8_swapOn_27 : decode cX8_swapOn 27 = .ok (.iconst (-1), 1) := by decide +kernel
theorem dX8_swapOn_28 : decode cX8_swapOn 28 = .ok (.if_icmp .eq 11, 3) := by decide +kernel
theorem dX8_swapOn_31 : decode cX8_swapOn 31 = .ok (.aload_n 0, 1) := by decide +kernel
theorem dX8_swapOn_32 : decode cX8_swapOn 32 = .ok (.bipush 6, 2) := by decide +kernel
theorem dX8_swapOn_34 : decode cX8_swapOn 34 = .ok (.iload 4, 2) := by decide +kernel
theorem dX8_swapOn_36 : decode cX8_swapOn 36 = .ok (.iadd, 1) := by decide +kernel
theorem dX8_swapOn_37 : decode cX8_swapOn 37 = .ok (.iload_n 1, 1) := by decide +kernel
theorem dX8_swapOn_38 : decode cX8_swapOn 38 = .ok (.iastore, 1) := by decide +kernel
theorem dX8_swapOn_39 : decode cX8_swapOn 39 = .ok (.iload_n 3, 1) := by decide +kernel
theorem dX8_swapOn_40 : decode cX8_swapOn 40 = .ok (.iconst (-1), 1) := by decide +kernel
theorem dX8_swapOn_41 : decode cX8_swapOn 41 = .ok (.if_icmp .ne 7, 3) := by decide +kernel
theorem dX8_swapOn_44 : decode cX8_swapOn 44 = .ok (.iconst 0, 1) := by decide +kernel
theorem dX8_swapOn_45 : decode cX8_swapOn 45 = .ok (.goto 4, 3) := by decide +kernel
theorem dX8_swapOn_48 : decode cX8_swapOn 48 = .ok (.iconst 1, 1) := by decide +kernel
theorem dX8_swapOn_49 : decode cX8_swapOn 49 = .ok (.iload 4, 2) := by decide +kernel
theorem dX8_swapOn_51 : decode cX8_swapOn 51 = .ok (.iconst (-1), 1) := by decide +kernel
theorem dX8_swapOn_52 : decode cX8_swapOn 52 = .ok (.if_icmp .ne 7, 3) := by decide +kernel
theorem dX8_swapOn_55 : decode cX8_swapOn 55 = .ok (.iconst 0, 1) := by decide +kernel
theorem dX8_swapOn_56 : decode cX8_swapOn 56 = .ok (.goto 4, 3) := by decide +kernel
theorem dX8_swapOn_59 : decode cX8_swapOn 59 = .ok (.iconst 1, 1) := by decide +kernel
theorem dX8_swapOn_60 : decode cX8_swapOn 60 = .ok (.iadd, 1) := by decide +kernel
theorem dX8_swapOn_61 : decode cX8_swapOn 61 = .ok (.ireturn, 1) := by decide +kernel
theorem dX8_swaps_0 : decode cX8_swaps 0 = .ok (.iload_n 1, 1) := by decide +kernel
theorem dX8_swaps_1 : decode cX8_swaps 1 = .ok (.invokestatic 89, 3) := by decide +kernel
theorem dX8_swaps_4 : decode cX8_swaps 4 = .ok (.ifCond .eq 15, 3) := by decide +kernel
theorem dX8_swaps_7 : decode cX8_swaps 7 = .ok (.iload_n 2, 1) := by decide +kernel
theorem dX8_swaps_8 : decode cX8_swaps 8 = .ok (.invokestatic 89, 3) := by decide +kernel
theorem dX8_swaps_11 : decode cX8_swaps 11 = .ok (.ifCond .eq 8, 3) := by decide +kernel
theorem dX8_swaps_14 : decode cX8_swaps 14 = .ok (.iload_n 1, 1) := by decide +kernel
theorem dX8_swaps_15 : decode cX8_swaps 15 = .ok (.iload_n 2, 1) := by decide +kernel
theorem dX8_swaps_16 : decode cX8_swaps 16 = .ok (.if_icmp .ne 10, 3) := by decide +kernel
theorem dX8_swaps_19 : decode cX8_swaps 19 = .ok (.aload_n 0, 1) := by decide +kernel
theorem dX8_swaps_20 : decode cX8_swaps 20 = .ok (.bipush (-2), 2) := by decide +kernel
theorem dX8_swaps_22 : decode cX8_swaps 22 = .ok (.invokevirtual 75, 3) := by decide +kernel
theorem dX8_swaps_25 : decode cX8_swaps 25 = .ok (.ireturn, 1) := by decide +kernel
theorem dX8_swaps_26 : decode cX8_swaps 26 = .ok (.aload_n 0, 1) := by decide +kernel
theorem dX8_swaps_27 : decode cX8_swaps 27 = .ok (.getfield 7, 3) := by decide +kernel
theorem dX8_swaps_30 : decode cX8_swaps 30 = .ok (.iload_n 1, 1) := by decide +kernel
theorem dX8_swaps_31 : decode cX8_swaps 31 = .ok (.invokestatic 67, 3) := by decide +kernel
theorem dX8_swaps_34 : decode cX8_swaps 34 = .ok (.iconst (-1), 1) := by decide +kernel
theorem dX8_swaps_35 : decode cX8_swaps 35 = .ok (.if_icmp .ne 20, 3) := by decide +kernel
theorem dX8_swaps_38 : decode cX8_swaps 38 = .ok (.aload_n 0, 1) := by decide +kernel
theorem dX8_swaps_39 : decode cX8_swaps 39 = .ok (.getfield 7, 3) := by decide +kernel
theorem dX8_swaps_42 : decode cX8_swaps 42 = .ok (.iload_n 2, 1) := by decide +kernel
theorem dX8_swaps_43 : decode cX8_swaps 43 = .ok (.invokestatic 67, 3) := by decide +kernel
theorem dX8_swaps_46 : decode cX8_swaps 46 = .ok (.iconst (-1), 1) := by decide +kernel
theorem dX8_swaps_47 : decode cX8_swaps 47 = .ok (.if_icmp .ne 8, 3) := by decide +kernel
theorem dX8_swaps_50 : decode cX8_swaps 50 = .ok (.aload_n 0, 1) := by decide +kernel
theorem dX8_swaps_51 : decode cX8_swaps 51 = .ok (.invokevirtual 126, 3) := by decide +kernel
theorem dX8_swaps_54 : decode cX8_swaps 54 = .ok (.ireturn, 1) := by decide +kernel
theorem dX8_swaps_55 : decode cX8_swaps 55 = .ok (.aload_n 0, 1) := by decide +kernel
theorem dX8_swaps_56 : decode cX8_swaps 56 = .ok (.invokevirtual 115, 3) := by decide +kernel
theorem dX8_swaps_59 : decode cX8_swaps 59 = .ok (.aload_n 0, 1) := by decide +kernel
theorem dX8_swaps_60 : decode cX8_swaps 60 = .ok (.getfield 7, 3) := by decide +kernel
theorem dX8_swaps_63 : decode cX8_swaps 63 = .ok (.iload_n 1, 1) := by decide +kernel
theorem dX8_swaps_64 : decode cX8_swaps 64 = .ok (.iload_n 2, 1) := by decide +kernel
theorem dX8_swaps_65 : decode cX8_swaps 65 = .ok (.invokestatic 129, 3) := by decide +kernel
theorem dX8_swaps_68 : decode cX8_swaps 68 = .ok (.ireturn, 1) := by decide +kernel
theorem dX8_wool_0 : decode cX8_wool 0 = .ok (.aload_n 0, 1) := by decide +kernel
theorem dX8_wool_1 : decode cX8_wool 1 = .ok (.iload_n 1, 1) := by decide +kernel
theorem dX8_wool_2 : decode cX8_wool 2 = .ok (.invokevirtual 132, 3) := by decide +kernel
theorem dX8_wool_5 : decode cX8_wool 5 = .ok (.ifCond .eq 10, 3) := by decide +kernel
theorem dX8_wool_8 : decode cX8_wool 8 = .ok (.iload_n 2, 1) := by decide +kernel
theorem dX8_wool_9 : decode cX8_wool 9 = .ok (.invokestatic 135, 3) := by decide +kernel
theorem dX8_wool_12 : decode cX8_wool 12 = .ok (.ifCond .ne 10, 3) := by decide +kernel
theorem dX8_wool_15 : decode cX8_wool 15 = .ok (.aload_n 0, 1) := by decide +kernel
theorem dX8_wool_16 : decode cX8_wool 16 = .ok (.bipush (-2), 2) := by decide +kernel
theorem dX8_wool_18 : decode cX8_wool 18 = .ok (.invokevirtual 75, 3) := by decide +kernel
theorem dX8_wool_21 : decode cX8_wool 21 = .ok (.ireturn, 1) := by decide +kernel
theorem dX8_wool_22 : decode cX8_wool 22 = .ok (.aload_n 0, 1) := by decide +kernel
theorem dX8_wool_23 : decode cX8_wool 23 = .ok (.getfield 7, 3) := by decide +kernel
theorem dX8_wool_26 : decode cX8_wool 26 = .ok (.bipush 12, 2) := by decide +kernel
theorem dX8_wool_28 : decode cX8_wool 28 = .ok (.iload_n 1, 1) := by decide +kernel
theorem dX8_wool_29 : decode cX8_wool 29 = .ok (.iadd, 1) := by decide +kernel
theorem dX8_wool_30 : decode cX8_wool 30 = .ok (.iaload, 1) := by decide +kernel
theorem dX8_wool_31 : decode cX8_wool 31 = .ok (.istore_n 3, 1) := by decide +kernel
theorem dX8_wool_32 : decode cX8_wool 32 = .ok (.iload_n 3, 1) := by decide +kernel
theorem dX8_wool_33 : decode cX8_wool 33 = .ok (.iload_n 2, 1) := by decide +kernel
theorem dX8_wool_34 : decode cX8_wool 34 = .ok (.if_icmp .ne 8, 3) := by decide +kernel
theorem dX8_wool_37 : decode cX8_wool 37 = .ok (.aload_n 0, 1) := by decide +kernel
theorem dX8_wool_38 : decode cX8_wool 38 = .ok (.invokevirtual 126, 3) := by decide +kernel
theorem dX8_wool_41 : decode cX8_wool 41 = .ok (.ireturn, 1) := by decide +kernel
theorem dX8_wool_42 : decode cX8_wool 42 = .ok (.aload_n 0, 1) := by decide +kernel
theorem dX8_wool_43 : decode cX8_wool 43 = .ok (.invokevirtual 115, 3) := by decide +kernel
theorem dX8_wool_46 : decode cX8_wool 46 = .ok (.aload_n 0, 1) := by decide +kernel
theorem dX8_wool_47 : decode cX8_wool 47 = .ok (.getfield 7, 3) := by decide +kernel
theorem dX8_wool_50 : decode cX8_wool 50 = .ok (.bipush 12, 2) := by decide +kernel
theorem dX8_wool_52 : decode cX8_wool 52 = .ok (.iload_n 1, 1) := by decide +kernel
theorem dX8_wool_53 : decode cX8_wool 53 = .ok (.iadd, 1) := by decide +kernel
theorem dX8_wool_54 : decode cX8_wool 54 = .ok (.iload_n 2, 1) := by decide +kernel
theorem dX8_wool_55 : decode cX8_wool 55 = .ok (.iastore, 1) := by decide +kernel
theorem dX8_wool_56 : decode cX8_wool 56 = .ok (.iload_n 3, 1) := by decide +kernel
theorem dX8_wool_57 : decode cX8_wool 57 = .ok (.ireturn, 1) := by decide +kernel
theorem dX8_sends_0 : decode cX8_sends 0 = .ok (.aload_n 0, 1) := by decide +kernel
theorem dX8_sends_1 : decode cX8_sends 1 = .ok (.iload_n 1, 1) := by decide +kernel
theorem dX8_sends_2 : decode cX8_sends 2 = .ok (.invokevirtual 138, 3) := by decide +kernel
theorem dX8_sends_5 : decode cX8_sends 5 = .ok (.ifCond .eq 10, 3) := by decide +kernel
theorem dX8_sends_8 : decode cX8_sends 8 = .ok (.iload_n 2, 1) := by decide +kernel
theorem dX8_sends_9 : decode cX8_sends 9 = .ok (.invokestatic 89, 3) := by decide +kernel
theorem dX8_sends_12 : decode cX8_sends 12 = .ok (.ifCond .ne 10, 3) := by decide +kernel
theorem dX8_sends_15 : decode cX8_sends 15 = .ok (.aload_n 0, 1) := by decide +kernel
theorem dX8_sends_16 : decode cX8_sends 16 = .ok (.bipush (-2), 2) := by decide +kernel
theorem dX8_sends_18 : decode cX8_sends 18 = .ok (.invokevirtual 75, 3) := by decide +kernel
theorem dX8_sends_21 : decode cX8_sends 21 = .ok (.ireturn, 1) := by decide +kernel
theorem dX8_sends_22 : decode cX8_sends 22 = .ok (.aload_n 0, 1) := by decide +kernel
theorem dX8_sends_23 : decode cX8_sends 23 = .ok (.getfield 7, 3) := by decide +kernel
theorem dX8_sends_26 : decode cX8_sends 26 = .ok (.bipush 24, 2) := by decide +kernel
theorem dX8_sends_28 : decode cX8_sends 28 = .ok (.iload_n 1, 1) := by decide +kernel
theorem dX8_sends_29 : decode cX8_sends 29 = .ok (.iadd, 1) := by decide +kernel
theorem dX8_sends_30 : decode cX8_sends 30 = .ok (.iaload, 1) := by decide +kernel
theorem dX8_sends_31 : decode cX8_sends 31 = .ok (.istore_n 3, 1) := by decide +kernel
theorem dX8_sends_32 : decode cX8_sends 32 = .ok (.iload_n 3, 1) := by decide +kernel
theorem dX8_sends_33 : decode cX8_sends 33 = .ok (.iload_n 2, 1) := by decide +kernel
theorem dX8_sends_34 : decode cX8_sends 34 = .ok (.if_icmp .ne 8, 3) := by decide +kernel
theorem dX8_sends_37 : decode cX8_sends 37 = .ok (.aload_n 0, 1) := by decide +kernel
theorem dX8_sends_38 : decode cX8_sends 38 = .ok (.invokevirtual 126, 3) := by decide +kernel
theorem dX8_sends_41 : decode cX8_sends 41 = .ok (.ireturn, 1) := by decide +kernel
theorem dX8_sends_42 : decode cX8_sends 42 = .ok (.aload_n 0, 1) := by decide +kernel
theorem dX8_sends_43 : decode cX8_sends 43 = .ok (.invokevirtual 115, 3) := by decide +kernel
theorem dX8_sends_46 : decode cX8_sends 46 = .ok (.aload_n 0, 1) := by decide +kernel
theorem dX8_sends_47 : decode cX8_sends 47 = .ok (.getfield 7, 3) := by decide +kernel
theorem dX8_sends_50 : decode cX8_sends 50 = .ok (.bipush 24, 2) := by decide +kernel
theorem dX8_sends_52 : decode cX8_sends 52 = .ok (.iload_n 1, 1) := by decide +kernel
theorem dX8_sends_53 : decode cX8_sends 53 = .ok (.iadd, 1) := by decide +kernel
theorem dX8_sends_54 : decode cX8_sends 54 = .ok (.iload_n 2, 1) := by decide +kernel
theorem dX8_sends_55 : decode cX8_sends 55 = .ok (.iastore, 1) := by decide +kernel
theorem dX8_sends_56 : decode cX8_sends 56 = .ok (.iload_n 3, 1) := by decide +kernel
theorem dX8_sends_57 : decode cX8_sends 57 = .ok (.ireturn, 1) := by decide +kernel
theorem dX8_undo_0 : decode cX8_undo 0 = .ok (.aload_n 0, 1) := by decide +kernel
theorem dX8_undo_1 : decode cX8_undo 1 = .ok (.getfield 7, 3) := by decide +kernel
theorem dX8_undo_4 : decode cX8_undo 4 = .ok (.iconst 5, 1) := by decide +kernel
theorem dX8_undo_5 : decode cX8_undo 5 = .ok (.iaload, 1) := by decide +kernel
theorem dX8_undo_6 : decode cX8_undo 6 = .ok (.ifCond .ne 8, 3) := by decide +kernel
theorem dX8_undo_9 : decode cX8_undo 9 = .ok (.aload_n 0, 1) := by decide +kernel
theorem dX8_undo_10 : decode cX8_undo 10 = .ok (.invokevirtual 126, 3) := by decide +kernel
theorem dX8_undo_13 : decode cX8_undo 13 = .ok (.ireturn, 1) := by decide +kernel
theorem dX8_undo_14 : decode cX8_undo 14 = .ok (.aload_n 0, 1) := by decide +kernel
theorem dX8_undo_15 : decode cX8_undo 15 = .ok (.getfield 7, 3) := by decide +kernel
theorem dX8_undo_18 : decode cX8_undo 18 = .ok (.iconst 5, 1) := by decide +kernel
theorem dX8_undo_19 : decode cX8_undo 19 = .ok (.dup2, 1) := by decide +kernel
theorem dX8_undo_20 : decode cX8_undo 20 = .ok (.iaload, 1) := by decide +kernel
theorem dX8_undo_21 : decode cX8_undo 21 = .ok (.iconst 1, 1) := by decide +kernel
theorem dX8_undo_22 : decode cX8_undo 22 = .ok (.isub, 1) := by decide +kernel
theorem dX8_undo_23 : decode cX8_undo 23 = .ok (.iastore, 1) := by decide +kernel
theorem dX8_undo_24 : decode cX8_undo 24 = .ok (.iconst 0, 1) := by decide +kernel
theorem dX8_undo_25 : decode cX8_undo 25 = .ok (.istore_n 1, 1) := by decide +kernel
theorem dX8_undo_26 : decode cX8_undo 26 = .ok (.iload_n 1, 1) := by decide +kernel
theorem dX8_undo_27 : decode cX8_undo 27 = .ok (.bipush 25, 2) := by decide +kernel
theorem dX8_undo_29 : decode cX8_undo 29 = .ok (.if_icmp .ge 37, 3) := by decide +kernel
theorem dX8_undo_32 : decode cX8_undo 32 = .ok (.aload_n 0, 1) := by decide +kernel
theorem dX8_undo_33 : decode cX8_undo 33 = .ok (.getfield 7, 3) := by decide +kernel
theorem dX8_undo_36 : decode cX8_undo 36 = .ok (.bipush 6, 2) := by decide +kernel
theorem dX8_undo_38 : decode cX8_undo 38 = .ok (.iload_n 1, 1) := by decide +kernel
theorem dX8_undo_39 : decode cX8_undo 39 = .ok (.iadd, 1) := by decide +kernel
theorem dX8_undo_40 : decode cX8_undo 40 = .ok (.aload_n 0, 1) := by decide +kernel
theorem dX8_undo_41 : decode cX8_undo 41 = .ok (.getfield 7, 3) := by decide +kernel
theorem dX8_undo_44 : decode cX8_undo 44 = .ok (.bipush 112, 2) := by decide +kernel
theorem dX8_undo_46 : decode cX8_undo 46 = .ok (.bipush 25, 2) := by decide +kernel
theorem dX8_undo_48 : decode cX8_undo 48 = .ok (.aload_n 0, 1) := by decide +kernel
theorem dX8_undo_49 : decode cX8_undo 49 = .ok (.getfield 7, 3) := by decide +kernel
theorem dX8_undo_52 : decode cX8_undo 52 = .ok (.iconst 5, 1) := by decide +kernel
theorem dX8_undo_53 : decode cX8_undo 53 = .ok (.iaload, 1) := by decide +kernel
theorem dX8_undo_54 : decode cX8_undo 54 = .ok (.imul, 1) := by decide +kernel
theorem dX8_undo_55 : decode cX8_undo 55 = .ok (.iadd, 1) := by decide +kernel
theorem dX8_undo_56 : decode cX8_undo 56 = .ok (.iload_n 1, 1) := by decide +kernel
theorem dX8_undo_57 : decode cX8_undo 57 = .ok (.iadd, 1) := by decide +kernel
theorem dX8_undo_58 : decode cX8_undo 58 = .ok (.iaload, 1) := by decide +kernel
theorem dX8_undo_59 : decode cX8_undo 59 = .ok (.iastore, 1) := by decide +kernel
theorem dX8_undo_60 : decode cX8_undo 60 = .ok (.iinc 1 1, 3) := by decide +kernel
theorem dX8_undo_63 : decode cX8_undo 63 = .ok (.goto (-37), 3) := by decide +kernel
theorem dX8_undo_66 : decode cX8_undo 66 = .ok (.aload_n 0, 1) := by decide +kernel
theorem dX8_undo_67 : decode cX8_undo 67 = .ok (.getfield 7, 3) := by decide +kernel
theorem dX8_undo_70 : decode cX8_undo 70 = .ok (.bipush 30, 2) := by decide +kernel
theorem dX8_undo_72 : decode cX8_undo 72 = .ok (.iaload, 1) := by decide +kernel
theorem dX8_undo_73 : decode cX8_undo 73 = .ok (.ireturn, 1) := by decide +kernel
theorem dX8_of_0 : decode cX8_of 0 = .ok (.aload_n 0, 1) := by decide +kernel
theorem dX8_of_1 : decode cX8_of 1 = .ok (.iload_n 1, 1) := by decide +kernel
theorem dX8_of_2 : decode cX8_of 2 = .ok (.invokevirtual 132, 3) := by decide +kernel
theorem dX8_of_5 : decode cX8_of 5 = .ok (.ifCond .eq 15, 3) := by decide +kernel
theorem dX8_of_8 : decode cX8_of 8 = .ok (.iload_n 2, 1) := by decide +kernel
theorem dX8_of_9 : decode cX8_of 9 = .ok (.i2l, 1) := by decide +kernel
theorem dX8_of_10 : decode cX8_of 10 = .ok (.lconst 0, 1) := by decide +kernel
theorem dX8_of_11 : decode cX8_of 11 = .ok (.ldc2_w 141, 3) := by decide +kernel
theorem dX8_of_14 : decode cX8_of 14 = .ok (.invokestatic 59, 3) := by decide +kernel
theorem dX8_of_17 : decode cX8_of 17 = .ok (.ifCond .ne 10, 3) := by decide +kernel
theorem dX8_of_20 : decode cX8_of 20 = .ok (.aload_n 0, 1) := by decide +kernel
theorem dX8_of_21 : decode cX8_of 21 = .ok (.bipush (-2), 2) := by decide +kernel
theorem dX8_of_23 : decode cX8_of 23 = .ok (.invokevirtual 75, 3) := by decide +kernel
theorem dX8_of_26 : decode cX8_of 26 = .ok (.ireturn, 1) := by decide +kernel
theorem dX8_of_27 : decode cX8_of 27 = .ok (.iload_n 2, 1) := by decide +kernel
theorem dX8_of_28 : decode cX8_of 28 = .ok (.iconst 4, 1) := by decide +kernel
theorem dX8_of_29 : decode cX8_of 29 = .ok (.if_icmp .ne 23, 3) := by decide +kernel
theorem dX8_of_32 : decode cX8_of 32 = .ok (.aload_n 0, 1) := by decide +kernel
theorem dX8_of_33 : decode cX8_of 33 = .ok (.getfield 7, 3) := by decide +kernel
theorem dX8_of_36 : decode cX8_of 36 = .ok (.iload_n 1, 1) := by decide +kernel
theorem dX8_of_37 : decode cX8_of 37 = .ok (.aload_n 0, 1) := by decide +kernel
theorem dX8_of_38 : decode cX8_of 38 = .ok (.getfield 7, 3) := by decide +kernel
theorem dX8_of_41 : decode cX8_of 41 = .ok (.bipush 6, 2) := by decide +kernel
theorem dX8_of_43 : decode cX8_of 43 = .ok (.iload_n 1, 1) := by decide +kernel
theorem dX8_of_44 : decode cX8_of 44 = .ok (.iadd, 1) := by decide +kernel
theorem dX8_of_45 : decode cX8_of 45 = .ok (.iaload, 1) := by decide +kernel
theorem dX8_of_46 : decode cX8_of 46 = .ok (.invokestatic 107, 3) := by decide +kernel
theorem dX8_of_49 : decode cX8_of 49 = .ok (.goto 41, 3) := by decide +kernel
theorem dX8_of_52 : decode cX8_of 52 = .ok (.aload_n 0, 1) := by decide +kernel
theorem dX8_of_53 : decode cX8_of 53 = .ok (.getfield 7, 3) := by decide +kernel
theorem dX8_of_56 : decode cX8_of 56 = .ok (.iload_n 2, 1) := by decide +kernel
theorem dX8_of_57 : decode cX8_of 57 = .ok (.ifCond .ne 8, 3) := by decide +kernel
theorem dX8_of_60 : decode cX8_of 60 = .ok (.bipush 31, 2) := by decide +kernel
theorem dX8_of_62 : decode cX8_of 62 = .ok (.goto 25, 3) := by decide +kernel
theorem dX8_of_65 : decode cX8_of 65 = .ok (.iload_n 2, 1) := by decide +kernel
theorem dX8_of_66 : decode cX8_of 66 = .ok (.iconst 1, 1) := by decide +kernel
theorem dX8_of_67 : decode cX8_of 67 = .ok (.if_icmp .ne 8, 3) := by decide +kernel
theorem dX8_of_70 : decode cX8_of 70 = .ok (.bipush 6, 2) := by decide +kernel
theorem dX8_of_72 : decode cX8_of 72 = .ok (.goto 15, 3) := by decide +kernel
theorem dX8_of_75 : decode cX8_of 75 = .ok (.iload_n 2, 1) := by decide +kernel
theorem dX8_of_76 : decode cX8_of 76 = .ok (.iconst 2, 1) := by decide +kernel
theorem dX8_of_77 : decode cX8_of 77 = .ok (.if_icmp .ne 8, 3) := by decide +kernel
theorem dX8_of_80 : decode cX8_of 80 = .ok (.bipush 12, 2) := by decide +kernel
theorem dX8_of_82 : decode cX8_of 82 = .ok (.goto 5, 3) := by decide +kernel
theorem dX8_of_85 : decode cX8_of 85 = .ok (.bipush 18, 2) := by decide +kernel
theorem dX8_of_87 : decode cX8_of 87 = .ok (.iload_n 1, 1) := by decide +kernel
theorem dX8_of_88 : decode cX8_of 88 = .ok (.iadd, 1) := by decide +kernel
theorem dX8_of_89 : decode cX8_of 89 = .ok (.iaload, 1) := by decide +kernel
theorem dX8_of_90 : decode cX8_of 90 = .ok (.ireturn, 1) := by decide +kernel
theorem dX8_about_0 : decode cX8_about 0 = .ok (.aload_n 0, 1) := by decide +kernel
theorem dX8_about_1 : decode cX8_about 1 = .ok (.iload_n 1, 1) := by decide +kernel
theorem dX8_about_2 : decode cX8_about 2 = .ok (.invokevirtual 138, 3) := by decide +kernel
theorem dX8_about_5 : decode cX8_about 5 = .ok (.ifCond .eq 15, 3) := by decide +kernel
theorem dX8_about_8 : decode cX8_about 8 = .ok (.iload_n 2, 1) := by decide +kernel
theorem dX8_about_9 : decode cX8_about 9 = .ok (.i2l, 1) := by decide +kernel
theorem dX8_about_10 : decode cX8_about 10 = .ok (.lconst 0, 1) := by decide +kernel
theorem dX8_about_11 : decode cX8_about 11 = .ok (.ldc2_w 143, 3) := by decide +kernel
theorem dX8_about_14 : decode cX8_about 14 = .ok (.invokestatic 59, 3) := by decide +kernel
theorem dX8_about_17 : decode cX8_about 17 = .ok (.ifCond .ne 10, 3) := by decide +kernel
theorem dX8_about_20 : decode cX8_about 20 = .ok (.aload_n 0, 1) := by decide +kernel
theorem dX8_about_21 : decode cX8_about 21 = .ok (.bipush (-2), 2) := by decide +kernel
theorem dX8_about_23 : decode cX8_about 23 = .ok (.invokevirtual 75, 3) := by decide +kernel
theorem dX8_about_26 : decode cX8_about 26 = .ok (.ireturn, 1) := by decide +kernel
theorem dX8_about_27 : decode cX8_about 27 = .ok (.iload_n 2, 1) := by decide +kernel
theorem dX8_about_28 : decode cX8_about 28 = .ok (.iconst 3, 1) := by decide +kernel
theorem dX8_about_29 : decode cX8_about 29 = .ok (.if_icmp .ne 34, 3) := by decide +kernel
theorem dX8_about_32 : decode cX8_about 32 = .ok (.aload_n 0, 1) := by decide +kernel
theorem dX8_about_33 : decode cX8_about 33 = .ok (.getfield 7, 3) := by decide +kernel
theorem dX8_about_36 : decode cX8_about 36 = .ok (.bipush 37, 2) := by decide +kernel
theorem dX8_about_38 : decode cX8_about 38 = .ok (.iload_n 1, 1) := by decide +kernel
theorem dX8_about_39 : decode cX8_about 39 = .ok (.iadd, 1) := by decide +kernel
theorem dX8_about_40 : decode cX8_about 40 = .ok (.iaload, 1) := by decide +kernel
theorem dX8_about_41 : decode cX8_about 41 = .ok (.aload_n 0, 1) := by decide +kernel
theorem dX8_about_42 : decode cX8_about 42 = .ok (.getfield 7, 3) := by decide +kernel
theorem dX8_about_45 : decode cX8_about 45 = .ok (.bipush 43, 2) := by decide +kernel
theorem dX8_about_47 : decode cX8_about 47 = .ok (.iload_n 1, 1) := by decide +kernel
theorem dX8_about_48 : decode cX8_about 48 = .ok (.iadd, 1) := by decide +kernel
theorem dX8_about_49 : decode cX8_about 49 = .ok (.iaload, 1) := by decide +kernel
theorem dX8_about_50 : decode cX8_about 50 = .ok (.aload_n 0, 1) := by decide +kernel
theorem dX8_about_51 : decode cX8_about 51 = .ok (.getfield 7, 3) := by decide +kernel
theorem dX8_about_54 : decode cX8_about 54 = .ok (.bipush 30, 2) := by decide +kernel
theorem dX8_about_56 : decode cX8_about 56 = .ok (.iaload, 1) := by decide +kernel
theorem dX8_about_57 : decode cX8_about 57 = .ok (.invokestatic 96, 3) := by decide +kernel
theorem dX8_about_60 : decode cX8_about 60 = .ok (.goto 31, 3) := by decide +kernel
theorem dX8_about_63 : decode cX8_about 63 = .ok (.aload_n 0, 1) := by decide +kernel
theorem dX8_about_64 : decode cX8_about 64 = .ok (.getfield 7, 3) := by decide +kernel
theorem dX8_about_67 : decode cX8_about 67 = .ok (.iload_n 2, 1) := by decide +kernel
theorem dX8_about_68 : decode cX8_about 68 = .ok (.ifCond .ne 8, 3) := by decide +kernel
theorem dX8_about_71 : decode cX8_about 71 = .ok (.bipush 37, 2) := by decide +kernel
theorem dX8_about_73 : decode cX8_about 73 = .ok (.goto 15, 3) := by decide +kernel
theorem dX8_about_76 : decode cX8_about 76 = .ok (.iload_n 2, 1) := by decide +kernel
theorem dX8_about_77 : decode cX8_about 77 = .ok (.iconst 1, 1) := by decide +kernel
theorem dX8_about_78 : decode cX8_about 78 = .ok (.if_icmp .ne 8, 3) := by decide +kernel
theorem dX8_about_81 : decode cX8_about 81 = .ok (.bipush 43, 2) := by decide +kernel
theorem dX8_about_83 : decode cX8_about 83 = .ok (.goto 5, 3) := by decide +kernel
theorem dX8_about_86 : decode cX8_about 86 = .ok (.bipush 24, 2) := by decide +kernel
theorem dX8_about_88 : decode cX8_about 88 = .ok (.iload_n 1, 1) := by decide +kernel
theorem dX8_about_89 : decode cX8_about 89 = .ok (.iadd, 1) := by decide +kernel
theorem dX8_about_90 : decode cX8_about 90 = .ok (.iaload, 1) := by decide +kernel
theorem dX8_about_91 : decode cX8_about 91 = .ok (.ireturn, 1) := by decide +kernel
theorem dX8_believes_0 : decode cX8_believes 0 = .ok (.aload_n 0, 1) := by decide +kernel
theorem dX8_believes_1 : decode cX8_believes 1 = .ok (.iload_n 1, 1) := by decide +kernel
theorem dX8_believes_2 : decode cX8_believes 2 = .ok (.invokevirtual 132, 3) := by decide +kernel
theorem dX8_believes_5 : decode cX8_believes 5 = .ok (.ifCond .eq 23, 3) := by decide +kernel
theorem dX8_believes_8 : decode cX8_believes 8 = .ok (.aload_n 0, 1) := by decide +kernel
theorem dX8_believes_9 : decode cX8_believes 9 = .ok (.iload_n 2, 1) := by decide +kernel
theorem dX8_believes_10 : decode cX8_believes 10 = .ok (.invokevirtual 138, 3) := by decide +kernel
theorem dX8_believes_13 : decode cX8_believes 13 = .ok (.ifCond .eq 15, 3) := by decide +kernel
theorem dX8_believes_16 : decode cX8_believes 16 = .ok (.aload_n 0, 1) := by decide +kernel
theorem dX8_believes_17 : decode cX8_believes 17 = .ok (.getfield 7, 3) := by decide +kernel
theorem dX8_believes_20 : decode cX8_believes 20 = .ok (.iload_n 1, 1) := by decide +kernel
theorem dX8_believes_21 : decode cX8_believes 21 = .ok (.iload_n 2, 1) := by decide +kernel
theorem dX8_believes_22 : decode cX8_believes 22 = .ok (.invokestatic 103, 3) := by decide +kernel
theorem dX8_believes_25 : decode cX8_believes 25 = .ok (.goto 9, 3) := by decide +kernel
theorem dX8_believes_28 : decode cX8_believes 28 = .ok (.aload_n 0, 1) := by decide +kernel
theorem dX8_believes_29 : decode cX8_believes 29 = .ok (.bipush (-2), 2) := by decide +kernel
theorem dX8_believes_31 : decode cX8_believes 31 = .ok (.invokevirtual 75, 3) := by decide +kernel
theorem dX8_believes_34 : decode cX8_believes 34 = .ok (.ireturn, 1) := by decide +kernel
theorem dX8_layHand_0 : decode cX8_layHand 0 = .ok (.iconst 0, 1) := by decide +kernel
theorem dX8_layHand_1 : decode cX8_layHand 1 = .ok (.istore_n 1, 1) := by decide +kernel
theorem dX8_layHand_2 : decode cX8_layHand 2 = .ok (.iload_n 1, 1) := by decide +kernel
theorem dX8_layHand_3 : decode cX8_layHand 3 = .ok (.bipush 49, 2) := by decide +kernel
theorem dX8_layHand_5 : decode cX8_layHand 5 = .ok (.if_icmp .ge 21, 3) := by decide +kernel
theorem dX8_layHand_8 : decode cX8_layHand 8 = .ok (.aload_n 0, 1) := by decide +kernel
theorem dX8_layHand_9 : decode cX8_layHand 9 = .ok (.getfield 27, 3) := by decide +kernel
theorem dX8_layHand_12 : decode cX8_layHand 12 = .ok (.iload_n 1, 1) := by decide +kernel
theorem dX8_layHand_13 : decode cX8_layHand 13 = .ok (.aload_n 0, 1) := by decide +kernel
theorem dX8_layHand_14 : decode cX8_layHand 14 = .ok (.getfield 7, 3) := by decide +kernel
theorem dX8_layHand_17 : decode cX8_layHand 17 = .ok (.iload_n 1, 1) := by decide +kernel
theorem dX8_layHand_18 : decode cX8_layHand 18 = .ok (.iaload, 1) := by decide +kernel
theorem dX8_layHand_19 : decode cX8_layHand 19 = .ok (.iastore, 1) := by decide +kernel
theorem dX8_layHand_20 : decode cX8_layHand 20 = .ok (.iinc 1 1, 3) := by decide +kernel
theorem dX8_layHand_23 : decode cX8_layHand 23 = .ok (.goto (-21), 3) := by decide +kernel
theorem dX8_layHand_26 : decode cX8_layHand 26 = .ok (.return_, 1) := by decide +kernel
theorem dX8_then_0 : decode cX8_then 0 = .ok (.aload_n 0, 1) := by decide +kernel
theorem dX8_then_1 : decode cX8_then 1 = .ok (.iload_n 1, 1) := by decide +kernel
theorem dX8_then_2 : decode cX8_then 2 = .ok (.invokevirtual 132, 3) := by decide +kernel
theorem dX8_then_5 : decode cX8_then 5 = .ok (.ifCond .eq 15, 3) := by decide +kernel
theorem dX8_then_8 : decode cX8_then 8 = .ok (.iload_n 2, 1) := by decide +kernel
theorem dX8_then_9 : decode cX8_then 9 = .ok (.i2l, 1) := by decide +kernel
theorem dX8_then_10 : decode cX8_then 10 = .ok (.lconst 0, 1) := by decide +kernel
theorem dX8_then_11 : decode cX8_then 11 = .ok (.ldc2_w 113, 3) := by decide +kernel
theorem dX8_then_14 : decode cX8_then 14 = .ok (.invokestatic 59, 3) := by decide +kernel
theorem dX8_then_17 : decode cX8_then 17 = .ok (.ifCond .ne 10, 3) := by decide +kernel
theorem dX8_then_20 : decode cX8_then 20 = .ok (.aload_n 0, 1) := by decide +kernel
theorem dX8_then_21 : decode cX8_then 21 = .ok (.bipush (-2), 2) := by decide +kernel
theorem dX8_then_23 : decode cX8_then 23 = .ok (.invokevirtual 75, 3) := by decide +kernel
theorem dX8_then_26 : decode cX8_then 26 = .ok (.ireturn, 1) := by decide +kernel
theorem dX8_then_27 : decode cX8_then 27 = .ok (.aload_n 0, 1) := by decide +kernel
theorem dX8_then_28 : decode cX8_then 28 = .ok (.invokevirtual 145, 3) := by decide +kernel
theorem dX8_then_31 : decode cX8_then 31 = .ok (.iconst 0, 1) := by decide +kernel
theorem dX8_then_32 : decode cX8_then 32 = .ok (.istore_n 3, 1) := by decide +kernel
theorem dX8_then_33 : decode cX8_then 33 = .ok (.iload_n 3, 1) := by decide +kernel
theorem dX8_then_34 : decode cX8_then 34 = .ok (.iload_n 2, 1) := by decide +kernel
theorem dX8_then_35 : decode cX8_then 35 = .ok (.if_icmp .ge 16, 3) := by decide +kernel
theorem dX8_then_38 : decode cX8_then 38 = .ok (.aload_n 0, 1) := by decide +kernel
theorem dX8_then_39 : decode cX8_then 39 = .ok (.getfield 27, 3) := by decide +kernel
theorem dX8_then_42 : decode cX8_then 42 = .ok (.invokestatic 110, 3) := by decide +kernel
theorem dX8_then_45 : decode cX8_then 45 = .ok (.iinc 3 1, 3) := by decide +kernel
theorem dX8_then_48 : decode cX8_then 48 = .ok (.goto (-15), 3) := by decide +kernel
theorem dX8_then_51 : decode cX8_then 51 = .ok (.aload_n 0, 1) := by decide +kernel
theorem dX8_then_52 : decode cX8_then 52 = .ok (.getfield 27, 3) := by decide +kernel
theorem dX8_then_55 : decode cX8_then 55 = .ok (.bipush 18, 2) := by decide +kernel
theorem dX8_then_57 : decode cX8_then 57 = .ok (.iload_n 1, 1) := by decide +kernel
theorem dX8_then_58 : decode cX8_then 58 = .ok (.iadd, 1) := by decide +kernel
theorem dX8_then_59 : decode cX8_then 59 = .ok (.iaload, 1) := by decide +kernel
theorem dX8_then_60 : decode cX8_then 60 = .ok (.ireturn, 1) := by decide +kernel
theorem dX8_soonest_0 : decode cX8_soonest 0 = .ok (.iconst 0, 1) := by decide +kernel
theorem dX8_soonest_1 : decode cX8_soonest 1 = .ok (.istore_n 2, 1) := by decide +kernel
theorem dX8_soonest_2 : decode cX8_soonest 2 = .ok (.iload_n 2, 1) := by decide +kernel
theorem dX8_soonest_3 : decode cX8_soonest 3 = .ok (.bipush 60, 2) := by decide +kernel
theorem dX8_soonest_5 : decode cX8_soonest 5 = .ok (.if_icmp .gt 32, 3) := by decide +kernel
theorem dX8_soonest_8 : decode cX8_soonest 8 = .ok (.aload_n 0, 1) := by decide +kernel
theorem dX8_soonest_9 : decode cX8_soonest 9 = .ok (.getfield 27, 3) := by decide +kernel
theorem dX8_soonest_12 : decode cX8_soonest 12 = .ok (.bipush 18, 2) := by decide +kernel
theorem dX8_soonest_14 : decode cX8_soonest 14 = .ok (.iload_n 1, 1) := by decide +kernel
theorem dX8_soonest_15 : decode cX8_soonest 15 = .ok (.iadd, 1) := by decide +kernel
theorem dX8_soonest_16 : decode cX8_soonest 16 = .ok (.iaload, 1) := by decide +kernel
theorem dX8_soonest_17 : decode cX8_soonest 17 = .ok (.bipush 20, 2) := by decide +kernel
theorem dX8_soonest_19 : decode cX8_soonest 19 = .ok (.if_icmp .lt 5, 3) := by decide +kernel
theorem dX8_soonest_22 : decode cX8_soonest 22 = .ok (.iload_n 2, 1) := by decide +kernel
theorem dX8_soonest_23 : decode cX8_soonest 23 = .ok (.ireturn, 1) := by decide +kernel
theorem dX8_soonest_24 : decode cX8_soonest 24 = .ok (.aload_n 0, 1) := by decide +kernel
theorem dX8_soonest_25 : decode cX8_soonest 25 = .ok (.getfield 27, 3) := by decide +kernel
theorem dX8_soonest_28 : decode cX8_soonest 28 = .ok (.invokestatic 110, 3) := by decide +kernel
theorem dX8_soonest_31 : decode cX8_soonest 31 = .ok (.iinc 2 1, 3) := by decide +kernel
theorem dX8_soonest_34 : decode cX8_soonest 34 = .ok (.goto (-32), 3) := by decide +kernel
theorem dX8_soonest_37 : decode cX8_soonest 37 = .ok (.iconst (-1), 1) := by decide +kernel
theorem dX8_soonest_38 : decode cX8_soonest 38 = .ok (.ireturn, 1) := by decide +kernel
theorem dX8_when_0 : decode cX8_when 0 = .ok (.aload_n 0, 1) := by decide +kernel
theorem dX8_when_1 : decode cX8_when 1 = .ok (.iload_n 1, 1) := by decide +kernel
theorem dX8_when_2 : decode cX8_when 2 = .ok (.invokevirtual 132, 3) := by decide +kernel
theorem dX8_when_5 : decode cX8_when 5 = .ok (.ifCond .ne 10, 3) := by decide +kernel
theorem dX8_when_8 : decode cX8_when 8 = .ok (.aload_n 0, 1) := by decide +kernel
theorem dX8_when_9 : decode cX8_when 9 = .ok (.bipush (-2), 2) := by decide +kernel
theorem dX8_when_11 : decode cX8_when 11 = .ok (.invokevirtual 75, 3) := by decide +kernel
theorem dX8_when_14 : decode cX8_when 14 = .ok (.ireturn, 1) := by decide +kernel
theorem dX8_when_15 : decode cX8_when 15 = .ok (.aload_n 0, 1) := by decide +kernel
theorem dX8_when_16 : decode cX8_when 16 = .ok (.invokevirtual 145, 3) := by decide +kernel
theorem dX8_when_19 : decode cX8_when 19 = .ok (.aload_n 0, 1) := by decide +kernel
theorem dX8_when_20 : decode cX8_when 20 = .ok (.iload_n 1, 1) := by decide +kernel
theorem dX8_when_21 : decode cX8_when 21 = .ok (.invokevirtual 148, 3) := by decide +kernel
theorem dX8_when_24 : decode cX8_when 24 = .ok (.ireturn, 1) := by decide +kernel
theorem dX8_believedBy_0 : decode cX8_believedBy 0 = .ok (.iload_n 1, 1) := by decide +kernel
theorem dX8_believedBy_1 : decode cX8_believedBy 1 = .ok (.istore_n 2, 1) := by decide +kernel
theorem dX8_believedBy_2 : decode cX8_believedBy 2 = .ok (.iconst 0, 1) := by decide +kernel
theorem dX8_believedBy_3 : decode cX8_believedBy 3 = .ok (.istore_n 3, 1) := by decide +kernel
theorem dX8_believedBy_4 : decode cX8_believedBy 4 = .ok (.iconst 0, 1) := by decide +kernel
theorem dX8_believedBy_5 : decode cX8_believedBy 5 = .ok (.istore 4, 2) := by decide +kernel
theorem dX8_believedBy_7 : decode cX8_believedBy 7 = .ok (.aload_n 0, 1) := by decide +kernel
theorem dX8_believedBy_8 : decode cX8_believedBy 8 = .ok (.invokevirtual 55, 3) := by decide +kernel
theorem dX8_believedBy_11 : decode cX8_believedBy 11 = .ok (.iconst 1, 1) := by decide +kernel
theorem dX8_believedBy_12 : decode cX8_believedBy 12 = .ok (.isub, 1) := by decide +kernel
theorem dX8_believedBy_13 : decode cX8_believedBy 13 = .ok (.istore 5, 2) := by decide +kernel
theorem dX8_believedBy_15 : decode cX8_believedBy 15 = .ok (.iload 5, 2) := by decide +kernel
theorem dX8_believedBy_17 : decode cX8_believedBy 17 = .ok (.ifCond .lt 54, 3) := by decide +kernel
theorem dX8_believedBy_20 : decode cX8_believedBy 20 = .ok (.iload_n 2, 1) := by decide +kernel
theorem dX8_believedBy_21 : decode cX8_believedBy 21 = .ok (.bipush 6, 2) := by decide +kernel
theorem dX8_believedBy_23 : decode cX8_believedBy 23 = .ok (.irem, 1) := by decide +kernel
theorem dX8_believedBy_24 : decode cX8_believedBy 24 = .ok (.istore 6, 2) := by decide +kernel
theorem dX8_believedBy_26 : decode cX8_believedBy 26 = .ok (.iload_n 2, 1) := by decide +kernel
theorem dX8_believedBy_27 : decode cX8_believedBy 27 = .ok (.bipush 6, 2) := by decide +kernel
theorem dX8_believedBy_29 : decode cX8_believedBy 29 = .ok (.idiv, 1) := by decide +kernel
theorem dX8_believedBy_30 : decode cX8_believedBy 30 = .ok (.istore_n 2, 1) := by decide +kernel
theorem dX8_believedBy_31 : decode cX8_believedBy 31 = .ok (.iload_n 3, 1) := by decide +kernel
theorem dX8_believedBy_32 : decode cX8_believedBy 32 = .ok (.iload 6, 2) := by decide +kernel
theorem dX8_believedBy_34 : decode cX8_believedBy 34 = .ok (.invokestatic 151, 3) := by decide +kernel
theorem dX8_believedBy_37 : decode cX8_believedBy 37 = .ok (.ifCond .eq 5, 3) := by decide +kernel
theorem dX8_believedBy_40 : decode cX8_believedBy 40 = .ok (.iconst (-1), 1) := by decide +kernel
theorem dX8_believedBy_41 : decode cX8_believedBy 41 = .ok (.ireturn, 1) := by decide +kernel
theorem dX8_believedBy_42 : decode cX8_believedBy 42 = .ok (.iload_n 3, 1) := by decide +kernel
theorem dX8_believedBy_43 : decode cX8_believedBy 43 = .ok (.iconst 1, 1) := by decide +kernel
theorem dX8_believedBy_44 : decode cX8_believedBy 44 = .ok (.iload 6, 2) := by decide +kernel
theorem dX8_believedBy_46 : decode cX8_believedBy 46 = .ok (.ishl, 1) := by decide +kernel
theorem dX8_believedBy_47 : decode cX8_believedBy 47 = .ok (.ior, 1) := by decide +kernel
theorem dX8_believedBy_48 : decode cX8_believedBy 48 = .ok (.istore_n 3, 1) := by decide +kernel
theorem dX8_believedBy_49 : decode cX8_believedBy 49 = .ok (.iload 4, 2) := by decide +kernel
theorem dX8_believedBy_51 : decode cX8_believedBy 51 = .ok (.aload_n 0, 1) := by decide +kernel
theorem dX8_believedBy_52 : decode cX8_believedBy 52 = .ok (.getfield 7, 3) := by decide +kernel
theorem dX8_believedBy_55 : decode cX8_believedBy 55 = .ok (.iload 5, 2) := by decide +kernel
theorem dX8_believedBy_57 : decode cX8_believedBy 57 = .ok (.iload 6, 2) := by decide +kernel
theorem dX8_believedBy_59 : decode cX8_believedBy 59 = .ok (.invokestatic 107, 3) := by decide +kernel
theorem dX8_believedBy_62 : decode cX8_believedBy 62 = .ok (.iadd, 1) := by decide +kernel
theorem dX8_believedBy_63 : decode cX8_believedBy 63 = .ok (.istore 4, 2) := by decide +kernel
theorem dX8_believedBy_65 : decode cX8_believedBy 65 = .ok (.iinc 5 (-1), 3) := by decide +kernel
theorem dX8_believedBy_68 : decode cX8_believedBy 68 = .ok (.goto (-53), 3) := by decide +kernel
theorem dX8_believedBy_71 : decode cX8_believedBy 71 = .ok (.iload 4, 2) := by decide +kernel
theorem dX8_believedBy_73 : decode cX8_believedBy 73 = .ok (.ireturn, 1) := by decide +kernel
theorem dX8_pillows_0 : decode cX8_pillows 0 = .ok (.iload_n 1, 1) := by decide +kernel
theorem dX8_pillows_1 : decode cX8_pillows 1 = .ok (.i2l, 1) := by decide +kernel
theorem dX8_pillows_2 : decode cX8_pillows 2 = .ok (.lconst 0, 1) := by decide +kernel
theorem dX8_pillows_3 : decode cX8_pillows 3 = .ok (.lconst 1, 1) := by decide +kernel
theorem dX8_pillows_4 : decode cX8_pillows 4 = .ok (.invokestatic 59, 3) := by decide +kernel
theorem dX8_pillows_7 : decode cX8_pillows 7 = .ok (.ifCond .eq 16, 3) := by decide +kernel
theorem dX8_pillows_10 : decode cX8_pillows 10 = .ok (.iload_n 2, 1) := by decide +kernel
theorem dX8_pillows_11 : decode cX8_pillows 11 = .ok (.iconst (-1), 1) := by decide +kernel
theorem dX8_pillows_12 : decode cX8_pillows 12 = .ok (.if_icmp .eq 18, 3) := by decide +kernel
theorem dX8_pillows_15 : decode cX8_pillows 15 = .ok (.aload_n 0, 1) := by decide +kernel
theorem dX8_pillows_16 : decode cX8_pillows 16 = .ok (.iload_n 2, 1) := by decide +kernel
theorem dX8_pillows_17 : decode cX8_pillows 17 = .ok (.invokevirtual 132, 3) := by decide +kernel
theorem dX8_pillows_20 : decode cX8_pillows 20 = .ok (.ifCond .ne 10, 3) := by decide +kernel
theorem dX8_pillows_23 : decode cX8_pillows 23 = .ok (.aload_n 0, 1) := by decide +kernel
theorem dX8_pillows_24 : decode cX8_pillows 24 = .ok (.bipush (-10), 2) := by decide +kernel
theorem dX8_pillows_26 : decode cX8_pillows 26 = .ok (.invokevirtual 75, 3) := by decide +kernel
theorem dX8_pillows_29 : decode cX8_pillows 29 = .ok (.ireturn, 1) := by decide +kernel
theorem dX8_pillows_30 : decode cX8_pillows 30 = .ok (.iconst 1, 1) := by decide +kernel
theorem dX8_pillows_31 : decode cX8_pillows 31 = .ok (.istore_n 3, 1) := by decide +kernel
theorem dX8_pillows_32 : decode cX8_pillows 32 = .ok (.iconst (-1), 1) := by decide +kernel
theorem dX8_pillows_33 : decode cX8_pillows 33 = .ok (.istore 4, 2) := by decide +kernel
theorem dX8_pillows_35 : decode cX8_pillows 35 = .ok (.iconst 0, 1) := by decide +kernel
theorem dX8_pillows_36 : decode cX8_pillows 36 = .ok (.istore 5, 2) := by decide +kernel
theorem dX8_pillows_38 : decode cX8_pillows 38 = .ok (.iconst 0, 1) := by decide +kernel
theorem dX8_pillows_39 : decode cX8_pillows 39 = .ok (.istore 6, 2) := by decide +kernel
theorem dX8_pillows_41 : decode cX8_pillows 41 = .ok (.iload 6, 2) := by decide +kernel
theorem dX8_pillows_43 : decode cX8_pillows 43 = .ok (.aload_n 0, 1) := by decide +kernel
theorem dX8_pillows_44 : decode cX8_pillows 44 = .ok (.invokevirtual 55, 3) := by decide +kernel
theorem dX8_pillows_47 : decode cX8_pillows 47 = .ok (.if_icmp .ge 14, 3) := by decide +kernel
theorem dX8_pillows_50 : decode cX8_pillows 50 = .ok (.iload_n 3, 1) := by decide +kernel
theorem dX8_pillows_51 : decode cX8_pillows 51 = .ok (.bipush 6, 2) := by decide +kernel
theorem dX8_pillows_53 : decode cX8_pillows 53 = .ok (.imul, 1) := by decide +kernel
theorem dX8_pillows_54 : decode cX8_pillows 54 = .ok (.istore_n 3, 1) := by decide +kernel
theorem dX8_pillows_55 : decode cX8_pillows 55 = .ok (.iinc 6 1, 3) := by decide +kernel
theorem dX8_pillows_58 : decode cX8_pillows 58 = .ok (.goto (-17), 3) := by decide +kernel
theorem dX8_pillows_61 : decode cX8_pillows 61 = .ok (.iconst 0, 1) := by decide +kernel
theorem dX8_pillows_62 : decode cX8_pillows 62 = .ok (.istore 6, 2) := by decide +kernel
theorem dX8_pillows_64 : decode cX8_pillows 64 = .ok (.iload 6, 2) := by decide +kernel
theorem dX8_pillows_66 : decode cX8_pillows 66 = .ok (.iload_n 3, 1) := by decide +kernel
theorem dX8_pillows_67 : decode cX8_pillows 67 = .ok (.if_icmp .ge 86, 3) := by decide +kernel
theorem dX8_pillows_70 : decode cX8_pillows 70 = .ok (.aload_n 0, 1) := by decide +kernel
theorem dX8_pillows_71 : decode cX8_pillows 71 = .ok (.iload 6, 2) := by decide +kernel
theorem dX8_pillows_73 : decode cX8_pillows 73 = .ok (.invokevirtual 155, 3) := by decide +kernel
theorem dX8_pillows_76 : decode cX8_pillows 76 = .ok (.istore 7, 2) := by decide +kernel
theorem dX8_pillows_78 : decode cX8_pillows 78 = .ok (.iload 7, 2) := by decide +kernel
theorem dX8_pillows_80 : decode cX8_pillows 80 = .ok (.iconst (-1), 1) := by decide +kernel
theorem dX8_pillows_81 : decode cX8_pillows 81 = .ok (.if_icmp .eq 35, 3) := by decide +kernel
theorem dX8_pillows_84 : decode cX8_pillows 84 = .ok (.iload 4, 2) := by decide +kernel
theorem dX8_pillows_86 : decode cX8_pillows 86 = .ok (.iconst (-1), 1) := by decide +kernel
theorem dX8_pillows_87 : decode cX8_pillows 87 = .ok (.if_icmp .eq 25, 3) := by decide +kernel
theorem dX8_pillows_90 : decode cX8_pillows 90 = .ok (.iload_n 1, 1) := by decide +kernel
theorem dX8_pillows_91 : decode cX8_pillows 91 = .ok (.iconst 1, 1) := by decide +kernel
theorem dX8_pillows_92 : decode cX8_pillows 92 = .ok (.if_icmp .ne 13, 3) := by decide +kernel
theorem dX8_pillows_95 : decode cX8_pillows 95 = .ok (.iload 7, 2) := by decide +kernel
theorem dX8_pillows_97 : decode cX8_pillows 97 = .ok (.iload 4, 2) := by decide +kernel
theorem dX8_pillows_99 : decode cX8_pillows 99 = .ok (.if_icmp .le 17, 3) := by decide +kernel
theorem dX8_pillows_102 : decode cX8_pillows 102 = .ok (.goto 10, 3) := by decide +kernel
theorem dX8_pillows_105 : decode cX8_pillows 105 = .ok (.iload 7, 2) := by decide +kernel
theorem dX8_pillows_107 : decode cX8_pillows 107 = .ok (.iload 4, 2) := by decide +kernel
theorem dX8_pillows_109 : decode cX8_pillows 109 = .ok (.if_icmp .ge 7, 3) := by decide +kernel
theorem dX8_pillows_112 : decode cX8_pillows 112 = .ok (.iconst 1, 1) := by decide +kernel
theorem dX8_pillows_113 : decode cX8_pillows 113 = .ok (.goto 4, 3) := by decide +kernel
theorem dX8_pillows_116 : decode cX8_pillows 116 = .ok (.iconst 0, 1) := by decide +kernel
theorem dX8_pillows_117 : decode cX8_pillows 117 = .ok (.istore 8, 2) := by decide +kernel
theorem dX8_pillows_119 : decode cX8_pillows 119 = .ok (.iload 8, 2) := by decide +kernel
theorem dX8_pillows_121 : decode cX8_pillows 121 = .ok (.ifCond .eq 8, 3) := by decide +kernel
theorem dX8_pillows_124 : decode cX8_pillows 124 = .ok (.iload 7, 2) := by decide +kernel
theorem dX8_pillows_126 : decode cX8_pillows 126 = .ok (.goto 5, 3) := by decide +kernel
theorem dX8_pillows_129 : decode cX8_pillows 129 = .ok (.iload 4, 2) := by decide +kernel
theorem dX8_pillows_131 : decode cX8_pillows 131 = .ok (.istore 4, 2) := by decide +kernel
theorem dX8_pillows_133 : decode cX8_pillows 133 = .ok (.iload 8, 2) := by decide +kernel
theorem dX8_pillows_135 : decode cX8_pillows 135 = .ok (.ifCond .eq 8, 3) := by decide +kernel
theorem dX8_pillows_138 : decode cX8_pillows 138 = .ok (.iload 6, 2) := by decide +kernel
theorem dX8_pillows_140 : decode cX8_pillows 140 = .ok (.goto 5, 3) := by decide +kernel
theorem dX8_pillows_143 : decode cX8_pillows 143 = .ok (.iload 5, 2) := by decide +kernel
theorem dX8_pillows_145 : decode cX8_pillows 145 = .ok (.istore 5, 2) := by decide +kernel
theorem dX8_pillows_147 : decode cX8_pillows 147 = .ok (.iinc 6 1, 3) := by decide +kernel
theorem dX8_pillows_150 : decode cX8_pillows 150 = .ok (.goto (-86), 3) := by decide +kernel
theorem dX8_pillows_153 : decode cX8_pillows 153 = .ok (.aload_n 0, 1) := by decide +kernel
theorem dX8_pillows_154 : decode cX8_pillows 154 = .ok (.invokevirtual 55, 3) := by decide +kernel
theorem dX8_pillows_157 : decode cX8_pillows 157 = .ok (.iconst 1, 1) := by decide +kernel
theorem dX8_pillows_158 : decode cX8_pillows 158 = .ok (.isub, 1) := by decide +kernel
theorem dX8_pillows_159 : decode cX8_pillows 159 = .ok (.istore 6, 2) := by decide +kernel
theorem dX8_pillows_161 : decode cX8_pillows 161 = .ok (.iload 6, 2) := by decide +kernel
theorem dX8_pillows_163 : decode cX8_pillows 163 = .ok (.ifCond .lt 28, 3) := by decide +kernel
theorem dX8_pillows_166 : decode cX8_pillows 166 = .ok (.aload_n 0, 1) := by decide +kernel
theorem dX8_pillows_167 : decode cX8_pillows 167 = .ok (.getfield 30, 3) := by decide +kernel
theorem dX8_pillows_170 : decode cX8_pillows 170 = .ok (.iload 6, 2) := by decide +kernel
theorem dX8_pillows_172 : decode cX8_pillows 172 = .ok (.iload 5, 2) := by decide +kernel
theorem dX8_pillows_174 : decode cX8_pillows 174 = .ok (.bipush 6, 2) := by decide +kernel
theorem dX8_pillows_176 : decode cX8_pillows 176 = .ok (.irem, 1) := by decide +kernel
theorem dX8_pillows_177 : decode cX8_pillows 177 = .ok (.iastore, 1) := by decide +kernel
theorem dX8_pillows_178 : decode cX8_pillows 178 = .ok (.iload 5, 2) := by decide +kernel
theorem dX8_pillows_180 : decode cX8_pillows 180 = .ok (.bipush 6, 2) := by decide +kernel
theorem dX8_pillows_182 : decode cX8_pillows 182 = .ok (.idiv, 1) := by decide +kernel
theorem dX8_pillows_183 : decode cX8_pillows 183 = .ok (.istore 5, 2) := by decide +kernel
theorem dX8_pillows_185 : decode cX8_pillows 185 = .ok (.iinc 6 (-1), 3) := by decide +kernel
theorem dX8_pillows_188 : decode cX8_pillows 188 = .ok (.goto (-27), 3) := by decide +kernel
theorem dX8_pillows_191 : decode cX8_pillows 191 = .ok (.iload_n 2, 1) := by decide +kernel
theorem dX8_pillows_192 : decode cX8_pillows 192 = .ok (.iconst (-1), 1) := by decide +kernel
theorem dX8_pillows_193 : decode cX8_pillows 193 = .ok (.if_icmp .ne 8, 3) := by decide +kernel
theorem dX8_pillows_196 : decode cX8_pillows 196 = .ok (.iload 4, 2) := by decide +kernel
theorem dX8_pillows_198 : decode cX8_pillows 198 = .ok (.goto 9, 3) := by decide +kernel
theorem dX8_pillows_201 : decode cX8_pillows 201 = .ok (.aload_n 0, 1) := by decide +kernel
theorem dX8_pillows_202 : decode cX8_pillows 202 = .ok (.getfield 30, 3) := by decide +kernel
theorem dX8_pillows_205 : decode cX8_pillows 205 = .ok (.iload_n 2, 1) := by decide +kernel
theorem dX8_pillows_206 : decode cX8_pillows 206 = .ok (.iaload, 1) := by decide +kernel
theorem dX8_pillows_207 : decode cX8_pillows 207 = .ok (.ireturn, 1) := by decide +kernel
theorem dX8_least_0 : decode cX8_least 0 = .ok (.aload_n 0, 1) := by decide +kernel
theorem dX8_least_1 : decode cX8_least 1 = .ok (.iload_n 1, 1) := by decide +kernel
theorem dX8_least_2 : decode cX8_least 2 = .ok (.invokevirtual 132, 3) := by decide +kernel
theorem dX8_least_5 : decode cX8_least 5 = .ok (.ifCond .ne 10, 3) := by decide +kernel
theorem dX8_least_8 : decode cX8_least 8 = .ok (.aload_n 0, 1) := by decide +kernel
theorem dX8_least_9 : decode cX8_least 9 = .ok (.bipush (-2), 2) := by decide +kernel
theorem dX8_least_11 : decode cX8_least 11 = .ok (.invokevirtual 75, 3) := by decide +kernel
theorem dX8_least_14 : decode cX8_least 14 = .ok (.ireturn, 1) := by decide +kernel
theorem dX8_least_15 : decode cX8_least 15 = .ok (.aload_n 0, 1) := by decide +kernel
theorem dX8_least_16 : decode cX8_least 16 = .ok (.invokevirtual 145, 3) := by decide +kernel
theorem dX8_least_19 : decode cX8_least 19 = .ok (.iconst 0, 1) := by decide +kernel
theorem dX8_least_20 : decode cX8_least 20 = .ok (.istore_n 2, 1) := by decide +kernel
theorem dX8_least_21 : decode cX8_least 21 = .ok (.iload_n 2, 1) := by decide +kernel
theorem dX8_least_22 : decode cX8_least 22 = .ok (.bipush 10, 2) := by decide +kernel
theorem dX8_least_24 : decode cX8_least 24 = .ok (.if_icmp .ge 41, 3) := by decide +kernel
theorem dX8_least_27 : decode cX8_least 27 = .ok (.aload_n 0, 1) := by decide +kernel
theorem dX8_least_28 : decode cX8_least 28 = .ok (.getfield 27, 3) := by decide +kernel
theorem dX8_least_31 : decode cX8_least 31 = .ok (.bipush 12, 2) := by decide +kernel
theorem dX8_least_33 : decode cX8_least 33 = .ok (.iload_n 1, 1) := by decide +kernel
theorem dX8_least_34 : decode cX8_least 34 = .ok (.iadd, 1) := by decide +kernel
theorem dX8_least_35 : decode cX8_least 35 = .ok (.iload_n 2, 1) := by decide +kernel
theorem dX8_least_36 : decode cX8_least 36 = .ok (.iastore, 1) := by decide +kernel
theorem dX8_least_37 : decode cX8_least 37 = .ok (.aload_n 0, 1) := by decide +kernel
theorem dX8_least_38 : decode cX8_least 38 = .ok (.getfield 27, 3) := by decide +kernel
theorem dX8_least_41 : decode cX8_least 41 = .ok (.iload_n 1, 1) := by decide +kernel
theorem dX8_least_42 : decode cX8_least 42 = .ok (.aload_n 0, 1) := by decide +kernel
theorem dX8_least_43 : decode cX8_least 43 = .ok (.getfield 7, 3) := by decide +kernel
theorem dX8_least_46 : decode cX8_least 46 = .ok (.bipush 6, 2) := by decide +kernel
theorem dX8_least_48 : decode cX8_least 48 = .ok (.iload_n 1, 1) := by decide +kernel
theorem dX8_least_49 : decode cX8_least 49 = .ok (.iadd, 1) := by decide +kernel
theorem dX8_least_50 : decode cX8_least 50 = .ok (.iaload, 1) := by decide +kernel
theorem dX8_least_51 : decode cX8_least 51 = .ok (.invokestatic 107, 3) := by decide +kernel
theorem dX8_least_54 : decode cX8_least 54 = .ok (.ifCond .ne 5, 3) := by decide +kernel
theorem dX8_least_57 : decode cX8_least 57 = .ok (.iload_n 2, 1) := by decide +kernel
theorem dX8_least_58 : decode cX8_least 58 = .ok (.ireturn, 1) := by decide +kernel
theorem dX8_least_59 : decode cX8_least 59 = .ok (.iinc 2 1, 3) := by decide +kernel
theorem dX8_least_62 : decode cX8_least 62 = .ok (.goto (-41), 3) := by decide +kernel
theorem dX8_least_65 : decode cX8_least 65 = .ok (.iconst (-1), 1) := by decide +kernel
theorem dX8_least_66 : decode cX8_least 66 = .ok (.ireturn, 1) := by decide +kernel
theorem dX8_send_0 : decode cX8_send 0 = .ok (.aload_n 0, 1) := by decide +kernel
theorem dX8_send_1 : decode cX8_send 1 = .ok (.iload_n 1, 1) := by decide +kernel
theorem dX8_send_2 : decode cX8_send 2 = .ok (.invokevirtual 132, 3) := by decide +kernel
theorem dX8_send_5 : decode cX8_send 5 = .ok (.ifCond .eq 13, 3) := by decide +kernel
theorem dX8_send_8 : decode cX8_send 8 = .ok (.iload_n 2, 1) := by decide +kernel
theorem dX8_send_9 : decode cX8_send 9 = .ok (.i2l, 1) := by decide +kernel
theorem dX8_send_10 : decode cX8_send 10 = .ok (.lconst 0, 1) := by decide +kernel
theorem dX8_send_11 : decode cX8_send 11 = .ok (.lconst 1, 1) := by decide +kernel
theorem dX8_send_12 : decode cX8_send 12 = .ok (.invokestatic 59, 3) := by decide +kernel
theorem dX8_send_15 : decode cX8_send 15 = .ok (.ifCond .ne 10, 3) := by decide +kernel
theorem dX8_send_18 : decode cX8_send 18 = .ok (.aload_n 0, 1) := by decide +kernel
theorem dX8_send_19 : decode cX8_send 19 = .ok (.bipush (-2), 2) := by decide +kernel
theorem dX8_send_21 : decode cX8_send 21 = .ok (.invokevirtual 75, 3) := by decide +kernel
theorem dX8_send_24 : decode cX8_send 24 = .ok (.ireturn, 1) := by decide +kernel
theorem dX8_send_25 : decode cX8_send 25 = .ok (.iconst (-1), 1) := by decide +kernel
theorem dX8_send_26 : decode cX8_send 26 = .ok (.istore_n 3, 1) := by decide +kernel
theorem dX8_send_27 : decode cX8_send 27 = .ok (.ldc 158, 2) := by decide +kernel
theorem dX8_send_29 : decode cX8_send 29 = .ok (.istore 4, 2) := by decide +kernel
theorem dX8_send_31 : decode cX8_send 31 = .ok (.iconst 0, 1) := by decide +kernel
theorem dX8_send_32 : decode cX8_send 32 = .ok (.istore 5, 2) := by decide +kernel
theorem dX8_send_34 : decode cX8_send 34 = .ok (.iload 5, 2) := by decide +kernel
theorem dX8_send_36 : decode cX8_send 36 = .ok (.aload_n 0, 1) := by decide +kernel
theorem dX8_send_37 : decode cX8_send 37 = .ok (.getfield 7, 3) := by decide +kernel
theorem dX8_send_40 : decode cX8_send 40 = .ok (.iconst 1, 1) := by decide +kernel
theorem dX8_send_41 : decode cX8_send 41 = .ok (.iaload, 1) := by decide +kernel
theorem dX8_send_42 : decode cX8_send 42 = .ok (.if_icmp .ge 85, 3) := by decide +kernel
theorem dX8_send_45 : decode cX8_send 45 = .ok (.aload_n 0, 1) := by decide +kernel
theorem dX8_send_46 : decode cX8_send 46 = .ok (.invokevirtual 145, 3) := by decide +kernel
theorem dX8_send_49 : decode cX8_send 49 = .ok (.aload_n 0, 1) := by decide +kernel
theorem dX8_send_50 : decode cX8_send 50 = .ok (.getfield 27, 3) := by decide +kernel
theorem dX8_send_53 : decode cX8_send 53 = .ok (.bipush 24, 2) := by decide +kernel
theorem dX8_send_55 : decode cX8_send 55 = .ok (.iload 5, 2) := by decide +kernel
theorem dX8_send_57 : decode cX8_send 57 = .ok (.iadd, 1) := by decide +kernel
theorem dX8_send_58 : decode cX8_send 58 = .ok (.aload_n 0, 1) := by decide +kernel
theorem dX8_send_59 : decode cX8_send 59 = .ok (.getfield 7, 3) := by decide +kernel
theorem dX8_send_62 : decode cX8_send 62 = .ok (.bipush 6, 2) := by decide +kernel
theorem dX8_send_64 : decode cX8_send 64 = .ok (.iload_n 1, 1) := by decide +kernel
theorem dX8_send_65 : decode cX8_send 65 = .ok (.iadd, 1) := by decide +kernel
theorem dX8_send_66 : decode cX8_send 66 = .ok (.iaload, 1) := by decide +kernel
theorem dX8_send_67 : decode cX8_send 67 = .ok (.iastore, 1) := by decide +kernel
theorem dX8_send_68 : decode cX8_send 68 = .ok (.aload_n 0, 1) := by decide +kernel
theorem dX8_send_69 : decode cX8_send 69 = .ok (.iload_n 1, 1) := by decide +kernel
theorem dX8_send_70 : decode cX8_send 70 = .ok (.invokevirtual 148, 3) := by decide +kernel
theorem dX8_send_73 : decode cX8_send 73 = .ok (.istore 6, 2) := by decide +kernel
theorem dX8_send_75 : decode cX8_send 75 = .ok (.iload 6, 2) := by decide +kernel
theorem dX8_send_77 : decode cX8_send 77 = .ok (.iconst (-1), 1) := by decide +kernel
theorem dX8_send_78 : decode cX8_send 78 = .ok (.if_icmp .eq 14, 3) := by decide +kernel
theorem dX8_send_81 : decode cX8_send 81 = .ok (.iload 6, 2) := by decide +kernel
theorem dX8_send_83 : decode cX8_send 83 = .ok (.iload 4, 2) := by decide +kernel
theorem dX8_send_85 : decode cX8_send 85 = .ok (.if_icmp .ge 7, 3) := by decide +kernel
theorem dX8_send_88 : decode cX8_send 88 = .ok (.iconst 1, 1) := by decide +kernel
theorem dX8_send_89 : decode cX8_send 89 = .ok (.goto 4, 3) := by decide +kernel
theorem dX8_send_92 : decode cX8_send 92 = .ok (.iconst 0, 1) := by decide +kernel
theorem dX8_send_93 : decode cX8_send 93 = .ok (.istore 7, 2) := by decide +kernel
theorem dX8_send_95 : decode cX8_send 95 = .ok (.iload 7, 2) := by decide +kernel
theorem dX8_send_97 : decode cX8_send 97 = .ok (.ifCond .eq 8, 3) := by decide +kernel
theorem dX8_send_100 : decode cX8_send 100 = .ok (.iload 5, 2) := by decide +kernel
theorem dX8_send_102 : decode cX8_send 102 = .ok (.goto 4, 3) := by decide +kernel
theorem dX8_send_105 : decode cX8_send 105 = .ok (.iload_n 3, 1) := by decide +kernel
theorem dX8_send_106 : decode cX8_send 106 = .ok (.istore_n 3, 1) := by decide +kernel
theorem dX8_send_107 : decode cX8_send 107 = .ok (.iload 7, 2) := by decide +kernel
theorem dX8_send_109 : decode cX8_send 109 = .ok (.ifCond .eq 8, 3) := by decide +kernel
theorem dX8_send_112 : decode cX8_send 112 = .ok (.iload 6, 2) := by decide +kernel
theorem dX8_send_114 : decode cX8_send 114 = .ok (.goto 5, 3) := by decide +kernel
theorem dX8_send_117 : decode cX8_send 117 = .ok (.iload 4, 2) := by decide +kernel
theorem dX8_send_119 : decode cX8_send 119 = .ok (.istore 4, 2) := by decide +kernel
theorem dX8_send_121 : decode cX8_send 121 = .ok (.iinc 5 1, 3) := by decide +kernel
theorem dX8_send_124 : decode cX8_send 124 = .ok (.goto (-90), 3) := by decide +kernel
theorem dX8_send_127 : decode cX8_send 127 = .ok (.iload_n 3, 1) := by decide +kernel
theorem dX8_send_128 : decode cX8_send 128 = .ok (.iconst (-1), 1) := by decide +kernel
theorem dX8_send_129 : decode cX8_send 129 = .ok (.if_icmp .ne 7, 3) := by decide +kernel
theorem dX8_send_132 : decode cX8_send 132 = .ok (.iconst (-1), 1) := by decide +kernel
theorem dX8_send_133 : decode cX8_send 133 = .ok (.goto 13, 3) := by decide +kernel
theorem dX8_send_136 : decode cX8_send 136 = .ok (.iload_n 2, 1) := by decide +kernel
theorem dX8_send_137 : decode cX8_send 137 = .ok (.ifCond .ne 8, 3) := by decide +kernel
theorem dX8_send_140 : decode cX8_send 140 = .ok (.iload 4, 2) := by decide +kernel
theorem dX8_send_142 : decode cX8_send 142 = .ok (.goto 4, 3) := by decide +kernel
theorem dX8_send_145 : decode cX8_send 145 = .ok (.iload_n 3, 1) := by decide +kernel
theorem dX8_send_146 : decode cX8_send 146 = .ok (.ireturn, 1) := by decide +kernel
theorem dX8_rose_0 : decode cX8_rose 0 = .ok (.aload_n 0, 1) := by decide +kernel
theorem dX8_rose_1 : decode cX8_rose 1 = .ok (.iload_n 1, 1) := by decide +kernel
theorem dX8_rose_2 : decode cX8_rose 2 = .ok (.invokevirtual 132, 3) := by decide +kernel
theorem dX8_rose_5 : decode cX8_rose 5 = .ok (.ifCond .eq 27, 3) := by decide +kernel
theorem dX8_rose_8 : decode cX8_rose 8 = .ok (.iload_n 2, 1) := by decide +kernel
theorem dX8_rose_9 : decode cX8_rose 9 = .ok (.i2l, 1) := by decide +kernel
theorem dX8_rose_10 : decode cX8_rose 10 = .ok (.lconst 0, 1) := by decide +kernel
theorem dX8_rose_11 : decode cX8_rose 11 = .ok (.ldc2_w 159, 3) := by decide +kernel
theorem dX8_rose_14 : decode cX8_rose 14 = .ok (.invokestatic 59, 3) := by decide +kernel
theorem dX8_rose_17 : decode cX8_rose 17 = .ok (.ifCond .eq 15, 3) := by decide +kernel
theorem dX8_rose_20 : decode cX8_rose 20 = .ok (.iload_n 3, 1) := by decide +kernel
theorem dX8_rose_21 : decode cX8_rose 21 = .ok (.i2l, 1) := by decide +kernel
theorem dX8_rose_22 : decode cX8_rose 22 = .ok (.lconst 0, 1) := by decide +kernel
theorem dX8_rose_23 : decode cX8_rose 23 = .ok (.ldc2_w 161, 3) := by decide +kernel
theorem dX8_rose_26 : decode cX8_rose 26 = .ok (.invokestatic 59, 3) := by decide +kernel
theorem dX8_rose_29 : decode cX8_rose 29 = .ok (.ifCond .ne 10, 3) := by decide +kernel
theorem dX8_rose_32 : decode cX8_rose 32 = .ok (.aload_n 0, 1) := by decide +kernel
theorem dX8_rose_33 : decode cX8_rose 33 = .ok (.bipush (-2), 2) := by decide +kernel
theorem dX8_rose_35 : decode cX8_rose 35 = .ok (.invokevirtual 75, 3) := by decide +kernel
theorem dX8_rose_38 : decode cX8_rose 38 = .ok (.ireturn, 1) := by decide +kernel
theorem dX8_rose_39 : decode cX8_rose 39 = .ok (.aload_n 0, 1) := by decide +kernel
theorem dX8_rose_40 : decode cX8_rose 40 = .ok (.getfield 7, 3) := by decide +kernel
theorem dX8_rose_43 : decode cX8_rose 43 = .ok (.iconst 2, 1) := by decide +kernel
theorem dX8_rose_44 : decode cX8_rose 44 = .ok (.iaload, 1) := by decide +kernel
theorem dX8_rose_45 : decode cX8_rose 45 = .ok (.iconst 5, 1) := by decide +kernel
theorem dX8_rose_46 : decode cX8_rose 46 = .ok (.if_icmp .ne 8, 3) := by decide +kernel
theorem dX8_rose_49 : decode cX8_rose 49 = .ok (.aload_n 0, 1) := by decide +kernel
theorem dX8_rose_50 : decode cX8_rose 50 = .ok (.invokevirtual 79, 3) := by decide +kernel
theorem dX8_rose_53 : decode cX8_rose 53 = .ok (.ireturn, 1) := by decide +kernel
theorem dX8_rose_54 : decode cX8_rose 54 = .ok (.bipush 49, 2) := by decide +kernel
theorem dX8_rose_56 : decode cX8_rose 56 = .ok (.iconst 3, 1) := by decide +kernel
theorem dX8_rose_57 : decode cX8_rose 57 = .ok (.aload_n 0, 1) := by decide +kernel
theorem dX8_rose_58 : decode cX8_rose 58 = .ok (.getfield 7, 3) := by decide +kernel
theorem dX8_rose_61 : decode cX8_rose 61 = .ok (.iconst 2, 1) := by decide +kernel
theorem dX8_rose_62 : decode cX8_rose 62 = .ok (.iaload, 1) := by decide +kernel
theorem dX8_rose_63 : decode cX8_rose 63 = .ok (.imul, 1) := by decide +kernel
theorem dX8_rose_64 : decode cX8_rose 64 = .ok (.iadd, 1) := by decide +kernel
theorem dX8_rose_65 : decode cX8_rose 65 = .ok (.istore 4, 2) := by decide +kernel
theorem dX8_rose_67 : decode cX8_rose 67 = .ok (.aload_n 0, 1) := by decide +kernel
theorem dX8_rose_68 : decode cX8_rose 68 = .ok (.getfield 7, 3) := by decide +kernel
theorem dX8_rose_71 : decode cX8_rose 71 = .ok (.iload 4, 2) := by decide +kernel
theorem dX8_rose_73 : decode cX8_rose 73 = .ok (.iload_n 1, 1) := by decide +kernel
theorem dX8_rose_74 : decode cX8_rose 74 = .ok (.iastore, 1) := by decide +kernel
theorem dX8_rose_75 : decode cX8_rose 75 = .ok (.aload_n 0, 1) := by decide +kernel
theorem dX8_rose_76 : decode cX8_rose 76 = .ok (.getfield 7, 3) := by decide +kernel
theorem dX8_rose_79 : decode cX8_rose 79 = .ok (.iload 4, 2) := by decide +kernel
theorem dX8_rose_81 : decode cX8_rose 81 = .ok (.iconst 1, 1) := by decide +kernel
theorem dX8_rose_82 : decode cX8_rose 82 = .ok (.iadd, 1) := by decide +kernel
theorem dX8_rose_83 : decode cX8_rose 83 = .ok (.iload_n 2, 1) := by decide +kernel
theorem dX8_rose_84 : decode cX8_rose 84 = .ok (.iastore, 1) := by decide +kernel
theorem dX8_rose_85 : decode cX8_rose 85 = .ok (.aload_n 0, 1) := by decide +kernel
theorem dX8_rose_86 : decode cX8_rose 86 = .ok (.getfield 7, 3) := by decide +kernel
theorem dX8_rose_89 : decode cX8_rose 89 = .ok (.iload 4, 2) := by decide +kernel
theorem dX8_rose_91 : decode cX8_rose 91 = .ok (.iconst 2, 1) := by decide +kernel
theorem dX8_rose_92 : decode cX8_rose 92 = .ok (.iadd, 1) := by decide +kernel
theorem dX8_rose_93 : decode cX8_rose 93 = .ok (.iload_n 3, 1) := by decide +kernel
theorem dX8_rose_94 : decode cX8_rose 94 = .ok (.iastore, 1) := by decide +kernel
theorem dX8_rose_95 : decode cX8_rose 95 = .ok (.aload_n 0, 1) := by decide +kernel
theorem dX8_rose_96 : decode cX8_rose 96 = .ok (.getfield 7, 3) := by decide +kernel
theorem dX8_rose_99 : decode cX8_rose 99 = .ok (.iconst 2, 1) := by decide +kernel
theorem dX8_rose_100 : decode cX8_rose 100 = .ok (.dup2, 1) := by decide +kernel
theorem dX8_rose_101 : decode cX8_rose 101 = .ok (.iaload, 1) := by decide +kernel
theorem dX8_rose_102 : decode cX8_rose 102 = .ok (.iconst 1, 1) := by decide +kernel
theorem dX8_rose_103 : decode cX8_rose 103 = .ok (.iadd, 1) := by decide +kernel
theorem dX8_rose_104 : decode cX8_rose 104 = .ok (.iastore, 1) := by decide +kernel
theorem dX8_rose_105 : decode cX8_rose 105 = .ok (.aload_n 0, 1) := by decide +kernel
theorem dX8_rose_106 : decode cX8_rose 106 = .ok (.getfield 7, 3) := by decide +kernel
theorem dX8_rose_109 : decode cX8_rose 109 = .ok (.iconst 2, 1) := by decide +kernel
theorem dX8_rose_110 : decode cX8_rose 110 = .ok (.iaload, 1) := by decide +kernel
theorem dX8_rose_111 : decode cX8_rose 111 = .ok (.ireturn, 1) := by decide +kernel
theorem dX8_believedOf_0 : decode cX8_believedOf 0 = .ok (.iconst 0, 1) := by decide +kernel
theorem dX8_believedOf_1 : decode cX8_believedOf 1 = .ok (.istore 4, 2) := by decide +kernel
theorem dX8_believedOf_3 : decode cX8_believedOf 3 = .ok (.iconst 0, 1) := by decide +kernel
theorem dX8_believedOf_4 : decode cX8_believedOf 4 = .ok (.istore 5, 2) := by decide +kernel
theorem dX8_believedOf_6 : decode cX8_believedOf 6 = .ok (.iload 5, 2) := by decide +kernel
theorem dX8_believedOf_8 : decode cX8_believedOf 8 = .ok (.aload_n 0, 1) := by decide +kernel
theorem dX8_believedOf_9 : decode cX8_believedOf 9 = .ok (.getfield 7, 3) := by decide +kernel
theorem dX8_believedOf_12 : decode cX8_believedOf 12 = .ok (.iconst 1, 1) := by decide +kernel
theorem dX8_believedOf_13 : decode cX8_believedOf 13 = .ok (.iaload, 1) := by decide +kernel
theorem dX8_believedOf_14 : decode cX8_believedOf 14 = .ok (.if_icmp .ge 72, 3) := by decide +kernel
theorem dX8_believedOf_17 : decode cX8_believedOf 17 = .ok (.iload 4, 2) := by decide +kernel
theorem dX8_believedOf_19 : decode cX8_believedOf 19 = .ok (.iload_n 2, 1) := by decide +kernel
theorem dX8_believedOf_20 : decode cX8_believedOf 20 = .ok (.iload 5, 2) := by decide +kernel
theorem dX8_believedOf_22 : decode cX8_believedOf 22 = .ok (.invokestatic 151, 3) := by decide +kernel
theorem dX8_believedOf_25 : decode cX8_believedOf 25 = .ok (.ifCond .eq 51, 3) := by decide +kernel
theorem dX8_believedOf_28 : decode cX8_believedOf 28 = .ok (.aload_n 0, 1) := by decide +kernel
theorem dX8_believedOf_29 : decode cX8_believedOf 29 = .ok (.getfield 7, 3) := by decide +kernel
theorem dX8_believedOf_32 : decode cX8_believedOf 32 = .ok (.bipush 31, 2) := by decide +kernel
theorem dX8_believedOf_34 : decode cX8_believedOf 34 = .ok (.iload_n 1, 1) := by decide +kernel
theorem dX8_believedOf_35 : decode cX8_believedOf 35 = .ok (.iadd, 1) := by decide +kernel
theorem dX8_believedOf_36 : decode cX8_believedOf 36 = .ok (.iaload, 1) := by decide +kernel
theorem dX8_believedOf_37 : decode cX8_believedOf 37 = .ok (.aload_n 0, 1) := by decide +kernel
theorem dX8_believedOf_38 : decode cX8_believedOf 38 = .ok (.getfield 7, 3) := by decide +kernel
theorem dX8_believedOf_41 : decode cX8_believedOf 41 = .ok (.bipush 37, 2) := by decide +kernel
theorem dX8_believedOf_43 : decode cX8_believedOf 43 = .ok (.iload 5, 2) := by decide +kernel
theorem dX8_believedOf_45 : decode cX8_believedOf 45 = .ok (.iadd, 1) := by decide +kernel
theorem dX8_believedOf_46 : decode cX8_believedOf 46 = .ok (.iaload, 1) := by decide +kernel
theorem dX8_believedOf_47 : decode cX8_believedOf 47 = .ok (.aload_n 0, 1) := by decide +kernel
theorem dX8_believedOf_48 : decode cX8_believedOf 48 = .ok (.getfield 7, 3) := by decide +kernel
theorem dX8_believedOf_51 : decode cX8_believedOf 51 = .ok (.bipush 43, 2) := by decide +kernel
theorem dX8_believedOf_53 : decode cX8_believedOf 53 = .ok (.iload 5, 2) := by decide +kernel
theorem dX8_believedOf_55 : decode cX8_believedOf 55 = .ok (.iadd, 1) := by decide +kernel
theorem dX8_believedOf_56 : decode cX8_believedOf 56 = .ok (.iaload, 1) := by decide +kernel
theorem dX8_believedOf_57 : decode cX8_believedOf 57 = .ok (.iload_n 3, 1) := by decide +kernel
theorem dX8_believedOf_58 : decode cX8_believedOf 58 = .ok (.invokestatic 96, 3) := by decide +kernel
theorem dX8_believedOf_61 : decode cX8_believedOf 61 = .ok (.aload_n 0, 1) := by decide +kernel
theorem dX8_believedOf_62 : decode cX8_believedOf 62 = .ok (.getfield 7, 3) := by decide +kernel
theorem dX8_believedOf_65 : decode cX8_believedOf 65 = .ok (.bipush 12, 2) := by decide +kernel
theorem dX8_believedOf_67 : decode cX8_believedOf 67 = .ok (.iload_n 1, 1) := by decide +kernel
theorem dX8_believedOf_68 : decode cX8_believedOf 68 = .ok (.iadd, 1) := by decide +kernel
theorem dX8_believedOf_69 : decode cX8_believedOf 69 = .ok (.iaload, 1) := by decide +kernel
theorem dX8_believedOf_70 : decode cX8_believedOf 70 = .ok (.invokestatic 100, 3) := by decide +kernel
theorem dX8_believedOf_73 : decode cX8_believedOf 73 = .ok (.goto 4, 3) := by decide +kernel
theorem dX8_believedOf_76 : decode cX8_believedOf 76 = .ok (.iconst 0, 1) := by decide +kernel
theorem dX8_believedOf_77 : decode cX8_believedOf 77 = .ok (.iadd, 1) := by decide +kernel
theorem dX8_believedOf_78 : decode cX8_believedOf 78 = .ok (.istore 4, 2) := by decide +kernel
theorem dX8_believedOf_80 : decode cX8_believedOf 80 = .ok (.iinc 5 1, 3) := by decide +kernel
theorem dX8_believedOf_83 : decode cX8_believedOf 83 = .ok (.goto (-77), 3) := by decide +kernel
theorem dX8_believedOf_86 : decode cX8_believedOf 86 = .ok (.iload 4, 2) := by decide +kernel
theorem dX8_believedOf_88 : decode cX8_believedOf 88 = .ok (.ireturn, 1) := by decide +kernel
theorem dX8_isSentSo_0 : decode cX8_isSentSo 0 = .ok (.iconst 1, 1) := by decide +kernel
theorem dX8_isSentSo_1 : decode cX8_isSentSo 1 = .ok (.istore_n 3, 1) := by decide +kernel
theorem dX8_isSentSo_2 : decode cX8_isSentSo 2 = .ok (.iconst 0, 1) := by decide +kernel
theorem dX8_isSentSo_3 : decode cX8_isSentSo 3 = .ok (.istore 4, 2) := by decide +kernel
theorem dX8_isSentSo_5 : decode cX8_isSentSo 5 = .ok (.iload 4, 2) := by decide +kernel
theorem dX8_isSentSo_7 : decode cX8_isSentSo 7 = .ok (.aload_n 0, 1) := by decide +kernel
theorem dX8_isSentSo_8 : decode cX8_isSentSo 8 = .ok (.getfield 7, 3) := by decide +kernel
theorem dX8_isSentSo_11 : decode cX8_isSentSo 11 = .ok (.iconst 2, 1) := by decide +kernel
theorem dX8_isSentSo_12 : decode cX8_isSentSo 12 = .ok (.iaload, 1) := by decide +kernel
theorem dX8_isSentSo_13 : decode cX8_isSentSo 13 = .ok (.if_icmp .ge 66, 3) := by decide +kernel
theorem dX8_isSentSo_16 : decode cX8_isSentSo 16 = .ok (.bipush 49, 2) := by decide +kernel
theorem dX8_isSentSo_18 : decode cX8_isSentSo 18 = .ok (.iconst 3, 1) := by decide +kernel
theorem dX8_isSentSo_19 : decode cX8_isSentSo 19 = .ok (.iload 4, 2) := by decide +kernel
theorem dX8_isSentSo_21 : decode cX8_isSentSo 21 = .ok (.imul, 1) := by decide +kernel
theorem dX8_isSentSo_22 : decode cX8_isSentSo 22 = .ok (.iadd, 1) := by decide +kernel
theorem dX8_isSentSo_23 : decode cX8_isSentSo 23 = .ok (.istore 5, 2) := by decide +kernel
theorem dX8_isSentSo_25 : decode cX8_isSentSo 25 = .ok (.iload_n 3, 1) := by decide +kernel
theorem dX8_isSentSo_26 : decode cX8_isSentSo 26 = .ok (.ifCond .eq 45, 3) := by decide +kernel
theorem dX8_isSentSo_29 : decode cX8_isSentSo 29 = .ok (.aload_n 0, 1) := by decide +kernel
theorem dX8_isSentSo_30 : decode cX8_isSentSo 30 = .ok (.getfield 7, 3) := by decide +kernel
theorem dX8_isSentSo_33 : decode cX8_isSentSo 33 = .ok (.iload 5, 2) := by decide +kernel
theorem dX8_isSentSo_35 : decode cX8_isSentSo 35 = .ok (.iaload, 1) := by decide +kernel
theorem dX8_isSentSo_36 : decode cX8_isSentSo 36 = .ok (.iload_n 1, 1) := by decide +kernel
theorem dX8_isSentSo_37 : decode cX8_isSentSo 37 = .ok (.if_icmp .ne 30, 3) := by decide +kernel
theorem dX8_isSentSo_40 : decode cX8_isSentSo 40 = .ok (.aload_n 0, 1) := by decide +kernel
theorem dX8_isSentSo_41 : decode cX8_isSentSo 41 = .ok (.iload_n 1, 1) := by decide +kernel
theorem dX8_isSentSo_42 : decode cX8_isSentSo 42 = .ok (.iload_n 2, 1) := by decide +kernel
theorem dX8_isSentSo_43 : decode cX8_isSentSo 43 = .ok (.aload_n 0, 1) := by decide +kernel
theorem dX8_isSentSo_44 : decode cX8_isSentSo 44 = .ok (.getfield 7, 3) := by decide +kernel
theorem dX8_isSentSo_47 : decode cX8_isSentSo 47 = .ok (.iload 5, 2) := by decide +kernel
theorem dX8_isSentSo_49 : decode cX8_isSentSo 49 = .ok (.iconst 1, 1) := by decide +kernel
theorem dX8_isSentSo_50 : decode cX8_isSentSo 50 = .ok (.iadd, 1) := by decide +kernel
theorem dX8_isSentSo_51 : decode cX8_isSentSo 51 = .ok (.iaload, 1) := by decide +kernel
theorem dX8_isSentSo_52 : decode cX8_isSentSo 52 = .ok (.invokevirtual 163, 3) := by decide +kernel
theorem dX8_isSentSo_55 : decode cX8_isSentSo 55 = .ok (.aload_n 0, 1) := by decide +kernel
theorem dX8_isSentSo_56 : decode cX8_isSentSo 56 = .ok (.getfield 7, 3) := by decide +kernel
theorem dX8_isSentSo_59 : decode cX8_isSentSo 59 = .ok (.iload 5, 2) := by decide +kernel
theorem dX8_isSentSo_61 : decode cX8_isSentSo 61 = .ok (.iconst 2, 1) := by decide +kernel
theorem dX8_isSentSo_62 : decode cX8_isSentSo 62 = .ok (.iadd, 1) := by decide +kernel
theorem dX8_isSentSo_63 : decode cX8_isSentSo 63 = .ok (.iaload, 1) := by decide +kernel
theorem dX8_isSentSo_64 : decode cX8_isSentSo 64 = .ok (.if_icmp .ne 7, 3) := by decide +kernel
theorem dX8_isSentSo_67 : decode cX8_isSentSo 67 = .ok (.iconst 1, 1) := by decide +kernel
theorem dX8_isSentSo_68 : decode cX8_isSentSo 68 = .ok (.goto 4, 3) := by decide +kernel
theorem dX8_isSentSo_71 : decode cX8_isSentSo 71 = .ok (.iconst 0, 1) := by decide +kernel
theorem dX8_isSentSo_72 : decode cX8_isSentSo 72 = .ok (.istore_n 3, 1) := by decide +kernel
theorem dX8_isSentSo_73 : decode cX8_isSentSo 73 = .ok (.iinc 4 1, 3) := by decide +kernel
theorem dX8_isSentSo_76 : decode cX8_isSentSo 76 = .ok (.goto (-71), 3) := by decide +kernel
theorem dX8_isSentSo_79 : decode cX8_isSentSo 79 = .ok (.iload_n 3, 1) := by decide +kernel
theorem dX8_isSentSo_80 : decode cX8_isSentSo 80 = .ok (.ireturn, 1) := by decide +kernel
theorem dX8_sent_0 : decode cX8_sent 0 = .ok (.aload_n 0, 1) := by decide +kernel
theorem dX8_sent_1 : decode cX8_sent 1 = .ok (.iload_n 1, 1) := by decide +kernel
theorem dX8_sent_2 : decode cX8_sent 2 = .ok (.invokevirtual 132, 3) := by decide +kernel
theorem dX8_sent_5 : decode cX8_sent 5 = .ok (.ifCond .eq 15, 3) := by decide +kernel
theorem dX8_sent_8 : decode cX8_sent 8 = .ok (.iload_n 2, 1) := by decide +kernel
theorem dX8_sent_9 : decode cX8_sent 9 = .ok (.i2l, 1) := by decide +kernel
theorem dX8_sent_10 : decode cX8_sent 10 = .ok (.lconst 0, 1) := by decide +kernel
theorem dX8_sent_11 : decode cX8_sent 11 = .ok (.ldc2_w 166, 3) := by decide +kernel
theorem dX8_sent_14 : decode cX8_sent 14 = .ok (.invokestatic 59, 3) := by decide +kernel
theorem dX8_sent_17 : decode cX8_sent 17 = .ok (.ifCond .ne 10, 3) := by decide +kernel
theorem dX8_sent_20 : decode cX8_sent 20 = .ok (.aload_n 0, 1) := by decide +kernel
theorem dX8_sent_21 : decode cX8_sent 21 = .ok (.bipush (-2), 2) := by decide +kernel
theorem dX8_sent_23 : decode cX8_sent 23 = .ok (.invokevirtual 75, 3) := by decide +kernel
theorem dX8_sent_26 : decode cX8_sent 26 = .ok (.ireturn, 1) := by decide +kernel
theorem dX8_sent_27 : decode cX8_sent 27 = .ok (.iconst 0, 1) := by decide +kernel
theorem dX8_sent_28 : decode cX8_sent 28 = .ok (.istore_n 3, 1) := by decide +kernel
theorem dX8_sent_29 : decode cX8_sent 29 = .ok (.iconst 1, 1) := by decide +kernel
theorem dX8_sent_30 : decode cX8_sent 30 = .ok (.aload_n 0, 1) := by decide +kernel
theorem dX8_sent_31 : decode cX8_sent 31 = .ok (.getfield 7, 3) := by decide +kernel
theorem dX8_sent_34 : decode cX8_sent 34 = .ok (.iconst 1, 1) := by decide +kernel
theorem dX8_sent_35 : decode cX8_sent 35 = .ok (.iaload, 1) := by decide +kernel
theorem dX8_sent_36 : decode cX8_sent 36 = .ok (.ishl, 1) := by decide +kernel
theorem dX8_sent_37 : decode cX8_sent 37 = .ok (.iconst 1, 1) := by decide +kernel
theorem dX8_sent_38 : decode cX8_sent 38 = .ok (.isub, 1) := by decide +kernel
theorem dX8_sent_39 : decode cX8_sent 39 = .ok (.istore 4, 2) := by decide +kernel
theorem dX8_sent_41 : decode cX8_sent 41 = .ok (.iconst 0, 1) := by decide +kernel
theorem dX8_sent_42 : decode cX8_sent 42 = .ok (.istore 5, 2) := by decide +kernel
theorem dX8_sent_44 : decode cX8_sent 44 = .ok (.iconst 0, 1) := by decide +kernel
theorem dX8_sent_45 : decode cX8_sent 45 = .ok (.istore 6, 2) := by decide +kernel
theorem dX8_sent_47 : decode cX8_sent 47 = .ok (.iload 6, 2) := by decide +kernel
theorem dX8_sent_49 : decode cX8_sent 49 = .ok (.iconst 1, 1) := by decide +kernel
theorem dX8_sent_50 : decode cX8_sent 50 = .ok (.aload_n 0, 1) := by decide +kernel
theorem dX8_sent_51 : decode cX8_sent 51 = .ok (.getfield 7, 3) := by decide +kernel
theorem dX8_sent_54 : decode cX8_sent 54 = .ok (.iconst 1, 1) := by decide +kernel
theorem dX8_sent_55 : decode cX8_sent 55 = .ok (.iaload, 1) := by decide +kernel
theorem dX8_sent_56 : decode cX8_sent 56 = .ok (.ishl, 1) := by decide +kernel
theorem dX8_sent_57 : decode cX8_sent 57 = .ok (.if_icmp .ge 64, 3) := by decide +kernel
theorem dX8_sent_60 : decode cX8_sent 60 = .ok (.aload_n 0, 1) := by decide +kernel
theorem dX8_sent_61 : decode cX8_sent 61 = .ok (.iload_n 1, 1) := by decide +kernel
theorem dX8_sent_62 : decode cX8_sent 62 = .ok (.iload 6, 2) := by decide +kernel
theorem dX8_sent_64 : decode cX8_sent 64 = .ok (.invokevirtual 168, 3) := by decide +kernel
theorem dX8_sent_67 : decode cX8_sent 67 = .ok (.istore 7, 2) := by decide +kernel
theorem dX8_sent_69 : decode cX8_sent 69 = .ok (.iload_n 3, 1) := by decide +kernel
theorem dX8_sent_70 : decode cX8_sent 70 = .ok (.iload 7, 2) := by decide +kernel
theorem dX8_sent_72 : decode cX8_sent 72 = .ok (.ifCond .eq 7, 3) := by decide +kernel
theorem dX8_sent_75 : decode cX8_sent 75 = .ok (.iconst 1, 1) := by decide +kernel
theorem dX8_sent_76 : decode cX8_sent 76 = .ok (.goto 4, 3) := by decide +kernel
theorem dX8_sent_79 : decode cX8_sent 79 = .ok (.iconst 0, 1) := by decide +kernel
theorem dX8_sent_80 : decode cX8_sent 80 = .ok (.iadd, 1) := by decide +kernel
theorem dX8_sent_81 : decode cX8_sent 81 = .ok (.istore_n 3, 1) := by decide +kernel
theorem dX8_sent_82 : decode cX8_sent 82 = .ok (.iload 4, 2) := by decide +kernel
theorem dX8_sent_84 : decode cX8_sent 84 = .ok (.iload 7, 2) := by decide +kernel
theorem dX8_sent_86 : decode cX8_sent 86 = .ok (.ifCond .eq 8, 3) := by decide +kernel
theorem dX8_sent_89 : decode cX8_sent 89 = .ok (.iload 6, 2) := by decide +kernel
theorem dX8_sent_91 : decode cX8_sent 91 = .ok (.goto 5, 3) := by decide +kernel
theorem dX8_sent_94 : decode cX8_sent 94 = .ok (.iload 4, 2) := by decide +kernel
theorem dX8_sent_96 : decode cX8_sent 96 = .ok (.iand, 1) := by decide +kernel
theorem dX8_sent_97 : decode cX8_sent 97 = .ok (.istore 4, 2) := by decide +kernel
theorem dX8_sent_99 : decode cX8_sent 99 = .ok (.iload 5, 2) := by decide +kernel
theorem dX8_sent_101 : decode cX8_sent 101 = .ok (.iload 7, 2) := by decide +kernel
theorem dX8_sent_103 : decode cX8_sent 103 = .ok (.ifCond .eq 8, 3) := by decide +kernel
theorem dX8_sent_106 : decode cX8_sent 106 = .ok (.iload 6, 2) := by decide +kernel
theorem dX8_sent_108 : decode cX8_sent 108 = .ok (.goto 4, 3) := by decide +kernel
theorem dX8_sent_111 : decode cX8_sent 111 = .ok (.iconst 0, 1) := by decide +kernel
theorem dX8_sent_112 : decode cX8_sent 112 = .ok (.ior, 1) := by decide +kernel
theorem dX8_sent_113 : decode cX8_sent 113 = .ok (.istore 5, 2) := by decide +kernel
theorem dX8_sent_115 : decode cX8_sent 115 = .ok (.iinc 6 1, 3) := by decide +kernel
theorem dX8_sent_118 : decode cX8_sent 118 = .ok (.goto (-71), 3) := by decide +kernel
theorem dX8_sent_121 : decode cX8_sent 121 = .ok (.iload_n 2, 1) := by decide +kernel
theorem dX8_sent_122 : decode cX8_sent 122 = .ok (.ifCond .ne 7, 3) := by decide +kernel
theorem dX8_sent_125 : decode cX8_sent 125 = .ok (.iload_n 3, 1) := by decide +kernel
theorem dX8_sent_126 : decode cX8_sent 126 = .ok (.goto 23, 3) := by decide +kernel
theorem dX8_sent_129 : decode cX8_sent 129 = .ok (.iload_n 2, 1) := by decide +kernel
theorem dX8_sent_130 : decode cX8_sent 130 = .ok (.iconst 2, 1) := by decide +kernel
theorem dX8_sent_131 : decode cX8_sent 131 = .ok (.if_icmp .ne 8, 3) := by decide +kernel
theorem dX8_sent_134 : decode cX8_sent 134 = .ok (.iload 5, 2) := by decide +kernel
theorem dX8_sent_136 : decode cX8_sent 136 = .ok (.goto 13, 3) := by decide +kernel
theorem dX8_sent_139 : decode cX8_sent 139 = .ok (.iload_n 3, 1) := by decide +kernel
theorem dX8_sent_140 : decode cX8_sent 140 = .ok (.ifCond .ne 7, 3) := by decide +kernel
theorem dX8_sent_143 : decode cX8_sent 143 = .ok (.iconst (-1), 1) := by decide +kernel
theorem dX8_sent_144 : decode cX8_sent 144 = .ok (.goto 5, 3) := by decide +kernel
theorem dX8_sent_147 : decode cX8_sent 147 = .ok (.iload 4, 2) := by decide +kernel
theorem dX8_sent_149 : decode cX8_sent 149 = .ok (.ireturn, 1) := by decide +kernel
theorem dX8_tell_0 : decode cX8_tell 0 = .ok (.aload_n 0, 1) := by decide +kernel
theorem dX8_tell_1 : decode cX8_tell 1 = .ok (.iload_n 1, 1) := by decide +kernel
theorem dX8_tell_2 : decode cX8_tell 2 = .ok (.invokevirtual 132, 3) := by decide +kernel
theorem dX8_tell_5 : decode cX8_tell 5 = .ok (.ifCond .ne 10, 3) := by decide +kernel
theorem dX8_tell_8 : decode cX8_tell 8 = .ok (.aload_n 0, 1) := by decide +kernel
theorem dX8_tell_9 : decode cX8_tell 9 = .ok (.bipush (-2), 2) := by decide +kernel
theorem dX8_tell_11 : decode cX8_tell 11 = .ok (.invokevirtual 75, 3) := by decide +kernel
theorem dX8_tell_14 : decode cX8_tell 14 = .ok (.ireturn, 1) := by decide +kernel
theorem dX8_tell_15 : decode cX8_tell 15 = .ok (.iconst 0, 1) := by decide +kernel
theorem dX8_tell_16 : decode cX8_tell 16 = .ok (.istore_n 2, 1) := by decide +kernel
theorem dX8_tell_17 : decode cX8_tell 17 = .ok (.iconst 0, 1) := by decide +kernel
theorem dX8_tell_18 : decode cX8_tell 18 = .ok (.istore_n 3, 1) := by decide +kernel
theorem dX8_tell_19 : decode cX8_tell 19 = .ok (.iload_n 3, 1) := by decide +kernel
theorem dX8_tell_20 : decode cX8_tell 20 = .ok (.iconst 1, 1) := by decide +kernel
theorem dX8_tell_21 : decode cX8_tell 21 = .ok (.aload_n 0, 1) := by decide +kernel
theorem dX8_tell_22 : decode cX8_tell 22 = .ok (.getfield 7, 3) := by decide +kernel
theorem dX8_tell_25 : decode cX8_tell 25 = .ok (.iconst 1, 1) := by decide +kernel
theorem dX8_tell_26 : decode cX8_tell 26 = .ok (.iaload, 1) := by decide +kernel
theorem dX8_tell_27 : decode cX8_tell 27 = .ok (.ishl, 1) := by decide +kernel
theorem dX8_tell_28 : decode cX8_tell 28 = .ok (.if_icmp .ge 28, 3) := by decide +kernel
theorem dX8_tell_31 : decode cX8_tell 31 = .ok (.aload_n 0, 1) := by decide +kernel
theorem dX8_tell_32 : decode cX8_tell 32 = .ok (.iload_n 1, 1) := by decide +kernel
theorem dX8_tell_33 : decode cX8_tell 33 = .ok (.iload_n 3, 1) := by decide +kernel
theorem dX8_tell_34 : decode cX8_tell 34 = .ok (.invokevirtual 168, 3) := by decide +kernel
theorem dX8_tell_37 : decode cX8_tell 37 = .ok (.ifCond .eq 13, 3) := by decide +kernel
theorem dX8_tell_40 : decode cX8_tell 40 = .ok (.aload_n 0, 1) := by decide +kernel
theorem dX8_tell_41 : decode cX8_tell 41 = .ok (.getfield 33, 3) := by decide +kernel
theorem dX8_tell_44 : decode cX8_tell 44 = .ok (.iload_n 2, 1) := by decide +kernel
theorem dX8_tell_45 : decode cX8_tell 45 = .ok (.iload_n 3, 1) := by decide +kernel
theorem dX8_tell_46 : decode cX8_tell 46 = .ok (.iastore, 1) := by decide +kernel
theorem dX8_tell_47 : decode cX8_tell 47 = .ok (.iinc 2 1, 3) := by decide +kernel
theorem dX8_tell_50 : decode cX8_tell 50 = .ok (.iinc 3 1, 3) := by decide +kernel
theorem dX8_tell_53 : decode cX8_tell 53 = .ok (.goto (-34), 3) := by decide +kernel
theorem dX8_tell_56 : decode cX8_tell 56 = .ok (.iconst (-1), 1) := by decide +kernel
theorem dX8_tell_57 : decode cX8_tell 57 = .ok (.istore_n 3, 1) := by decide +kernel
theorem dX8_tell_58 : decode cX8_tell 58 = .ok (.ldc 158, 2) := by decide +kernel
theorem dX8_tell_60 : decode cX8_tell 60 = .ok (.istore 4, 2) := by decide +kernel
theorem dX8_tell_62 : decode cX8_tell 62 = .ok (.iconst 0, 1) := by decide +kernel
theorem dX8_tell_63 : decode cX8_tell 63 = .ok (.istore 5, 2) := by decide +kernel
theorem dX8_tell_65 : decode cX8_tell 65 = .ok (.iload 5, 2) := by decide +kernel
theorem dX8_tell_67 : decode cX8_tell 67 = .ok (.bipush 12, 2) := by decide +kernel
theorem dX8_tell_69 : decode cX8_tell 69 = .ok (.if_icmp .ge 158, 3) := by decide +kernel
theorem dX8_tell_72 : decode cX8_tell 72 = .ok (.iload_n 2, 1) := by decide +kernel
theorem dX8_tell_73 : decode cX8_tell 73 = .ok (.ifCond .le 154, 3) := by decide +kernel
theorem dX8_tell_76 : decode cX8_tell 76 = .ok (.iconst 0, 1) := by decide +kernel
theorem dX8_tell_77 : decode cX8_tell 77 = .ok (.istore 6, 2) := by decide +kernel
theorem dX8_tell_79 : decode cX8_tell 79 = .ok (.iconst 0, 1) := by decide +kernel
theorem dX8_tell_80 : decode cX8_tell 80 = .ok (.istore 7, 2) := by decide +kernel
theorem dX8_tell_82 : decode cX8_tell 82 = .ok (.iload 7, 2) := by decide +kernel
theorem dX8_tell_84 : decode cX8_tell 84 = .ok (.iload_n 2, 1) := by decide +kernel
theorem dX8_tell_85 : decode cX8_tell 85 = .ok (.if_icmp .ge 30, 3) := by decide +kernel
theorem dX8_tell_88 : decode cX8_tell 88 = .ok (.aload_n 0, 1) := by decide +kernel
theorem dX8_tell_89 : decode cX8_tell 89 = .ok (.getfield 36, 3) := by decide +kernel
theorem dX8_tell_92 : decode cX8_tell 92 = .ok (.iload 7, 2) := by decide +kernel
theorem dX8_tell_94 : decode cX8_tell 94 = .ok (.aload_n 0, 1) := by decide +kernel
theorem dX8_tell_95 : decode cX8_tell 95 = .ok (.iload_n 1, 1) := by decide +kernel
theorem dX8_tell_96 : decode cX8_tell 96 = .ok (.aload_n 0, 1) := by decide +kernel
theorem dX8_tell_97 : decode cX8_tell 97 = .ok (.getfield 33, 3) := by decide +kernel
theorem dX8_tell_100 : decode cX8_tell 100 = .ok (.iload 7, 2) := by decide +kernel
theorem dX8_tell_102 : decode cX8_tell 102 = .ok (.iaload, 1) := by decide +kernel
theorem dX8_tell_103 : decode cX8_tell 103 = .ok (.iload 5, 2) := by decide +kernel
theorem dX8_tell_105 : decode cX8_tell 105 = .ok (.invokevirtual 163, 3) := by decide +kernel
theorem dX8_tell_108 : decode cX8_tell 108 = .ok (.iastore, 1) := by decide +kernel
theorem dX8_tell_109 : decode cX8_tell 109 = .ok (.iinc 7 1, 3) := by decide +kernel
theorem dX8_tell_112 : decode cX8_tell 112 = .ok (.goto (-30), 3) := by decide +kernel
theorem dX8_tell_115 : decode cX8_tell 115 = .ok (.iconst 0, 1) := by decide +kernel
theorem dX8_tell_116 : decode cX8_tell 116 = .ok (.istore 7, 2) := by decide +kernel
theorem dX8_tell_118 : decode cX8_tell 118 = .ok (.iload 7, 2) := by decide +kernel
theorem dX8_tell_120 : decode cX8_tell 120 = .ok (.iload_n 2, 1) := by decide +kernel
theorem dX8_tell_121 : decode cX8_tell 121 = .ok (.if_icmp .ge 70, 3) := by decide +kernel
theorem dX8_tell_124 : decode cX8_tell 124 = .ok (.iconst 0, 1) := by decide +kernel
theorem dX8_tell_125 : decode cX8_tell 125 = .ok (.istore 8, 2) := by decide +kernel
theorem dX8_tell_127 : decode cX8_tell 127 = .ok (.iconst 0, 1) := by decide +kernel
theorem dX8_tell_128 : decode cX8_tell 128 = .ok (.istore 9, 2) := by decide +kernel
theorem dX8_tell_130 : decode cX8_tell 130 = .ok (.iload 9, 2) := by decide +kernel
theorem dX8_tell_132 : decode cX8_tell 132 = .ok (.iload_n 2, 1) := by decide +kernel
theorem dX8_tell_133 : decode cX8_tell 133 = .ok (.if_icmp .ge 36, 3) := by decide +kernel
theorem dX8_tell_136 : decode cX8_tell 136 = .ok (.iload 8, 2) := by decide +kernel
theorem dX8_tell_138 : decode cX8_tell 138 = .ok (.aload_n 0, 1) := by decide +kernel
theorem dX8_tell_139 : decode cX8_tell 139 = .ok (.getfield 36, 3) := by decide +kernel
theorem dX8_tell_142 : decode cX8_tell 142 = .ok (.iload 7, 2) := by decide +kernel
theorem dX8_tell_144 : decode cX8_tell 144 = .ok (.iaload, 1) := by decide +kernel
theorem dX8_tell_145 : decode cX8_tell 145 = .ok (.aload_n 0, 1) := by decide +kernel
theorem dX8_tell_146 : decode cX8_tell 146 = .ok (.getfield 36, 3) := by decide +kernel
theorem dX8_tell_149 : decode cX8_tell 149 = .ok (.iload 9, 2) := by decide +kernel
theorem dX8_tell_151 : decode cX8_tell 151 = .ok (.iaload, 1) := by decide +kernel
theorem dX8_tell_152 : decode cX8_tell 152 = .ok (.if_icmp .ne 7, 3) := by decide +kernel
theorem dX8_tell_155 : decode cX8_tell 155 = .ok (.iconst 1, 1) := by decide +kernel
theorem dX8_tell_156 : decode cX8_tell 156 = .ok (.goto 4, 3) := by decide +kernel
theorem dX8_tell_159 : decode cX8_tell 159 = .ok (.iconst 0, 1) := by decide +kernel
theorem dX8_tell_160 : decode cX8_tell 160 = .ok (.iadd, 1) := by decide +kernel
theorem dX8_tell_161 : decode cX8_tell 161 = .ok (.istore 8, 2) := by decide +kernel
theorem dX8_tell_163 : decode cX8_tell 163 = .ok (.iinc 9 1, 3) := by decide +kernel
theorem dX8_tell_166 : decode cX8_tell 166 = .ok (.goto (-36), 3) := by decide +kernel
theorem dX8_tell_169 : decode cX8_tell 169 = .ok (.iload 8, 2) := by decide +kernel
theorem dX8_tell_171 : decode cX8_tell 171 = .ok (.iload 6, 2) := by decide +kernel
theorem dX8_tell_173 : decode cX8_tell 173 = .ok (.if_icmp .le 8, 3) := by decide +kernel
theorem dX8_tell_176 : decode cX8_tell 176 = .ok (.iload 8, 2) := by decide +kernel
theorem dX8_tell_178 : decode cX8_tell 178 = .ok (.goto 5, 3) := by decide +kernel
theorem dX8_tell_181 : decode cX8_tell 181 = .ok (.iload 6, 2) := by decide +kernel
theorem dX8_tell_183 : decode cX8_tell 183 = .ok (.istore 6, 2) := by decide +kernel
theorem dX8_tell_185 : decode cX8_tell 185 = .ok (.iinc 7 1, 3) := by decide +kernel
theorem dX8_tell_188 : decode cX8_tell 188 = .ok (.goto (-70), 3) := by decide +kernel
theorem dX8_tell_191 : decode cX8_tell 191 = .ok (.iload 6, 2) := by decide +kernel
theorem dX8_tell_193 : decode cX8_tell 193 = .ok (.iload 4, 2) := by decide +kernel
theorem dX8_tell_195 : decode cX8_tell 195 = .ok (.if_icmp .ge 8, 3) := by decide +kernel
theorem dX8_tell_198 : decode cX8_tell 198 = .ok (.iload 5, 2) := by decide +kernel
theorem dX8_tell_200 : decode cX8_tell 200 = .ok (.goto 4, 3) := by decide +kernel
theorem dX8_tell_203 : decode cX8_tell 203 = .ok (.iload_n 3, 1) := by decide +kernel
theorem dX8_tell_204 : decode cX8_tell 204 = .ok (.istore_n 3, 1) := by decide +kernel
theorem dX8_tell_205 : decode cX8_tell 205 = .ok (.iload 6, 2) := by decide +kernel
theorem dX8_tell_207 : decode cX8_tell 207 = .ok (.iload 4, 2) := by decide +kernel
theorem dX8_tell_209 : decode cX8_tell 209 = .ok (.if_icmp .ge 8, 3) := by decide +kernel
theorem dX8_tell_212 : decode cX8_tell 212 = .ok (.iload 6, 2) := by decide +kernel
theorem dX8_tell_214 : decode cX8_tell 214 = .ok (.goto 5, 3) := by decide +kernel
theorem dX8_tell_217 : decode cX8_tell 217 = .ok (.iload 4, 2) := by decide +kernel
theorem dX8_tell_219 : decode cX8_tell 219 = .ok (.istore 4, 2) := by decide +kernel
theorem dX8_tell_221 : decode cX8_tell 221 = .ok (.iinc 5 1, 3) := by decide +kernel
theorem dX8_tell_224 : decode cX8_tell 224 = .ok (.goto (-159), 3) := by decide +kernel
theorem dX8_tell_227 : decode cX8_tell 227 = .ok (.iload_n 3, 1) := by decide +kernel
theorem dX8_tell_228 : decode cX8_tell 228 = .ok (.ireturn, 1) := by decide +kernel
theorem dX8_note_0 : decode cX8_note 0 = .ok (.aload_n 0, 1) := by decide +kernel
theorem dX8_note_1 : decode cX8_note 1 = .ok (.iload_n 1, 1) := by decide +kernel
theorem dX8_note_2 : decode cX8_note 2 = .ok (.invokevirtual 138, 3) := by decide +kernel
theorem dX8_note_5 : decode cX8_note 5 = .ok (.ifCond .eq 35, 3) := by decide +kernel
theorem dX8_note_8 : decode cX8_note 8 = .ok (.iload_n 2, 1) := by decide +kernel
theorem dX8_note_9 : decode cX8_note 9 = .ok (.invokestatic 86, 3) := by decide +kernel
theorem dX8_note_12 : decode cX8_note 12 = .ok (.ifCond .eq 28, 3) := by decide +kernel
theorem dX8_note_15 : decode cX8_note 15 = .ok (.iload_n 3, 1) := by decide +kernel
theorem dX8_note_16 : decode cX8_note 16 = .ok (.i2l, 1) := by decide +kernel
theorem dX8_note_17 : decode cX8_note 17 = .ok (.lconst 0, 1) := by decide +kernel
theorem dX8_note_18 : decode cX8_note 18 = .ok (.ldc2_w 159, 3) := by decide +kernel
theorem dX8_note_21 : decode cX8_note 21 = .ok (.invokestatic 59, 3) := by decide +kernel
theorem dX8_note_24 : decode cX8_note 24 = .ok (.ifCond .eq 16, 3) := by decide +kernel
theorem dX8_note_27 : decode cX8_note 27 = .ok (.iload 4, 2) := by decide +kernel
theorem dX8_note_29 : decode cX8_note 29 = .ok (.i2l, 1) := by decide +kernel
theorem dX8_note_30 : decode cX8_note 30 = .ok (.lconst 0, 1) := by decide +kernel
theorem dX8_note_31 : decode cX8_note 31 = .ok (.ldc2_w 171, 3) := by decide +kernel
theorem dX8_note_34 : decode cX8_note 34 = .ok (.invokestatic 59, 3) := by decide +kernel
theorem dX8_note_37 : decode cX8_note 37 = .ok (.ifCond .ne 10, 3) := by decide +kernel
theorem dX8_note_40 : decode cX8_note 40 = .ok (.aload_n 0, 1) := by decide +kernel
theorem dX8_note_41 : decode cX8_note 41 = .ok (.bipush (-2), 2) := by decide +kernel
theorem dX8_note_43 : decode cX8_note 43 = .ok (.invokevirtual 75, 3) := by decide +kernel
theorem dX8_note_46 : decode cX8_note 46 = .ok (.ireturn, 1) := by decide +kernel
theorem dX8_note_47 : decode cX8_note 47 = .ok (.aload_n 0, 1) := by decide +kernel
theorem dX8_note_48 : decode cX8_note 48 = .ok (.getfield 7, 3) := by decide +kernel
theorem dX8_note_51 : decode cX8_note 51 = .ok (.iconst 3, 1) := by decide +kernel
theorem dX8_note_52 : decode cX8_note 52 = .ok (.iaload, 1) := by decide +kernel
theorem dX8_note_53 : decode cX8_note 53 = .ok (.bipush 6, 2) := by decide +kernel
theorem dX8_note_55 : decode cX8_note 55 = .ok (.if_icmp .ne 8, 3) := by decide +kernel
theorem dX8_note_58 : decode cX8_note 58 = .ok (.aload_n 0, 1) := by decide +kernel
theorem dX8_note_59 : decode cX8_note 59 = .ok (.invokevirtual 79, 3) := by decide +kernel
theorem dX8_note_62 : decode cX8_note 62 = .ok (.ireturn, 1) := by decide +kernel
theorem dX8_note_63 : decode cX8_note 63 = .ok (.bipush 64, 2) := by decide +kernel
theorem dX8_note_65 : decode cX8_note 65 = .ok (.iconst 4, 1) := by decide +kernel
theorem dX8_note_66 : decode cX8_note 66 = .ok (.aload_n 0, 1) := by decide +kernel
theorem dX8_note_67 : decode cX8_note 67 = .ok (.getfield 7, 3) := by decide +kernel
theorem dX8_note_70 : decode cX8_note 70 = .ok (.iconst 3, 1) := by decide +kernel
theorem dX8_note_71 : decode cX8_note 71 = .ok (.iaload, 1) := by decide +kernel
theorem dX8_note_72 : decode cX8_note 72 = .ok (.imul, 1) := by decide +kernel
theorem dX8_note_73 : decode cX8_note 73 = .ok (.iadd, 1) := by decide +kernel
theorem dX8_note_74 : decode cX8_note 74 = .ok (.istore 5, 2) := by decide +kernel
theorem dX8_note_76 : decode cX8_note 76 = .ok (.aload_n 0, 1) := by decide +kernel
theorem dX8_note_77 : decode cX8_note 77 = .ok (.getfield 7, 3) := by decide +kernel
theorem dX8_note_80 : decode cX8_note 80 = .ok (.iload 5, 2) := by decide +kernel
theorem dX8_note_82 : decode cX8_note 82 = .ok (.iload_n 1, 1) := by decide +kernel
theorem dX8_note_83 : decode cX8_note 83 = .ok (.iastore, 1) := by decide +kernel
theorem dX8_note_84 : decode cX8_note 84 = .ok (.aload_n 0, 1) := by decide +kernel
theorem dX8_note_85 : decode cX8_note 85 = .ok (.getfield 7, 3) := by decide +kernel
theorem dX8_note_88 : decode cX8_note 88 = .ok (.iload 5, 2) := by decide +kernel
theorem dX8_note_90 : decode cX8_note 90 = .ok (.iconst 1, 1) := by decide +kernel
theorem dX8_note_91 : decode cX8_note 91 = .ok (.iadd, 1) := by decide +kernel
theorem dX8_note_92 : decode cX8_note 92 = .ok (.iload_n 2, 1) := by decide +kernel
theorem dX8_note_93 : decode cX8_note 93 = .ok (.iastore, 1) := by decide +kernel
theorem dX8_note_94 : decode cX8_note 94 = .ok (.aload_n 0, 1) := by decide +kernel
theorem dX8_note_95 : decode cX8_note 95 = .ok (.getfield 7, 3) := by decide +kernel
theorem dX8_note_98 : decode cX8_note 98 = .ok (.iload 5, 2) := by decide +kernel
theorem dX8_note_100 : decode cX8_note 100 = .ok (.iconst 2, 1) := by decide +kernel
theorem dX8_note_101 : decode cX8_note 101 = .ok (.iadd, 1) := by decide +kernel
theorem dX8_note_102 : decode cX8_note 102 = .ok (.iload_n 3, 1) := by decide +kernel
theorem dX8_note_103 : decode cX8_note 103 = .ok (.iastore, 1) := by decide +kernel
theorem dX8_note_104 : decode cX8_note 104 = .ok (.aload_n 0, 1) := by decide +kernel
theorem dX8_note_105 : decode cX8_note 105 = .ok (.getfield 7, 3) := by decide +kernel
theorem dX8_note_108 : decode cX8_note 108 = .ok (.iload 5, 2) := by decide +kernel
theorem dX8_note_110 : decode cX8_note 110 = .ok (.iconst 3, 1) := by decide +kernel
theorem dX8_note_111 : decode cX8_note 111 = .ok (.iadd, 1) := by decide +kernel
theorem dX8_note_112 : decode cX8_note 112 = .ok (.iload 4, 2) := by decide +kernel
theorem dX8_note_114 : decode cX8_note 114 = .ok (.iastore, 1) := by decide +kernel
theorem dX8_note_115 : decode cX8_note 115 = .ok (.aload_n 0, 1) := by decide +kernel
theorem dX8_note_116 : decode cX8_note 116 = .ok (.getfield 7, 3) := by decide +kernel
theorem dX8_note_119 : decode cX8_note 119 = .ok (.iconst 3, 1) := by decide +kernel
theorem dX8_note_120 : decode cX8_note 120 = .ok (.dup2, 1) := by decide +kernel
theorem dX8_note_121 : decode cX8_note 121 = .ok (.iaload, 1) := by decide +kernel
theorem dX8_note_122 : decode cX8_note 122 = .ok (.iconst 1, 1) := by decide +kernel
theorem dX8_note_123 : decode cX8_note 123 = .ok (.iadd, 1) := by decide +kernel
theorem dX8_note_124 : decode cX8_note 124 = .ok (.iastore, 1) := by decide +kernel
theorem dX8_note_125 : decode cX8_note 125 = .ok (.aload_n 0, 1) := by decide +kernel
theorem dX8_note_126 : decode cX8_note 126 = .ok (.getfield 7, 3) := by decide +kernel
theorem dX8_note_129 : decode cX8_note 129 = .ok (.iconst 3, 1) := by decide +kernel
theorem dX8_note_130 : decode cX8_note 130 = .ok (.iaload, 1) := by decide +kernel
theorem dX8_note_131 : decode cX8_note 131 = .ok (.ireturn, 1) := by decide +kernel
theorem dX8_mark_0 : decode cX8_mark 0 = .ok (.aload_n 0, 1) := by decide +kernel
theorem dX8_mark_1 : decode cX8_mark 1 = .ok (.iload_n 1, 1) := by decide +kernel
theorem dX8_mark_2 : decode cX8_mark 2 = .ok (.invokevirtual 132, 3) := by decide +kernel
theorem dX8_mark_5 : decode cX8_mark 5 = .ok (.ifCond .eq 35, 3) := by decide +kernel
theorem dX8_mark_8 : decode cX8_mark 8 = .ok (.iload_n 2, 1) := by decide +kernel
theorem dX8_mark_9 : decode cX8_mark 9 = .ok (.i2l, 1) := by decide +kernel
theorem dX8_mark_10 : decode cX8_mark 10 = .ok (.lconst 0, 1) := by decide +kernel
theorem dX8_mark_11 : decode cX8_mark 11 = .ok (.ldc2_w 171, 3) := by decide +kernel
theorem dX8_mark_14 : decode cX8_mark 14 = .ok (.invokestatic 59, 3) := by decide +kernel
theorem dX8_mark_17 : decode cX8_mark 17 = .ok (.ifCond .eq 23, 3) := by decide +kernel
theorem dX8_mark_20 : decode cX8_mark 20 = .ok (.iload_n 3, 1) := by decide +kernel
theorem dX8_mark_21 : decode cX8_mark 21 = .ok (.invokestatic 135, 3) := by decide +kernel
theorem dX8_mark_24 : decode cX8_mark 24 = .ok (.ifCond .eq 16, 3) := by decide +kernel
theorem dX8_mark_27 : decode cX8_mark 27 = .ok (.iload 4, 2) := by decide +kernel
theorem dX8_mark_29 : decode cX8_mark 29 = .ok (.i2l, 1) := by decide +kernel
theorem dX8_mark_30 : decode cX8_mark 30 = .ok (.lconst 0, 1) := by decide +kernel
theorem dX8_mark_31 : decode cX8_mark 31 = .ok (.ldc2_w 173, 3) := by decide +kernel
theorem dX8_mark_34 : decode cX8_mark 34 = .ok (.invokestatic 59, 3) := by decide +kernel
theorem dX8_mark_37 : decode cX8_mark 37 = .ok (.ifCond .ne 10, 3) := by decide +kernel
theorem dX8_mark_40 : decode cX8_mark 40 = .ok (.aload_n 0, 1) := by decide +kernel
theorem dX8_mark_41 : decode cX8_mark 41 = .ok (.bipush (-2), 2) := by decide +kernel
theorem dX8_mark_43 : decode cX8_mark 43 = .ok (.invokevirtual 75, 3) := by decide +kernel
theorem dX8_mark_46 : decode cX8_mark 46 = .ok (.ireturn, 1) := by decide +kernel
theorem dX8_mark_47 : decode cX8_mark 47 = .ok (.aload_n 0, 1) := by decide +kernel
theorem dX8_mark_48 : decode cX8_mark 48 = .ok (.getfield 7, 3) := by decide +kernel
theorem dX8_mark_51 : decode cX8_mark 51 = .ok (.iconst 4, 1) := by decide +kernel
theorem dX8_mark_52 : decode cX8_mark 52 = .ok (.iaload, 1) := by decide +kernel
theorem dX8_mark_53 : decode cX8_mark 53 = .ok (.bipush 6, 2) := by decide +kernel
theorem dX8_mark_55 : decode cX8_mark 55 = .ok (.if_icmp .ne 8, 3) := by decide +kernel
theorem dX8_mark_58 : decode cX8_mark 58 = .ok (.aload_n 0, 1) := by decide +kernel
theorem dX8_mark_59 : decode cX8_mark 59 = .ok (.invokevirtual 79, 3) := by decide +kernel
theorem dX8_mark_62 : decode cX8_mark 62 = .ok (.ireturn, 1) := by decide +kernel
theorem dX8_mark_63 : decode cX8_mark 63 = .ok (.bipush 88, 2) := by decide +kernel
theorem dX8_mark_65 : decode cX8_mark 65 = .ok (.iconst 4, 1) := by decide +kernel
theorem dX8_mark_66 : decode cX8_mark 66 = .ok (.aload_n 0, 1) := by decide +kernel
theorem dX8_mark_67 : decode cX8_mark 67 = .ok (.getfield 7, 3) := by decide +kernel
theorem dX8_mark_70 : decode cX8_mark 70 = .ok (.iconst 4, 1) := by decide +kernel
theorem dX8_mark_71 : decode cX8_mark 71 = .ok (.iaload, 1) := by decide +kernel
theorem dX8_mark_72 : decode cX8_mark 72 = .ok (.imul, 1) := by decide +kernel
theorem dX8_mark_73 : decode cX8_mark 73 = .ok (.iadd, 1) := by decide +kernel
theorem dX8_mark_74 : decode cX8_mark 74 = .ok (.istore 5, 2) := by decide +kernel
theorem dX8_mark_76 : decode cX8_mark 76 = .ok (.aload_n 0, 1) := by decide +kernel
theorem dX8_mark_77 : decode cX8_mark 77 = .ok (.getfield 7, 3) := by decide +kernel
theorem dX8_mark_80 : decode cX8_mark 80 = .ok (.iload 5, 2) := by decide +kernel
theorem dX8_mark_82 : decode cX8_mark 82 = .ok (.iload_n 1, 1) := by decide +kernel
theorem dX8_mark_83 : decode cX8_mark 83 = .ok (.iastore, 1) := by decide +kernel
theorem dX8_mark_84 : decode cX8_mark 84 = .ok (.aload_n 0, 1) := by decide +kernel
theorem dX8_mark_85 : decode cX8_mark 85 = .ok (.getfield 7, 3) := by decide +kernel
theorem dX8_mark_88 : decode cX8_mark 88 = .ok (.iload 5, 2) := by decide +kernel
theorem dX8_mark_90 : decode cX8_mark 90 = .ok (.iconst 1, 1) := by decide +kernel
theorem dX8_mark_91 : decode cX8_mark 91 = .ok (.iadd, 1) := by decide +kernel
theorem dX8_mark_92 : decode cX8_mark 92 = .ok (.iload_n 2, 1) := by decide +kernel
theorem dX8_mark_93 : decode cX8_mark 93 = .ok (.iastore, 1) := by decide +kernel
theorem dX8_mark_94 : decode cX8_mark 94 = .ok (.aload_n 0, 1) := by decide +kernel
theorem dX8_mark_95 : decode cX8_mark 95 = .ok (.getfield 7, 3) := by decide +kernel
theorem dX8_mark_98 : decode cX8_mark 98 = .ok (.iload 5, 2) := by decide +kernel
theorem dX8_mark_100 : decode cX8_mark 100 = .ok (.iconst 2, 1) := by decide +kernel
theorem dX8_mark_101 : decode cX8_mark 101 = .ok (.iadd, 1) := by decide +kernel
theorem dX8_mark_102 : decode cX8_mark 102 = .ok (.iload_n 3, 1) := by decide +kernel
theorem dX8_mark_103 : decode cX8_mark 103 = .ok (.iastore, 1) := by decide +kernel
theorem dX8_mark_104 : decode cX8_mark 104 = .ok (.aload_n 0, 1) := by decide +kernel
theorem dX8_mark_105 : decode cX8_mark 105 = .ok (.getfield 7, 3) := by decide +kernel
theorem dX8_mark_108 : decode cX8_mark 108 = .ok (.iload 5, 2) := by decide +kernel
theorem dX8_mark_110 : decode cX8_mark 110 = .ok (.iconst 3, 1) := by decide +kernel
theorem dX8_mark_111 : decode cX8_mark 111 = .ok (.iadd, 1) := by decide +kernel
theorem dX8_mark_112 : decode cX8_mark 112 = .ok (.iload 4, 2) := by decide +kernel
theorem dX8_mark_114 : decode cX8_mark 114 = .ok (.iastore, 1) := by decide +kernel
theorem dX8_mark_115 : decode cX8_mark 115 = .ok (.aload_n 0, 1) := by decide +kernel
theorem dX8_mark_116 : decode cX8_mark 116 = .ok (.getfield 7, 3) := by decide +kernel
theorem dX8_mark_119 : decode cX8_mark 119 = .ok (.iconst 4, 1) := by decide +kernel
theorem dX8_mark_120 : decode cX8_mark 120 = .ok (.dup2, 1) := by decide +kernel
theorem dX8_mark_121 : decode cX8_mark 121 = .ok (.iaload, 1) := by decide +kernel
theorem dX8_mark_122 : decode cX8_mark 122 = .ok (.iconst 1, 1) := by decide +kernel
theorem dX8_mark_123 : decode cX8_mark 123 = .ok (.iadd, 1) := by decide +kernel
theorem dX8_mark_124 : decode cX8_mark 124 = .ok (.iastore, 1) := by decide +kernel
theorem dX8_mark_125 : decode cX8_mark 125 = .ok (.aload_n 0, 1) := by decide +kernel
theorem dX8_mark_126 : decode cX8_mark 126 = .ok (.getfield 7, 3) := by decide +kernel
theorem dX8_mark_129 : decode cX8_mark 129 = .ok (.iconst 4, 1) := by decide +kernel
theorem dX8_mark_130 : decode cX8_mark 130 = .ok (.iaload, 1) := by decide +kernel
theorem dX8_mark_131 : decode cX8_mark 131 = .ok (.ireturn, 1) := by decide +kernel
theorem dX8_forget_0 : decode cX8_forget 0 = .ok (.iload_n 1, 1) := by decide +kernel
theorem dX8_forget_1 : decode cX8_forget 1 = .ok (.i2l, 1) := by decide +kernel
theorem dX8_forget_2 : decode cX8_forget 2 = .ok (.lconst 0, 1) := by decide +kernel
theorem dX8_forget_3 : decode cX8_forget 3 = .ok (.ldc2_w 166, 3) := by decide +kernel
theorem dX8_forget_6 : decode cX8_forget 6 = .ok (.invokestatic 59, 3) := by decide +kernel
theorem dX8_forget_9 : decode cX8_forget 9 = .ok (.ifCond .ne 10, 3) := by decide +kernel
theorem dX8_forget_12 : decode cX8_forget 12 = .ok (.aload_n 0, 1) := by decide +kernel
theorem dX8_forget_13 : decode cX8_forget 13 = .ok (.bipush (-2), 2) := by decide +kernel
theorem dX8_forget_15 : decode cX8_forget 15 = .ok (.invokevirtual 75, 3) := by decide +kernel
theorem dX8_forget_18 : decode cX8_forget 18 = .ok (.ireturn, 1) := by decide +kernel
theorem dX8_forget_19 : decode cX8_forget 19 = .ok (.aload_n 0, 1) := by decide +kernel
theorem dX8_forget_20 : decode cX8_forget 20 = .ok (.getfield 7, 3) := by decide +kernel
theorem dX8_forget_23 : decode cX8_forget 23 = .ok (.iconst 2, 1) := by decide +kernel
theorem dX8_forget_24 : decode cX8_forget 24 = .ok (.iload_n 1, 1) := by decide +kernel
theorem dX8_forget_25 : decode cX8_forget 25 = .ok (.iadd, 1) := by decide +kernel
theorem dX8_forget_26 : decode cX8_forget 26 = .ok (.iaload, 1) := by decide +kernel
theorem dX8_forget_27 : decode cX8_forget 27 = .ok (.istore_n 2, 1) := by decide +kernel
theorem dX8_forget_28 : decode cX8_forget 28 = .ok (.aload_n 0, 1) := by decide +kernel
theorem dX8_forget_29 : decode cX8_forget 29 = .ok (.getfield 7, 3) := by decide +kernel
theorem dX8_forget_32 : decode cX8_forget 32 = .ok (.iconst 2, 1) := by decide +kernel
theorem dX8_forget_33 : decode cX8_forget 33 = .ok (.iload_n 1, 1) := by decide +kernel
theorem dX8_forget_34 : decode cX8_forget 34 = .ok (.iadd, 1) := by decide +kernel
theorem dX8_forget_35 : decode cX8_forget 35 = .ok (.iconst 0, 1) := by decide +kernel
theorem dX8_forget_36 : decode cX8_forget 36 = .ok (.iastore, 1) := by decide +kernel
theorem dX8_forget_37 : decode cX8_forget 37 = .ok (.iload_n 2, 1) := by decide +kernel
theorem dX8_forget_38 : decode cX8_forget 38 = .ok (.ireturn, 1) := by decide +kernel
theorem dX8_kindsBy_0 : decode cX8_kindsBy 0 = .ok (.iconst 0, 1) := by decide +kernel
theorem dX8_kindsBy_1 : decode cX8_kindsBy 1 = .ok (.istore 5, 2) := by decide +kernel
theorem dX8_kindsBy_3 : decode cX8_kindsBy 3 = .ok (.iconst 0, 1) := by decide +kernel
theorem dX8_kindsBy_4 : decode cX8_kindsBy 4 = .ok (.istore 6, 2) := by decide +kernel
theorem dX8_kindsBy_6 : decode cX8_kindsBy 6 = .ok (.iload 6, 2) := by decide +kernel
theorem dX8_kindsBy_8 : decode cX8_kindsBy 8 = .ok (.bipush 6, 2) := by decide +kernel
theorem dX8_kindsBy_10 : decode cX8_kindsBy 10 = .ok (.if_icmp .ge 146, 3) := by decide +kernel
theorem dX8_kindsBy_13 : decode cX8_kindsBy 13 = .ok (.iconst 1, 1) := by decide +kernel
theorem dX8_kindsBy_14 : decode cX8_kindsBy 14 = .ok (.istore 7, 2) := by decide +kernel
theorem dX8_kindsBy_16 : decode cX8_kindsBy 16 = .ok (.iconst 0, 1) := by decide +kernel
theorem dX8_kindsBy_17 : decode cX8_kindsBy 17 = .ok (.istore 8, 2) := by decide +kernel
theorem dX8_kindsBy_19 : decode cX8_kindsBy 19 = .ok (.iload 8, 2) := by decide +kernel
theorem dX8_kindsBy_21 : decode cX8_kindsBy 21 = .ok (.iload_n 3, 1) := by decide +kernel
theorem dX8_kindsBy_22 : decode cX8_kindsBy 22 = .ok (.if_icmp .ge 110, 3) := by decide +kernel
theorem dX8_kindsBy_25 : decode cX8_kindsBy 25 = .ok (.iload_n 2, 1) := by decide +kernel
theorem dX8_kindsBy_26 : decode cX8_kindsBy 26 = .ok (.iconst 4, 1) := by decide +kernel
theorem dX8_kindsBy_27 : decode cX8_kindsBy 27 = .ok (.iload 8, 2) := by decide +kernel
theorem dX8_kindsBy_29 : decode cX8_kindsBy 29 = .ok (.imul, 1) := by decide +kernel
theorem dX8_kindsBy_30 : decode cX8_kindsBy 30 = .ok (.iadd, 1) := by decide +kernel
theorem dX8_kindsBy_31 : decode cX8_kindsBy 31 = .ok (.istore 9, 2) := by decide +kernel
theorem dX8_kindsBy_33 : decode cX8_kindsBy 33 = .ok (.iload 4, 2) := by decide +kernel
theorem dX8_kindsBy_35 : decode cX8_kindsBy 35 = .ok (.ifCond .eq 29, 3) := by decide +kernel
theorem dX8_kindsBy_38 : decode cX8_kindsBy 38 = .ok (.iload 6, 2) := by decide +kernel
theorem dX8_kindsBy_40 : decode cX8_kindsBy 40 = .ok (.aload_n 0, 1) := by decide +kernel
theorem dX8_kindsBy_41 : decode cX8_kindsBy 41 = .ok (.getfield 7, 3) := by decide +kernel
theorem dX8_kindsBy_44 : decode cX8_kindsBy 44 = .ok (.iload 9, 2) := by decide +kernel
theorem dX8_kindsBy_46 : decode cX8_kindsBy 46 = .ok (.iconst 1, 1) := by decide +kernel
theorem dX8_kindsBy_47 : decode cX8_kindsBy 47 = .ok (.iadd, 1) := by decide +kernel
theorem dX8_kindsBy_48 : decode cX8_kindsBy 48 = .ok (.iaload, 1) := by decide +kernel
theorem dX8_kindsBy_49 : decode cX8_kindsBy 49 = .ok (.aload_n 0, 1) := by decide +kernel
theorem dX8_kindsBy_50 : decode cX8_kindsBy 50 = .ok (.getfield 7, 3) := by decide +kernel
theorem dX8_kindsBy_53 : decode cX8_kindsBy 53 = .ok (.iload 9, 2) := by decide +kernel
theorem dX8_kindsBy_55 : decode cX8_kindsBy 55 = .ok (.iconst 2, 1) := by decide +kernel
theorem dX8_kindsBy_56 : decode cX8_kindsBy 56 = .ok (.iadd, 1) := by decide +kernel
theorem dX8_kindsBy_57 : decode cX8_kindsBy 57 = .ok (.iaload, 1) := by decide +kernel
theorem dX8_kindsBy_58 : decode cX8_kindsBy 58 = .ok (.invokestatic 96, 3) := by decide +kernel
theorem dX8_kindsBy_61 : decode cX8_kindsBy 61 = .ok (.goto 26, 3) := by decide +kernel
theorem dX8_kindsBy_64 : decode cX8_kindsBy 64 = .ok (.iload 6, 2) := by decide +kernel
theorem dX8_kindsBy_66 : decode cX8_kindsBy 66 = .ok (.aload_n 0, 1) := by decide +kernel
theorem dX8_kindsBy_67 : decode cX8_kindsBy 67 = .ok (.getfield 7, 3) := by decide +kernel
theorem dX8_kindsBy_70 : decode cX8_kindsBy 70 = .ok (.iload 9, 2) := by decide +kernel
theorem dX8_kindsBy_72 : decode cX8_kindsBy 72 = .ok (.iconst 1, 1) := by decide +kernel
theorem dX8_kindsBy_73 : decode cX8_kindsBy 73 = .ok (.iadd, 1) := by decide +kernel
theorem dX8_kindsBy_74 : decode cX8_kindsBy 74 = .ok (.iaload, 1) := by decide +kernel
theorem dX8_kindsBy_75 : decode cX8_kindsBy 75 = .ok (.aload_n 0, 1) := by decide +kernel
theorem dX8_kindsBy_76 : decode cX8_kindsBy 76 = .ok (.getfield 7, 3) := by decide +kernel
theorem dX8_kindsBy_79 : decode cX8_kindsBy 79 = .ok (.iload 9, 2) := by decide +kernel
theorem dX8_kindsBy_81 : decode cX8_kindsBy 81 = .ok (.iconst 2, 1) := by decide +kernel
theorem dX8_kindsBy_82 : decode cX8_kindsBy 82 = .ok (.iadd, 1) := by decide +kernel
theorem dX8_kindsBy_83 : decode cX8_kindsBy 83 = .ok (.iaload, 1) := by decide +kernel
theorem dX8_kindsBy_84 : decode cX8_kindsBy 84 = .ok (.invokestatic 100, 3) := by decide +kernel
theorem dX8_kindsBy_87 : decode cX8_kindsBy 87 = .ok (.istore 10, 2) := by decide +kernel
theorem dX8_kindsBy_89 : decode cX8_kindsBy 89 = .ok (.iload 7, 2) := by decide +kernel
theorem dX8_kindsBy_91 : decode cX8_kindsBy 91 = .ok (.ifCond .eq 32, 3) := by decide +kernel
theorem dX8_kindsBy_94 : decode cX8_kindsBy 94 = .ok (.aload_n 0, 1) := by decide +kernel
theorem dX8_kindsBy_95 : decode cX8_kindsBy 95 = .ok (.getfield 7, 3) := by decide +kernel
theorem dX8_kindsBy_98 : decode cX8_kindsBy 98 = .ok (.iload 9, 2) := by decide +kernel
theorem dX8_kindsBy_100 : decode cX8_kindsBy 100 = .ok (.iaload, 1) := by decide +kernel
theorem dX8_kindsBy_101 : decode cX8_kindsBy 101 = .ok (.iload_n 1, 1) := by decide +kernel
theorem dX8_kindsBy_102 : decode cX8_kindsBy 102 = .ok (.if_icmp .ne 17, 3) := by decide +kernel
theorem dX8_kindsBy_105 : decode cX8_kindsBy 105 = .ok (.iload 10, 2) := by decide +kernel
theorem dX8_kindsBy_107 : decode cX8_kindsBy 107 = .ok (.aload_n 0, 1) := by decide +kernel
theorem dX8_kindsBy_108 : decode cX8_kindsBy 108 = .ok (.getfield 7, 3) := by decide +kernel
theorem dX8_kindsBy_111 : decode cX8_kindsBy 111 = .ok (.iload 9, 2) := by decide +kernel
theorem dX8_kindsBy_113 : decode cX8_kindsBy 113 = .ok (.iconst 3, 1) := by decide +kernel
theorem dX8_kindsBy_114 : decode cX8_kindsBy 114 = .ok (.iadd, 1) := by decide +kernel
theorem dX8_kindsBy_115 : decode cX8_kindsBy 115 = .ok (.iaload, 1) := by decide +kernel
theorem dX8_kindsBy_116 : decode cX8_kindsBy 116 = .ok (.if_icmp .ne 7, 3) := by decide +kernel
theorem dX8_kindsBy_119 : decode cX8_kindsBy 119 = .ok (.iconst 1, 1) := by decide +kernel
theorem dX8_kindsBy_120 : decode cX8_kindsBy 120 = .ok (.goto 4, 3) := by decide +kernel
theorem dX8_kindsBy_123 : decode cX8_kindsBy 123 = .ok (.iconst 0, 1) := by decide +kernel
theorem dX8_kindsBy_124 : decode cX8_kindsBy 124 = .ok (.istore 7, 2) := by decide +kernel
theorem dX8_kindsBy_126 : decode cX8_kindsBy 126 = .ok (.iinc 8 1, 3) := by decide +kernel
theorem dX8_kindsBy_129 : decode cX8_kindsBy 129 = .ok (.goto (-110), 3) := by decide +kernel
theorem dX8_kindsBy_132 : decode cX8_kindsBy 132 = .ok (.iload 5, 2) := by decide +kernel
theorem dX8_kindsBy_134 : decode cX8_kindsBy 134 = .ok (.iload 7, 2) := by decide +kernel
theorem dX8_kindsBy_136 : decode cX8_kindsBy 136 = .ok (.ifCond .eq 10, 3) := by decide +kernel
theorem dX8_kindsBy_139 : decode cX8_kindsBy 139 = .ok (.iconst 1, 1) := by decide +kernel
theorem dX8_kindsBy_140 : decode cX8_kindsBy 140 = .ok (.iload 6, 2) := by decide +kernel
theorem dX8_kindsBy_142 : decode cX8_kindsBy 142 = .ok (.ishl, 1) := by decide +kernel
theorem dX8_kindsBy_143 : decode cX8_kindsBy 143 = .ok (.goto 4, 3) := by decide +kernel
theorem dX8_kindsBy_146 : decode cX8_kindsBy 146 = .ok (.iconst 0, 1) := by decide +kernel
theorem dX8_kindsBy_147 : decode cX8_kindsBy 147 = .ok (.ior, 1) := by decide +kernel
theorem dX8_kindsBy_148 : decode cX8_kindsBy 148 = .ok (.istore 5, 2) := by decide +kernel
theorem dX8_kindsBy_150 : decode cX8_kindsBy 150 = .ok (.iinc 6 1, 3) := by decide +kernel
theorem dX8_kindsBy_153 : decode cX8_kindsBy 153 = .ok (.goto (-147), 3) := by decide +kernel
theorem dX8_kindsBy_156 : decode cX8_kindsBy 156 = .ok (.iload 5, 2) := by decide +kernel
theorem dX8_kindsBy_158 : decode cX8_kindsBy 158 = .ok (.ireturn, 1) := by decide +kernel
theorem dX8_kindsOfFlower_0 : decode cX8_kindsOfFlower 0 = .ok (.aload_n 0, 1) := by decide +kernel
theorem dX8_kindsOfFlower_1 : decode cX8_kindsOfFlower 1 = .ok (.iload_n 1, 1) := by decide +kernel
theorem dX8_kindsOfFlower_2 : decode cX8_kindsOfFlower 2 = .ok (.bipush 64, 2) := by decide +kernel
theorem dX8_kindsOfFlower_4 : decode cX8_kindsOfFlower 4 = .ok (.aload_n 0, 1) := by decide +kernel
theorem dX8_kindsOfFlower_5 : decode cX8_kindsOfFlower 5 = .ok (.getfield 7, 3) := by decide +kernel
theorem dX8_kindsOfFlower_8 : decode cX8_kindsOfFlower 8 = .ok (.iconst 3, 1) := by decide +kernel
theorem dX8_kindsOfFlower_9 : decode cX8_kindsOfFlower 9 = .ok (.iaload, 1) := by decide +kernel
theorem dX8_kindsOfFlower_10 : decode cX8_kindsOfFlower 10 = .ok (.iconst 1, 1) := by decide +kernel
theorem dX8_kindsOfFlower_11 : decode cX8_kindsOfFlower 11 = .ok (.invokevirtual 175, 3) := by decide +kernel
theorem dX8_kindsOfFlower_14 : decode cX8_kindsOfFlower 14 = .ok (.ireturn, 1) := by decide +kernel
theorem dX8_kindsOfSleeper_0 : decode cX8_kindsOfSleeper 0 = .ok (.aload_n 0, 1) := by decide +kernel
theorem dX8_kindsOfSleeper_1 : decode cX8_kindsOfSleeper 1 = .ok (.iload_n 1, 1) := by decide +kernel
theorem dX8_kindsOfSleeper_2 : decode cX8_kindsOfSleeper 2 = .ok (.bipush 88, 2) := by decide +kernel
theorem dX8_kindsOfSleeper_4 : decode cX8_kindsOfSleeper 4 = .ok (.aload_n 0, 1) := by decide +kernel
theorem dX8_kindsOfSleeper_5 : decode cX8_kindsOfSleeper 5 = .ok (.getfield 7, 3) := by decide +kernel
theorem dX8_kindsOfSleeper_8 : decode cX8_kindsOfSleeper 8 = .ok (.iconst 4, 1) := by decide +kernel
theorem dX8_kindsOfSleeper_9 : decode cX8_kindsOfSleeper 9 = .ok (.iaload, 1) := by decide +kernel
theorem dX8_kindsOfSleeper_10 : decode cX8_kindsOfSleeper 10 = .ok (.iconst 0, 1) := by decide +kernel
theorem dX8_kindsOfSleeper_11 : decode cX8_kindsOfSleeper 11 = .ok (.invokevirtual 175, 3) := by decide +kernel
theorem dX8_kindsOfSleeper_14 : decode cX8_kindsOfSleeper 14 = .ok (.ireturn, 1) := by decide +kernel
theorem dX8_mostAlike_0 : decode cX8_mostAlike 0 = .ok (.iconst 0, 1) := by decide +kernel
theorem dX8_mostAlike_1 : decode cX8_mostAlike 1 = .ok (.istore_n 2, 1) := by decide +kernel
theorem dX8_mostAlike_2 : decode cX8_mostAlike 2 = .ok (.iconst 0, 1) := by decide +kernel
theorem dX8_mostAlike_3 : decode cX8_mostAlike 3 = .ok (.istore_n 3, 1) := by decide +kernel
theorem dX8_mostAlike_4 : decode cX8_mostAlike 4 = .ok (.iload_n 3, 1) := by decide +kernel
theorem dX8_mostAlike_5 : decode cX8_mostAlike 5 = .ok (.bipush 6, 2) := by decide +kernel
theorem dX8_mostAlike_7 : decode cX8_mostAlike 7 = .ok (.if_icmp .ge 84, 3) := by decide +kernel
theorem dX8_mostAlike_10 : decode cX8_mostAlike 10 = .ok (.iconst 0, 1) := by decide +kernel
theorem dX8_mostAlike_11 : decode cX8_mostAlike 11 = .ok (.istore 4, 2) := by decide +kernel
theorem dX8_mostAlike_13 : decode cX8_mostAlike 13 = .ok (.iconst 0, 1) := by decide +kernel
theorem dX8_mostAlike_14 : decode cX8_mostAlike 14 = .ok (.istore 5, 2) := by decide +kernel
theorem dX8_mostAlike_16 : decode cX8_mostAlike 16 = .ok (.iload 5, 2) := by decide +kernel
theorem dX8_mostAlike_18 : decode cX8_mostAlike 18 = .ok (.bipush 6, 2) := by decide +kernel
theorem dX8_mostAlike_20 : decode cX8_mostAlike 20 = .ok (.if_icmp .ge 52, 3) := by decide +kernel
theorem dX8_mostAlike_23 : decode cX8_mostAlike 23 = .ok (.iload_n 1, 1) := by decide +kernel
theorem dX8_mostAlike_24 : decode cX8_mostAlike 24 = .ok (.iload_n 3, 1) := by decide +kernel
theorem dX8_mostAlike_25 : decode cX8_mostAlike 25 = .ok (.invokestatic 151, 3) := by decide +kernel
theorem dX8_mostAlike_28 : decode cX8_mostAlike 28 = .ok (.ifCond .eq 44, 3) := by decide +kernel
theorem dX8_mostAlike_31 : decode cX8_mostAlike 31 = .ok (.iload 4, 2) := by decide +kernel
theorem dX8_mostAlike_33 : decode cX8_mostAlike 33 = .ok (.iload_n 1, 1) := by decide +kernel
theorem dX8_mostAlike_34 : decode cX8_mostAlike 34 = .ok (.iload 5, 2) := by decide +kernel
theorem dX8_mostAlike_36 : decode cX8_mostAlike 36 = .ok (.invokestatic 151, 3) := by decide +kernel
theorem dX8_mostAlike_39 : decode cX8_mostAlike 39 = .ok (.ifCond .eq 23, 3) := by decide +kernel
theorem dX8_mostAlike_42 : decode cX8_mostAlike 42 = .ok (.aload_n 0, 1) := by decide +kernel
theorem dX8_mostAlike_43 : decode cX8_mostAlike 43 = .ok (.getfield 39, 3) := by decide +kernel
theorem dX8_mostAlike_46 : decode cX8_mostAlike 46 = .ok (.iload_n 3, 1) := by decide +kernel
theorem dX8_mostAlike_47 : decode cX8_mostAlike 47 = .ok (.iaload, 1) := by decide +kernel
theorem dX8_mostAlike_48 : decode cX8_mostAlike 48 = .ok (.aload_n 0, 1) := by decide +kernel
theorem dX8_mostAlike_49 : decode cX8_mostAlike 49 = .ok (.getfield 39, 3) := by decide +kernel
theorem dX8_mostAlike_52 : decode cX8_mostAlike 52 = .ok (.iload 5, 2) := by decide +kernel
theorem dX8_mostAlike_54 : decode cX8_mostAlike 54 = .ok (.iaload, 1) := by decide +kernel
theorem dX8_mostAlike_55 : decode cX8_mostAlike 55 = .ok (.if_icmp .ne 7, 3) := by decide +kernel
theorem dX8_mostAlike_58 : decode cX8_mostAlike 58 = .ok (.iconst 1, 1) := by decide +kernel
theorem dX8_mostAlike_59 : decode cX8_mostAlike 59 = .ok (.goto 4, 3) := by decide +kernel
theorem dX8_mostAlike_62 : decode cX8_mostAlike 62 = .ok (.iconst 0, 1) := by decide +kernel
theorem dX8_mostAlike_63 : decode cX8_mostAlike 63 = .ok (.iadd, 1) := by decide +kernel
theorem dX8_mostAlike_64 : decode cX8_mostAlike 64 = .ok (.istore 4, 2) := by decide +kernel
theorem dX8_mostAlike_66 : decode cX8_mostAlike 66 = .ok (.iinc 5 1, 3) := by decide +kernel
theorem dX8_mostAlike_69 : decode cX8_mostAlike 69 = .ok (.goto (-53), 3) := by decide +kernel
theorem dX8_mostAlike_72 : decode cX8_mostAlike 72 = .ok (.iload 4, 2) := by decide +kernel
theorem dX8_mostAlike_74 : decode cX8_mostAlike 74 = .ok (.iload_n 2, 1) := by decide +kernel
theorem dX8_mostAlike_75 : decode cX8_mostAlike 75 = .ok (.if_icmp .le 8, 3) := by decide +kernel
theorem dX8_mostAlike_78 : decode cX8_mostAlike 78 = .ok (.iload 4, 2) := by decide +kernel
theorem dX8_mostAlike_80 : decode cX8_mostAlike 80 = .ok (.goto 4, 3) := by decide +kernel
theorem dX8_mostAlike_83 : decode cX8_mostAlike 83 = .ok (.iload_n 2, 1) := by decide +kernel
theorem dX8_mostAlike_84 : decode cX8_mostAlike 84 = .ok (.istore_n 2, 1) := by decide +kernel
theorem dX8_mostAlike_85 : decode cX8_mostAlike 85 = .ok (.iinc 3 1, 3) := by decide +kernel
theorem dX8_mostAlike_88 : decode cX8_mostAlike 88 = .ok (.goto (-84), 3) := by decide +kernel
theorem dX8_mostAlike_91 : decode cX8_mostAlike 91 = .ok (.iload_n 2, 1) := by decide +kernel
theorem dX8_mostAlike_92 : decode cX8_mostAlike 92 = .ok (.ireturn, 1) := by decide +kernel
theorem dX8_is_0 : decode cX8_is 0 = .ok (.aload_n 0, 1) := by decide +kernel
theorem dX8_is_1 : decode cX8_is 1 = .ok (.iload_n 1, 1) := by decide +kernel
theorem dX8_is_2 : decode cX8_is 2 = .ok (.invokevirtual 138, 3) := by decide +kernel
theorem dX8_is_5 : decode cX8_is 5 = .ok (.ifCond .eq 11, 3) := by decide +kernel
theorem dX8_is_8 : decode cX8_is 8 = .ok (.aload_n 0, 1) := by decide +kernel
theorem dX8_is_9 : decode cX8_is 9 = .ok (.iload_n 1, 1) := by decide +kernel
theorem dX8_is_10 : decode cX8_is 10 = .ok (.invokevirtual 179, 3) := by decide +kernel
theorem dX8_is_13 : decode cX8_is 13 = .ok (.goto 9, 3) := by decide +kernel
theorem dX8_is_16 : decode cX8_is 16 = .ok (.aload_n 0, 1) := by decide +kernel
theorem dX8_is_17 : decode cX8_is 17 = .ok (.bipush (-2), 2) := by decide +kernel
theorem dX8_is_19 : decode cX8_is 19 = .ok (.invokevirtual 75, 3) := by decide +kernel
theorem dX8_is_22 : decode cX8_is 22 = .ok (.ireturn, 1) := by decide +kernel
theorem dX8_look_0 : decode cX8_look 0 = .ok (.aload_n 0, 1) := by decide +kernel
theorem dX8_look_1 : decode cX8_look 1 = .ok (.iload_n 1, 1) := by decide +kernel
theorem dX8_look_2 : decode cX8_look 2 = .ok (.invokevirtual 138, 3) := by decide +kernel
theorem dX8_look_5 : decode cX8_look 5 = .ok (.ifCond .ne 10, 3) := by decide +kernel
theorem dX8_look_8 : decode cX8_look 8 = .ok (.aload_n 0, 1) := by decide +kernel
theorem dX8_look_9 : decode cX8_look 9 = .ok (.bipush (-2), 2) := by decide +kernel
theorem dX8_look_11 : decode cX8_look 11 = .ok (.invokevirtual 75, 3) := by decide +kernel
theorem dX8_look_14 : decode cX8_look 14 = .ok (.ireturn, 1) := by decide +kernel
theorem dX8_look_15 : decode cX8_look 15 = .ok (.aload_n 0, 1) := by decide +kernel
theorem dX8_look_16 : decode cX8_look 16 = .ok (.iload_n 1, 1) := by decide +kernel
theorem dX8_look_17 : decode cX8_look 17 = .ok (.invokevirtual 179, 3) := by decide +kernel
theorem dX8_look_20 : decode cX8_look 20 = .ok (.istore_n 2, 1) := by decide +kernel
theorem dX8_look_21 : decode cX8_look 21 = .ok (.iconst (-1), 1) := by decide +kernel
theorem dX8_look_22 : decode cX8_look 22 = .ok (.istore_n 3, 1) := by decide +kernel
theorem dX8_look_23 : decode cX8_look 23 = .ok (.ldc 158, 2) := by decide +kernel
theorem dX8_look_25 : decode cX8_look 25 = .ok (.istore 4, 2) := by decide +kernel
theorem dX8_look_27 : decode cX8_look 27 = .ok (.iconst 0, 1) := by decide +kernel
theorem dX8_look_28 : decode cX8_look 28 = .ok (.istore 5, 2) := by decide +kernel
theorem dX8_look_30 : decode cX8_look 30 = .ok (.iload 5, 2) := by decide +kernel
theorem dX8_look_32 : decode cX8_look 32 = .ok (.bipush 12, 2) := by decide +kernel
theorem dX8_look_34 : decode cX8_look 34 = .ok (.if_icmp .ge 89, 3) := by decide +kernel
theorem dX8_look_37 : decode cX8_look 37 = .ok (.iload_n 2, 1) := by decide +kernel
theorem dX8_look_38 : decode cX8_look 38 = .ok (.ifCond .le 85, 3) := by decide +kernel
theorem dX8_look_41 : decode cX8_look 41 = .ok (.iconst 0, 1) := by decide +kernel
theorem dX8_look_42 : decode cX8_look 42 = .ok (.istore 6, 2) := by decide +kernel
theorem dX8_look_44 : decode cX8_look 44 = .ok (.iload 6, 2) := by decide +kernel
theorem dX8_look_46 : decode cX8_look 46 = .ok (.bipush 6, 2) := by decide +kernel
theorem dX8_look_48 : decode cX8_look 48 = .ok (.if_icmp .ge 32, 3) := by decide +kernel
theorem dX8_look_51 : decode cX8_look 51 = .ok (.aload_n 0, 1) := by decide +kernel
theorem dX8_look_52 : decode cX8_look 52 = .ok (.getfield 39, 3) := by decide +kernel
theorem dX8_look_55 : decode cX8_look 55 = .ok (.iload 6, 2) := by decide +kernel
theorem dX8_look_57 : decode cX8_look 57 = .ok (.iload 6, 2) := by decide +kernel
theorem dX8_look_59 : decode cX8_look 59 = .ok (.aload_n 0, 1) := by decide +kernel
theorem dX8_look_60 : decode cX8_look 60 = .ok (.getfield 7, 3) := by decide +kernel
theorem dX8_look_63 : decode cX8_look 63 = .ok (.bipush 43, 2) := by decide +kernel
theorem dX8_look_65 : decode cX8_look 65 = .ok (.iload_n 1, 1) := by decide +kernel
theorem dX8_look_66 : decode cX8_look 66 = .ok (.iadd, 1) := by decide +kernel
theorem dX8_look_67 : decode cX8_look 67 = .ok (.iaload, 1) := by decide +kernel
theorem dX8_look_68 : decode cX8_look 68 = .ok (.iload 5, 2) := by decide +kernel
theorem dX8_look_70 : decode cX8_look 70 = .ok (.invokestatic 96, 3) := by decide +kernel
theorem dX8_look_73 : decode cX8_look 73 = .ok (.iastore, 1) := by decide +kernel
theorem dX8_look_74 : decode cX8_look 74 = .ok (.iinc 6 1, 3) := by decide +kernel
theorem dX8_look_77 : decode cX8_look 77 = .ok (.goto (-33), 3) := by decide +kernel
theorem dX8_look_80 : decode cX8_look 80 = .ok (.aload_n 0, 1) := by decide +kernel
theorem dX8_look_81 : decode cX8_look 81 = .ok (.iload_n 2, 1) := by decide +kernel
theorem dX8_look_82 : decode cX8_look 82 = .ok (.invokevirtual 182, 3) := by decide +kernel
theorem dX8_look_85 : decode cX8_look 85 = .ok (.istore 6, 2) := by decide +kernel
theorem dX8_look_87 : decode cX8_look 87 = .ok (.iload 6, 2) := by decide +kernel
theorem dX8_look_89 : decode cX8_look 89 = .ok (.iload 4, 2) := by decide +kernel
theorem dX8_look_91 : decode cX8_look 91 = .ok (.if_icmp .ge 8, 3) := by decide +kernel
theorem dX8_look_94 : decode cX8_look 94 = .ok (.iload 5, 2) := by decide +kernel
theorem dX8_look_96 : decode cX8_look 96 = .ok (.goto 4, 3) := by decide +kernel
theorem dX8_look_99 : decode cX8_look 99 = .ok (.iload_n 3, 1) := by decide +kernel
theorem dX8_look_100 : decode cX8_look 100 = .ok (.istore_n 3, 1) := by decide +kernel
theorem dX8_look_101 : decode cX8_look 101 = .ok (.iload 6, 2) := by decide +kernel
theorem dX8_look_103 : decode cX8_look 103 = .ok (.iload 4, 2) := by decide +kernel
theorem dX8_look_105 : decode cX8_look 105 = .ok (.if_icmp .ge 8, 3) := by decide +kernel
theorem dX8_look_108 : decode cX8_look 108 = .ok (.iload 6, 2) := by decide +kernel
theorem dX8_look_110 : decode cX8_look 110 = .ok (.goto 5, 3) := by decide +kernel
theorem dX8_look_113 : decode cX8_look 113 = .ok (.iload 4, 2) := by decide +kernel
theorem dX8_look_115 : decode cX8_look 115 = .ok (.istore 4, 2) := by decide +kernel
theorem dX8_look_117 : decode cX8_look 117 = .ok (.iinc 5 1, 3) := by decide +kernel
theorem dX8_look_120 : decode cX8_look 120 = .ok (.goto (-90), 3) := by decide +kernel
theorem dX8_look_123 : decode cX8_look 123 = .ok (.iload_n 3, 1) := by decide +kernel
theorem dX8_look_124 : decode cX8_look 124 = .ok (.ireturn, 1) := by decide +kernel
theorem dX8_kinds_0 : decode cX8_kinds 0 = .ok (.aload_n 0, 1) := by decide +kernel
theorem dX8_kinds_1 : decode cX8_kinds 1 = .ok (.iload_n 1, 1) := by decide +kernel
theorem dX8_kinds_2 : decode cX8_kinds 2 = .ok (.invokevirtual 132, 3) := by decide +kernel
theorem dX8_kinds_5 : decode cX8_kinds 5 = .ok (.ifCond .eq 11, 3) := by decide +kernel
theorem dX8_kinds_8 : decode cX8_kinds 8 = .ok (.aload_n 0, 1) := by decide +kernel
theorem dX8_kinds_9 : decode cX8_kinds 9 = .ok (.iload_n 1, 1) := by decide +kernel
theorem dX8_kinds_10 : decode cX8_kinds 10 = .ok (.invokevirtual 185, 3) := by decide +kernel
theorem dX8_kinds_13 : decode cX8_kinds 13 = .ok (.goto 9, 3) := by decide +kernel
theorem dX8_kinds_16 : decode cX8_kinds 16 = .ok (.aload_n 0, 1) := by decide +kernel
theorem dX8_kinds_17 : decode cX8_kinds 17 = .ok (.bipush (-2), 2) := by decide +kernel
theorem dX8_kinds_19 : decode cX8_kinds 19 = .ok (.invokevirtual 75, 3) := by decide +kernel
theorem dX8_kinds_22 : decode cX8_kinds 22 = .ok (.ireturn, 1) := by decide +kernel
theorem dX8_ask_0 : decode cX8_ask 0 = .ok (.aload_n 0, 1) := by decide +kernel
theorem dX8_ask_1 : decode cX8_ask 1 = .ok (.iload_n 1, 1) := by decide +kernel
theorem dX8_ask_2 : decode cX8_ask 2 = .ok (.invokevirtual 132, 3) := by decide +kernel
theorem dX8_ask_5 : decode cX8_ask 5 = .ok (.ifCond .ne 10, 3) := by decide +kernel
theorem dX8_ask_8 : decode cX8_ask 8 = .ok (.aload_n 0, 1) := by decide +kernel
theorem dX8_ask_9 : decode cX8_ask 9 = .ok (.bipush (-2), 2) := by decide +kernel
theorem dX8_ask_11 : decode cX8_ask 11 = .ok (.invokevirtual 75, 3) := by decide +kernel
theorem dX8_ask_14 : decode cX8_ask 14 = .ok (.ireturn, 1) := by decide +kernel
theorem dX8_ask_15 : decode cX8_ask 15 = .ok (.aload_n 0, 1) := by decide +kernel
theorem dX8_ask_16 : decode cX8_ask 16 = .ok (.iload_n 1, 1) := by decide +kernel
theorem dX8_ask_17 : decode cX8_ask 17 = .ok (.invokevirtual 185, 3) := by decide +kernel
theorem dX8_ask_20 : decode cX8_ask 20 = .ok (.istore_n 2, 1) := by decide +kernel
theorem dX8_ask_21 : decode cX8_ask 21 = .ok (.iconst (-1), 1) := by decide +kernel
theorem dX8_ask_22 : decode cX8_ask 22 = .ok (.istore_n 3, 1) := by decide +kernel
theorem dX8_ask_23 : decode cX8_ask 23 = .ok (.ldc 158, 2) := by decide +kernel
theorem dX8_ask_25 : decode cX8_ask 25 = .ok (.istore 4, 2) := by decide +kernel
theorem dX8_ask_27 : decode cX8_ask 27 = .ok (.iconst 0, 1) := by decide +kernel
theorem dX8_ask_28 : decode cX8_ask 28 = .ok (.istore 5, 2) := by decide +kernel
theorem dX8_ask_30 : decode cX8_ask 30 = .ok (.iload 5, 2) := by decide +kernel
theorem dX8_ask_32 : decode cX8_ask 32 = .ok (.sipush 210, 3) := by decide +kernel
theorem dX8_ask_35 : decode cX8_ask 35 = .ok (.if_icmp .ge 88, 3) := by decide +kernel
theorem dX8_ask_38 : decode cX8_ask 38 = .ok (.iload_n 2, 1) := by decide +kernel
theorem dX8_ask_39 : decode cX8_ask 39 = .ok (.ifCond .le 84, 3) := by decide +kernel
theorem dX8_ask_42 : decode cX8_ask 42 = .ok (.iconst 0, 1) := by decide +kernel
theorem dX8_ask_43 : decode cX8_ask 43 = .ok (.istore 6, 2) := by decide +kernel
theorem dX8_ask_45 : decode cX8_ask 45 = .ok (.iload 6, 2) := by decide +kernel
theorem dX8_ask_47 : decode cX8_ask 47 = .ok (.bipush 6, 2) := by decide +kernel
theorem dX8_ask_49 : decode cX8_ask 49 = .ok (.if_icmp .ge 31, 3) := by decide +kernel
theorem dX8_ask_52 : decode cX8_ask 52 = .ok (.aload_n 0, 1) := by decide +kernel
theorem dX8_ask_53 : decode cX8_ask 53 = .ok (.getfield 39, 3) := by decide +kernel
theorem dX8_ask_56 : decode cX8_ask 56 = .ok (.iload 6, 2) := by decide +kernel
theorem dX8_ask_58 : decode cX8_ask 58 = .ok (.iload 6, 2) := by decide +kernel
theorem dX8_ask_60 : decode cX8_ask 60 = .ok (.iload 5, 2) := by decide +kernel
theorem dX8_ask_62 : decode cX8_ask 62 = .ok (.bipush 10, 2) := by decide +kernel
theorem dX8_ask_64 : decode cX8_ask 64 = .ok (.idiv, 1) := by decide +kernel
theorem dX8_ask_65 : decode cX8_ask 65 = .ok (.iload 5, 2) := by decide +kernel
theorem dX8_ask_67 : decode cX8_ask 67 = .ok (.bipush 10, 2) := by decide +kernel
theorem dX8_ask_69 : decode cX8_ask 69 = .ok (.irem, 1) := by decide +kernel
theorem dX8_ask_70 : decode cX8_ask 70 = .ok (.invokestatic 100, 3) := by decide +kernel
theorem dX8_ask_73 : decode cX8_ask 73 = .ok (.iastore, 1) := by decide +kernel
theorem dX8_ask_74 : decode cX8_ask 74 = .ok (.iinc 6 1, 3) := by decide +kernel
theorem dX8_ask_77 : decode cX8_ask 77 = .ok (.goto (-32), 3) := by decide +kernel
theorem dX8_ask_80 : decode cX8_ask 80 = .ok (.aload_n 0, 1) := by decide +kernel
theorem dX8_ask_81 : decode cX8_ask 81 = .ok (.iload_n 2, 1) := by decide +kernel
theorem dX8_ask_82 : decode cX8_ask 82 = .ok (.invokevirtual 182, 3) := by decide +kernel
theorem dX8_ask_85 : decode cX8_ask 85 = .ok (.istore 6, 2) := by decide +kernel
theorem dX8_ask_87 : decode cX8_ask 87 = .ok (.iload 6, 2) := by decide +kernel
theorem dX8_ask_89 : decode cX8_ask 89 = .ok (.iload 4, 2) := by decide +kernel
theorem dX8_ask_91 : decode cX8_ask 91 = .ok (.if_icmp .ge 8, 3) := by decide +kernel
theorem dX8_ask_94 : decode cX8_ask 94 = .ok (.iload 5, 2) := by decide +kernel
theorem dX8_ask_96 : decode cX8_ask 96 = .ok (.goto 4, 3) := by decide +kernel
theorem dX8_ask_99 : decode cX8_ask 99 = .ok (.iload_n 3, 1) := by decide +kernel
theorem dX8_ask_100 : decode cX8_ask 100 = .ok (.istore_n 3, 1) := by decide +kernel
theorem dX8_ask_101 : decode cX8_ask 101 = .ok (.iload 6, 2) := by decide +kernel
theorem dX8_ask_103 : decode cX8_ask 103 = .ok (.iload 4, 2) := by decide +kernel
theorem dX8_ask_105 : decode cX8_ask 105 = .ok (.if_icmp .ge 8, 3) := by decide +kernel
theorem dX8_ask_108 : decode cX8_ask 108 = .ok (.iload 6, 2) := by decide +kernel
theorem dX8_ask_110 : decode cX8_ask 110 = .ok (.goto 5, 3) := by decide +kernel
theorem dX8_ask_113 : decode cX8_ask 113 = .ok (.iload 4, 2) := by decide +kernel
theorem dX8_ask_115 : decode cX8_ask 115 = .ok (.istore 4, 2) := by decide +kernel
theorem dX8_ask_117 : decode cX8_ask 117 = .ok (.iinc 5 1, 3) := by decide +kernel
theorem dX8_ask_120 : decode cX8_ask 120 = .ok (.goto (-90), 3) := by decide +kernel
theorem dX8_ask_123 : decode cX8_ask 123 = .ok (.iload_n 3, 1) := by decide +kernel
theorem dX8_ask_124 : decode cX8_ask 124 = .ok (.ireturn, 1) := by decide +kernel
theorem dX8_getsOn_0 : decode cX8_getsOn 0 = .ok (.aload_n 0, 1) := by decide +kernel
theorem dX8_getsOn_1 : decode cX8_getsOn 1 = .ok (.getfield 7, 3) := by decide +kernel
theorem dX8_getsOn_4 : decode cX8_getsOn 4 = .ok (.iload_n 2, 1) := by decide +kernel
theorem dX8_getsOn_5 : decode cX8_getsOn 5 = .ok (.invokestatic 67, 3) := by decide +kernel
theorem dX8_getsOn_8 : decode cX8_getsOn 8 = .ok (.istore 4, 2) := by decide +kernel
theorem dX8_getsOn_10 : decode cX8_getsOn 10 = .ok (.iload 4, 2) := by decide +kernel
theorem dX8_getsOn_12 : decode cX8_getsOn 12 = .ok (.iconst (-1), 1) := by decide +kernel
theorem dX8_getsOn_13 : decode cX8_getsOn 13 = .ok (.if_icmp .ne 7, 3) := by decide +kernel
theorem dX8_getsOn_16 : decode cX8_getsOn 16 = .ok (.iconst 0, 1) := by decide +kernel
theorem dX8_getsOn_17 : decode cX8_getsOn 17 = .ok (.goto 13, 3) := by decide +kernel
theorem dX8_getsOn_20 : decode cX8_getsOn 20 = .ok (.aload_n 0, 1) := by decide +kernel
theorem dX8_getsOn_21 : decode cX8_getsOn 21 = .ok (.getfield 7, 3) := by decide +kernel
theorem dX8_getsOn_24 : decode cX8_getsOn 24 = .ok (.iload 4, 2) := by decide +kernel
theorem dX8_getsOn_26 : decode cX8_getsOn 26 = .ok (.iload_n 1, 1) := by decide +kernel
theorem dX8_getsOn_27 : decode cX8_getsOn 27 = .ok (.invokestatic 103, 3) := by decide +kernel
theorem dX8_getsOn_30 : decode cX8_getsOn 30 = .ok (.iload_n 2, 1) := by decide +kernel
theorem dX8_getsOn_31 : decode cX8_getsOn 31 = .ok (.iload_n 3, 1) := by decide +kernel
theorem dX8_getsOn_32 : decode cX8_getsOn 32 = .ok (.if_icmp .ne 7, 3) := by decide +kernel
theorem dX8_getsOn_35 : decode cX8_getsOn 35 = .ok (.iconst 2, 1) := by decide +kernel
theorem dX8_getsOn_36 : decode cX8_getsOn 36 = .ok (.goto 4, 3) := by decide +kernel
theorem dX8_getsOn_39 : decode cX8_getsOn 39 = .ok (.iconst 0, 1) := by decide +kernel
theorem dX8_getsOn_40 : decode cX8_getsOn 40 = .ok (.isub, 1) := by decide +kernel
theorem dX8_getsOn_41 : decode cX8_getsOn 41 = .ok (.ireturn, 1) := by decide +kernel
theorem dX8_isBestOn_0 : decode cX8_isBestOn 0 = .ok (.iconst 1, 1) := by decide +kernel
theorem dX8_isBestOn_1 : decode cX8_isBestOn 1 = .ok (.istore 4, 2) := by decide +kernel
theorem dX8_isBestOn_3 : decode cX8_isBestOn 3 = .ok (.iconst 0, 1) := by decide +kernel
theorem dX8_isBestOn_4 : decode cX8_isBestOn 4 = .ok (.istore 5, 2) := by decide +kernel
theorem dX8_isBestOn_6 : decode cX8_isBestOn 6 = .ok (.iload 5, 2) := by decide +kernel
theorem dX8_isBestOn_8 : decode cX8_isBestOn 8 = .ok (.bipush 6, 2) := by decide +kernel
theorem dX8_isBestOn_10 : decode cX8_isBestOn 10 = .ok (.if_icmp .ge 39, 3) := by decide +kernel
theorem dX8_isBestOn_13 : decode cX8_isBestOn 13 = .ok (.iload 4, 2) := by decide +kernel
theorem dX8_isBestOn_15 : decode cX8_isBestOn 15 = .ok (.ifCond .eq 34, 3) := by decide +kernel
theorem dX8_isBestOn_18 : decode cX8_isBestOn 18 = .ok (.aload_n 0, 1) := by decide +kernel
theorem dX8_isBestOn_19 : decode cX8_isBestOn 19 = .ok (.iload_n 1, 1) := by decide +kernel
theorem dX8_isBestOn_20 : decode cX8_isBestOn 20 = .ok (.iload 5, 2) := by decide +kernel
theorem dX8_isBestOn_22 : decode cX8_isBestOn 22 = .ok (.iload_n 3, 1) := by decide +kernel
theorem dX8_isBestOn_23 : decode cX8_isBestOn 23 = .ok (.invokevirtual 188, 3) := by decide +kernel
theorem dX8_isBestOn_26 : decode cX8_isBestOn 26 = .ok (.aload_n 0, 1) := by decide +kernel
theorem dX8_isBestOn_27 : decode cX8_isBestOn 27 = .ok (.iload_n 1, 1) := by decide +kernel
theorem dX8_isBestOn_28 : decode cX8_isBestOn 28 = .ok (.iload_n 2, 1) := by decide +kernel
theorem dX8_isBestOn_29 : decode cX8_isBestOn 29 = .ok (.iload_n 3, 1) := by decide +kernel
theorem dX8_isBestOn_30 : decode cX8_isBestOn 30 = .ok (.invokevirtual 188, 3) := by decide +kernel
theorem dX8_isBestOn_33 : decode cX8_isBestOn 33 = .ok (.if_icmp .gt 7, 3) := by decide +kernel
theorem dX8_isBestOn_36 : decode cX8_isBestOn 36 = .ok (.iconst 1, 1) := by decide +kernel
theorem dX8_isBestOn_37 : decode cX8_isBestOn 37 = .ok (.goto 4, 3) := by decide +kernel
theorem dX8_isBestOn_40 : decode cX8_isBestOn 40 = .ok (.iconst 0, 1) := by decide +kernel
theorem dX8_isBestOn_41 : decode cX8_isBestOn 41 = .ok (.istore 4, 2) := by decide +kernel
theorem dX8_isBestOn_43 : decode cX8_isBestOn 43 = .ok (.iinc 5 1, 3) := by decide +kernel
theorem dX8_isBestOn_46 : decode cX8_isBestOn 46 = .ok (.goto (-40), 3) := by decide +kernel
theorem dX8_isBestOn_49 : decode cX8_isBestOn 49 = .ok (.iload 4, 2) := by decide +kernel
theorem dX8_isBestOn_51 : decode cX8_isBestOn 51 = .ok (.ireturn, 1) := by decide +kernel
theorem dX8_senders_0 : decode cX8_senders 0 = .ok (.aload_n 0, 1) := by decide +kernel
theorem dX8_senders_1 : decode cX8_senders 1 = .ok (.iload_n 1, 1) := by decide +kernel
theorem dX8_senders_2 : decode cX8_senders 2 = .ok (.invokevirtual 138, 3) := by decide +kernel
theorem dX8_senders_5 : decode cX8_senders 5 = .ok (.ifCond .eq 21, 3) := by decide +kernel
theorem dX8_senders_8 : decode cX8_senders 8 = .ok (.aload_n 0, 1) := by decide +kernel
theorem dX8_senders_9 : decode cX8_senders 9 = .ok (.iload_n 2, 1) := by decide +kernel
theorem dX8_senders_10 : decode cX8_senders 10 = .ok (.invokevirtual 138, 3) := by decide +kernel
theorem dX8_senders_13 : decode cX8_senders 13 = .ok (.ifCond .eq 13, 3) := by decide +kernel
theorem dX8_senders_16 : decode cX8_senders 16 = .ok (.iload_n 1, 1) := by decide +kernel
theorem dX8_senders_17 : decode cX8_senders 17 = .ok (.iload_n 2, 1) := by decide +kernel
theorem dX8_senders_18 : decode cX8_senders 18 = .ok (.if_icmp .eq 8, 3) := by decide +kernel
theorem dX8_senders_21 : decode cX8_senders 21 = .ok (.iload_n 3, 1) := by decide +kernel
theorem dX8_senders_22 : decode cX8_senders 22 = .ok (.iconst (-1), 1) := by decide +kernel
theorem dX8_senders_23 : decode cX8_senders 23 = .ok (.if_icmp .ge 10, 3) := by decide +kernel
theorem dX8_senders_26 : decode cX8_senders 26 = .ok (.aload_n 0, 1) := by decide +kernel
theorem dX8_senders_27 : decode cX8_senders 27 = .ok (.bipush (-10), 2) := by decide +kernel
theorem dX8_senders_29 : decode cX8_senders 29 = .ok (.invokevirtual 75, 3) := by decide +kernel
theorem dX8_senders_32 : decode cX8_senders 32 = .ok (.ireturn, 1) := by decide +kernel
theorem dX8_senders_33 : decode cX8_senders 33 = .ok (.iconst 0, 1) := by decide +kernel
theorem dX8_senders_34 : decode cX8_senders 34 = .ok (.istore 4, 2) := by decide +kernel
theorem dX8_senders_36 : decode cX8_senders 36 = .ok (.iconst 0, 1) := by decide +kernel
theorem dX8_senders_37 : decode cX8_senders 37 = .ok (.istore 5, 2) := by decide +kernel
theorem dX8_senders_39 : decode cX8_senders 39 = .ok (.iload 5, 2) := by decide +kernel
theorem dX8_senders_41 : decode cX8_senders 41 = .ok (.bipush 6, 2) := by decide +kernel
theorem dX8_senders_43 : decode cX8_senders 43 = .ok (.if_icmp .ge 67, 3) := by decide +kernel
theorem dX8_senders_46 : decode cX8_senders 46 = .ok (.iconst 0, 1) := by decide +kernel
theorem dX8_senders_47 : decode cX8_senders 47 = .ok (.istore 6, 2) := by decide +kernel
theorem dX8_senders_49 : decode cX8_senders 49 = .ok (.iload 6, 2) := by decide +kernel
theorem dX8_senders_51 : decode cX8_senders 51 = .ok (.bipush 6, 2) := by decide +kernel
theorem dX8_senders_53 : decode cX8_senders 53 = .ok (.if_icmp .ge 51, 3) := by decide +kernel
theorem dX8_senders_56 : decode cX8_senders 56 = .ok (.aload_n 0, 1) := by decide +kernel
theorem dX8_senders_57 : decode cX8_senders 57 = .ok (.iload_n 1, 1) := by decide +kernel
theorem dX8_senders_58 : decode cX8_senders 58 = .ok (.iload 5, 2) := by decide +kernel
theorem dX8_senders_60 : decode cX8_senders 60 = .ok (.iload 6, 2) := by decide +kernel
theorem dX8_senders_62 : decode cX8_senders 62 = .ok (.invokevirtual 191, 3) := by decide +kernel
theorem dX8_senders_65 : decode cX8_senders 65 = .ok (.ifCond .eq 33, 3) := by decide +kernel
theorem dX8_senders_68 : decode cX8_senders 68 = .ok (.aload_n 0, 1) := by decide +kernel
theorem dX8_senders_69 : decode cX8_senders 69 = .ok (.iload_n 2, 1) := by decide +kernel
theorem dX8_senders_70 : decode cX8_senders 70 = .ok (.iload 6, 2) := by decide +kernel
theorem dX8_senders_72 : decode cX8_senders 72 = .ok (.iload 5, 2) := by decide +kernel
theorem dX8_senders_74 : decode cX8_senders 74 = .ok (.invokevirtual 191, 3) := by decide +kernel
theorem dX8_senders_77 : decode cX8_senders 77 = .ok (.ifCond .eq 21, 3) := by decide +kernel
theorem dX8_senders_80 : decode cX8_senders 80 = .ok (.iload 4, 2) := by decide +kernel
theorem dX8_senders_82 : decode cX8_senders 82 = .ok (.iload_n 3, 1) := by decide +kernel
theorem dX8_senders_83 : decode cX8_senders 83 = .ok (.if_icmp .ne 12, 3) := by decide +kernel
theorem dX8_senders_86 : decode cX8_senders 86 = .ok (.bipush 10, 2) := by decide +kernel
theorem dX8_senders_88 : decode cX8_senders 88 = .ok (.iload 5, 2) := by decide +kernel
theorem dX8_senders_90 : decode cX8_senders 90 = .ok (.imul, 1) := by decide +kernel
theorem dX8_senders_91 : decode cX8_senders 91 = .ok (.iload 6, 2) := by decide +kernel
theorem dX8_senders_93 : decode cX8_senders 93 = .ok (.iadd, 1) := by decide +kernel
theorem dX8_senders_94 : decode cX8_senders 94 = .ok (.ireturn, 1) := by decide +kernel
theorem dX8_senders_95 : decode cX8_senders 95 = .ok (.iinc 4 1, 3) := by decide +kernel
theorem dX8_senders_98 : decode cX8_senders 98 = .ok (.iinc 6 1, 3) := by decide +kernel
theorem dX8_senders_101 : decode cX8_senders 101 = .ok (.goto (-52), 3) := by decide +kernel
theorem dX8_senders_104 : decode cX8_senders 104 = .ok (.iinc 5 1, 3) := by decide +kernel
theorem dX8_senders_107 : decode cX8_senders 107 = .ok (.goto (-68), 3) := by decide +kernel
theorem dX8_senders_110 : decode cX8_senders 110 = .ok (.iload_n 3, 1) := by decide +kernel
theorem dX8_senders_111 : decode cX8_senders 111 = .ok (.iconst (-1), 1) := by decide +kernel
theorem dX8_senders_112 : decode cX8_senders 112 = .ok (.if_icmp .ne 8, 3) := by decide +kernel
theorem dX8_senders_115 : decode cX8_senders 115 = .ok (.iload 4, 2) := by decide +kernel
theorem dX8_senders_117 : decode cX8_senders 117 = .ok (.goto 5, 3) := by decide +kernel
theorem dX8_senders_120 : decode cX8_senders 120 = .ok (.bipush (-5), 2) := by decide +kernel
theorem dX8_senders_122 : decode cX8_senders 122 = .ok (.ireturn, 1) := by decide +kernel
theorem dX8_fraction_0 : decode cX8_fraction 0 = .ok (.lload_n 1, 1) := by decide +kernel
theorem dX8_fraction_1 : decode cX8_fraction 1 = .ok (.lstore 5, 2) := by decide +kernel
theorem dX8_fraction_3 : decode cX8_fraction 3 = .ok (.lload_n 3, 1) := by decide +kernel
theorem dX8_fraction_4 : decode cX8_fraction 4 = .ok (.lstore 7, 2) := by decide +kernel
theorem dX8_fraction_6 : decode cX8_fraction 6 = .ok (.lload 7, 2) := by decide +kernel
theorem dX8_fraction_8 : decode cX8_fraction 8 = .ok (.lconst 0, 1) := by decide +kernel
theorem dX8_fraction_9 : decode cX8_fraction 9 = .ok (.lcmp, 1) := by decide +kernel
theorem dX8_fraction_10 : decode cX8_fraction 10 = .ok (.ifCond .eq 21, 3) := by decide +kernel
theorem dX8_fraction_13 : decode cX8_fraction 13 = .ok (.lload 5, 2) := by decide +kernel
theorem dX8_fraction_15 : decode cX8_fraction 15 = .ok (.lload 7, 2) := by decide +kernel
theorem dX8_fraction_17 : decode cX8_fraction 17 = .ok (.lrem, 1) := by decide +kernel
theorem dX8_fraction_18 : decode cX8_fraction 18 = .ok (.lstore 9, 2) := by decide +kernel
theorem dX8_fraction_20 : decode cX8_fraction 20 = .ok (.lload 7, 2) := by decide +kernel
theorem dX8_fraction_22 : decode cX8_fraction 22 = .ok (.lstore 5, 2) := by decide +kernel
theorem dX8_fraction_24 : decode cX8_fraction 24 = .ok (.lload 9, 2) := by decide +kernel
theorem dX8_fraction_26 : decode cX8_fraction 26 = .ok (.lstore 7, 2) := by decide +kernel
theorem dX8_fraction_28 : decode cX8_fraction 28 = .ok (.goto (-22), 3) := by decide +kernel
theorem dX8_fraction_31 : decode cX8_fraction 31 = .ok (.aload_n 0, 1) := by decide +kernel
theorem dX8_fraction_32 : decode cX8_fraction 32 = .ok (.lload_n 1, 1) := by decide +kernel
theorem dX8_fraction_33 : decode cX8_fraction 33 = .ok (.lload 5, 2) := by decide +kernel
theorem dX8_fraction_35 : decode cX8_fraction 35 = .ok (.ldiv, 1) := by decide +kernel
theorem dX8_fraction_36 : decode cX8_fraction 36 = .ok (.putfield 195, 3) := by decide +kernel
theorem dX8_fraction_39 : decode cX8_fraction 39 = .ok (.aload_n 0, 1) := by decide +kernel
theorem dX8_fraction_40 : decode cX8_fraction 40 = .ok (.lload_n 3, 1) := by decide +kernel
theorem dX8_fraction_41 : decode cX8_fraction 41 = .ok (.lload 5, 2) := by decide +kernel
theorem dX8_fraction_43 : decode cX8_fraction 43 = .ok (.ldiv, 1) := by decide +kernel
theorem dX8_fraction_44 : decode cX8_fraction 44 = .ok (.putfield 23, 3) := by decide +kernel
theorem dX8_fraction_47 : decode cX8_fraction 47 = .ok (.return_, 1) := by decide +kernel
theorem dX8_slips_0 : decode cX8_slips 0 = .ok (.aload_n 0, 1) := by decide +kernel
theorem dX8_slips_1 : decode cX8_slips 1 = .ok (.iload_n 1, 1) := by decide +kernel
theorem dX8_slips_2 : decode cX8_slips 2 = .ok (.invokevirtual 132, 3) := by decide +kernel
theorem dX8_slips_5 : decode cX8_slips 5 = .ok (.ifCond .eq 15, 3) := by decide +kernel
theorem dX8_slips_8 : decode cX8_slips 8 = .ok (.iload_n 2, 1) := by decide +kernel
theorem dX8_slips_9 : decode cX8_slips 9 = .ok (.i2l, 1) := by decide +kernel
theorem dX8_slips_10 : decode cX8_slips 10 = .ok (.lconst 0, 1) := by decide +kernel
theorem dX8_slips_11 : decode cX8_slips 11 = .ok (.ldc2_w 198, 3) := by decide +kernel
theorem dX8_slips_14 : decode cX8_slips 14 = .ok (.invokestatic 59, 3) := by decide +kernel
theorem dX8_slips_17 : decode cX8_slips 17 = .ok (.ifCond .ne 10, 3) := by decide +kernel
theorem dX8_slips_20 : decode cX8_slips 20 = .ok (.aload_n 0, 1) := by decide +kernel
theorem dX8_slips_21 : decode cX8_slips 21 = .ok (.bipush (-2), 2) := by decide +kernel
theorem dX8_slips_23 : decode cX8_slips 23 = .ok (.invokevirtual 75, 3) := by decide +kernel
theorem dX8_slips_26 : decode cX8_slips 26 = .ok (.ireturn, 1) := by decide +kernel
theorem dX8_slips_27 : decode cX8_slips 27 = .ok (.lconst 0, 1) := by decide +kernel
theorem dX8_slips_28 : decode cX8_slips 28 = .ok (.lstore_n 3, 1) := by decide +kernel
theorem dX8_slips_29 : decode cX8_slips 29 = .ok (.iconst 0, 1) := by decide +kernel
theorem dX8_slips_30 : decode cX8_slips 30 = .ok (.istore 5, 2) := by decide +kernel
theorem dX8_slips_32 : decode cX8_slips 32 = .ok (.iload 5, 2) := by decide +kernel
theorem dX8_slips_34 : decode cX8_slips 34 = .ok (.aload_n 0, 1) := by decide +kernel
theorem dX8_slips_35 : decode cX8_slips 35 = .ok (.getfield 7, 3) := by decide +kernel
theorem dX8_slips_38 : decode cX8_slips 38 = .ok (.iconst 1, 1) := by decide +kernel
theorem dX8_slips_39 : decode cX8_slips 39 = .ok (.iaload, 1) := by decide +kernel
theorem dX8_slips_40 : decode cX8_slips 40 = .ok (.if_icmp .ge 97, 3) := by decide +kernel
theorem dX8_slips_43 : decode cX8_slips 43 = .ok (.aload_n 0, 1) := by decide +kernel
theorem dX8_slips_44 : decode cX8_slips 44 = .ok (.getfield 7, 3) := by decide +kernel
theorem dX8_slips_47 : decode cX8_slips 47 = .ok (.iload_n 1, 1) := by decide +kernel
theorem dX8_slips_48 : decode cX8_slips 48 = .ok (.iload 5, 2) := by decide +kernel
theorem dX8_slips_50 : decode cX8_slips 50 = .ok (.invokestatic 103, 3) := by decide +kernel
theorem dX8_slips_53 : decode cX8_slips 53 = .ok (.istore 6, 2) := by decide +kernel
theorem dX8_slips_55 : decode cX8_slips 55 = .ok (.lload_n 3, 1) := by decide +kernel
theorem dX8_slips_56 : decode cX8_slips 56 = .ok (.aload_n 0, 1) := by decide +kernel
theorem dX8_slips_57 : decode cX8_slips 57 = .ok (.getfield 7, 3) := by decide +kernel
theorem dX8_slips_60 : decode cX8_slips 60 = .ok (.bipush 24, 2) := by decide +kernel
theorem dX8_slips_62 : decode cX8_slips 62 = .ok (.iload 5, 2) := by decide +kernel
theorem dX8_slips_64 : decode cX8_slips 64 = .ok (.iadd, 1) := by decide +kernel
theorem dX8_slips_65 : decode cX8_slips 65 = .ok (.iaload, 1) := by decide +kernel
theorem dX8_slips_66 : decode cX8_slips 66 = .ok (.aload_n 0, 1) := by decide +kernel
theorem dX8_slips_67 : decode cX8_slips 67 = .ok (.getfield 7, 3) := by decide +kernel
theorem dX8_slips_70 : decode cX8_slips 70 = .ok (.bipush 6, 2) := by decide +kernel
theorem dX8_slips_72 : decode cX8_slips 72 = .ok (.iload_n 1, 1) := by decide +kernel
theorem dX8_slips_73 : decode cX8_slips 73 = .ok (.iadd, 1) := by decide +kernel
theorem dX8_slips_74 : decode cX8_slips 74 = .ok (.iaload, 1) := by decide +kernel
theorem dX8_slips_75 : decode cX8_slips 75 = .ok (.if_icmp .ne 14, 3) := by decide +kernel
theorem dX8_slips_78 : decode cX8_slips 78 = .ok (.bipush 10, 2) := by decide +kernel
theorem dX8_slips_80 : decode cX8_slips 80 = .ok (.iload_n 2, 1) := by decide +kernel
theorem dX8_slips_81 : decode cX8_slips 81 = .ok (.isub, 1) := by decide +kernel
theorem dX8_slips_82 : decode cX8_slips 82 = .ok (.iload 6, 2) := by decide +kernel
theorem dX8_slips_84 : decode cX8_slips 84 = .ok (.imul, 1) := by decide +kernel
theorem dX8_slips_85 : decode cX8_slips 85 = .ok (.i2l, 1) := by decide +kernel
theorem dX8_slips_86 : decode cX8_slips 86 = .ok (.goto 4, 3) := by decide +kernel
theorem dX8_slips_89 : decode cX8_slips 89 = .ok (.lconst 0, 1) := by decide +kernel
theorem dX8_slips_90 : decode cX8_slips 90 = .ok (.ladd, 1) := by decide +kernel
theorem dX8_slips_91 : decode cX8_slips 91 = .ok (.lstore_n 3, 1) := by decide +kernel
theorem dX8_slips_92 : decode cX8_slips 92 = .ok (.lload_n 3, 1) := by decide +kernel
theorem dX8_slips_93 : decode cX8_slips 93 = .ok (.aload_n 0, 1) := by decide +kernel
theorem dX8_slips_94 : decode cX8_slips 94 = .ok (.getfield 7, 3) := by decide +kernel
theorem dX8_slips_97 : decode cX8_slips 97 = .ok (.bipush 24, 2) := by decide +kernel
theorem dX8_slips_99 : decode cX8_slips 99 = .ok (.iload 5, 2) := by decide +kernel
theorem dX8_slips_101 : decode cX8_slips 101 = .ok (.iadd, 1) := by decide +kernel
theorem dX8_slips_102 : decode cX8_slips 102 = .ok (.iaload, 1) := by decide +kernel
theorem dX8_slips_103 : decode cX8_slips 103 = .ok (.iconst 1, 1) := by decide +kernel
theorem dX8_slips_104 : decode cX8_slips 104 = .ok (.iadd, 1) := by decide +kernel
theorem dX8_slips_105 : decode cX8_slips 105 = .ok (.bipush 6, 2) := by decide +kernel
theorem dX8_slips_107 : decode cX8_slips 107 = .ok (.irem, 1) := by decide +kernel
theorem dX8_slips_108 : decode cX8_slips 108 = .ok (.aload_n 0, 1) := by decide +kernel
theorem dX8_slips_109 : decode cX8_slips 109 = .ok (.getfield 7, 3) := by decide +kernel
theorem dX8_slips_112 : decode cX8_slips 112 = .ok (.bipush 6, 2) := by decide +kernel
theorem dX8_slips_114 : decode cX8_slips 114 = .ok (.iload_n 1, 1) := by decide +kernel
theorem dX8_slips_115 : decode cX8_slips 115 = .ok (.iadd, 1) := by decide +kernel
theorem dX8_slips_116 : decode cX8_slips 116 = .ok (.iaload, 1) := by decide +kernel
theorem dX8_slips_117 : decode cX8_slips 117 = .ok (.if_icmp .ne 11, 3) := by decide +kernel
theorem dX8_slips_120 : decode cX8_slips 120 = .ok (.iload_n 2, 1) := by decide +kernel
theorem dX8_slips_121 : decode cX8_slips 121 = .ok (.iload 6, 2) := by decide +kernel
theorem dX8_slips_123 : decode cX8_slips 123 = .ok (.imul, 1) := by decide +kernel
theorem dX8_slips_124 : decode cX8_slips 124 = .ok (.i2l, 1) := by decide +kernel
theorem dX8_slips_125 : decode cX8_slips 125 = .ok (.goto 4, 3) := by decide +kernel
theorem dX8_slips_128 : decode cX8_slips 128 = .ok (.lconst 0, 1) := by decide +kernel
theorem dX8_slips_129 : decode cX8_slips 129 = .ok (.ladd, 1) := by decide +kernel
theorem dX8_slips_130 : decode cX8_slips 130 = .ok (.lstore_n 3, 1) := by decide +kernel
theorem dX8_slips_131 : decode cX8_slips 131 = .ok (.iinc 5 1, 3) := by decide +kernel
theorem dX8_slips_134 : decode cX8_slips 134 = .ok (.goto (-102), 3) := by decide +kernel
theorem dX8_slips_137 : decode cX8_slips 137 = .ok (.aload_n 0, 1) := by decide +kernel
theorem dX8_slips_138 : decode cX8_slips 138 = .ok (.lload_n 3, 1) := by decide +kernel
theorem dX8_slips_139 : decode cX8_slips 139 = .ok (.ldc2_w 198, 3) := by decide +kernel
theorem dX8_slips_142 : decode cX8_slips 142 = .ok (.invokevirtual 200, 3) := by decide +kernel
theorem dX8_slips_145 : decode cX8_slips 145 = .ok (.iconst 1, 1) := by decide +kernel
theorem dX8_slips_146 : decode cX8_slips 146 = .ok (.ireturn, 1) := by decide +kernel
theorem dX8_decades_0 : decode cX8_decades 0 = .ok (.iload_n 1, 1) := by decide +kernel
theorem dX8_decades_1 : decode cX8_decades 1 = .ok (.i2l, 1) := by decide +kernel
theorem dX8_decades_2 : decode cX8_decades 2 = .ok (.lconst 0, 1) := by decide +kernel
theorem dX8_decades_3 : decode cX8_decades 3 = .ok (.ldc2_w 204, 3) := by decide +kernel
theorem dX8_decades_6 : decode cX8_decades 6 = .ok (.invokestatic 59, 3) := by decide +kernel
theorem dX8_decades_9 : decode cX8_decades 9 = .ok (.ifCond .eq 15, 3) := by decide +kernel
theorem dX8_decades_12 : decode cX8_decades 12 = .ok (.iload_n 2, 1) := by decide +kernel
theorem dX8_decades_13 : decode cX8_decades 13 = .ok (.i2l, 1) := by decide +kernel
theorem dX8_decades_14 : decode cX8_decades 14 = .ok (.lconst 0, 1) := by decide +kernel
theorem dX8_decades_15 : decode cX8_decades 15 = .ok (.ldc2_w 113, 3) := by decide +kernel
theorem dX8_decades_18 : decode cX8_decades 18 = .ok (.invokestatic 59, 3) := by decide +kernel
theorem dX8_decades_21 : decode cX8_decades 21 = .ok (.ifCond .ne 10, 3) := by decide +kernel
theorem dX8_decades_24 : decode cX8_decades 24 = .ok (.aload_n 0, 1) := by decide +kernel
theorem dX8_decades_25 : decode cX8_decades 25 = .ok (.bipush (-2), 2) := by decide +kernel
theorem dX8_decades_27 : decode cX8_decades 27 = .ok (.invokevirtual 75, 3) := by decide +kernel
theorem dX8_decades_30 : decode cX8_decades 30 = .ok (.ireturn, 1) := by decide +kernel
theorem dX8_decades_31 : decode cX8_decades 31 = .ok (.iload_n 1, 1) := by decide +kernel
theorem dX8_decades_32 : decode cX8_decades 32 = .ok (.i2l, 1) := by decide +kernel
theorem dX8_decades_33 : decode cX8_decades 33 = .ok (.lstore_n 3, 1) := by decide +kernel
theorem dX8_decades_34 : decode cX8_decades 34 = .ok (.aload_n 0, 1) := by decide +kernel
theorem dX8_decades_35 : decode cX8_decades 35 = .ok (.invokevirtual 145, 3) := by decide +kernel
theorem dX8_decades_38 : decode cX8_decades 38 = .ok (.iconst 0, 1) := by decide +kernel
theorem dX8_decades_39 : decode cX8_decades 39 = .ok (.istore 5, 2) := by decide +kernel
theorem dX8_decades_41 : decode cX8_decades 41 = .ok (.iload 5, 2) := by decide +kernel
theorem dX8_decades_43 : decode cX8_decades 43 = .ok (.iload_n 2, 1) := by decide +kernel
theorem dX8_decades_44 : decode cX8_decades 44 = .ok (.if_icmp .ge 71, 3) := by decide +kernel
theorem dX8_decades_47 : decode cX8_decades 47 = .ok (.lload_n 3, 1) := by decide +kernel
theorem dX8_decades_48 : decode cX8_decades 48 = .ok (.ldc2_w 206, 3) := by decide +kernel
theorem dX8_decades_51 : decode cX8_decades 51 = .ok (.lmul, 1) := by decide +kernel
theorem dX8_decades_52 : decode cX8_decades 52 = .ok (.ldc2_w 208, 3) := by decide +kernel
theorem dX8_decades_55 : decode cX8_decades 55 = .ok (.ladd, 1) := by decide +kernel
theorem dX8_decades_56 : decode cX8_decades 56 = .ok (.ldc2_w 210, 3) := by decide +kernel
theorem dX8_decades_59 : decode cX8_decades 59 = .ok (.lrem, 1) := by decide +kernel
theorem dX8_decades_60 : decode cX8_decades 60 = .ok (.lstore_n 3, 1) := by decide +kernel
theorem dX8_decades_61 : decode cX8_decades 61 = .ok (.lload_n 3, 1) := by decide +kernel
theorem dX8_decades_62 : decode cX8_decades 62 = .ok (.ldc2_w 212, 3) := by decide +kernel
theorem dX8_decades_65 : decode cX8_decades 65 = .ok (.ldiv, 1) := by decide +kernel
theorem dX8_decades_66 : decode cX8_decades 66 = .ok (.ldc2_w 214, 3) := by decide +kernel
theorem dX8_decades_69 : decode cX8_decades 69 = .ok (.lrem, 1) := by decide +kernel
theorem dX8_decades_70 : decode cX8_decades 70 = .ok (.l2i, 1) := by decide +kernel
theorem dX8_decades_71 : decode cX8_decades 71 = .ok (.istore 6, 2) := by decide +kernel
theorem dX8_decades_73 : decode cX8_decades 73 = .ok (.aload_n 0, 1) := by decide +kernel
theorem dX8_decades_74 : decode cX8_decades 74 = .ok (.iload 6, 2) := by decide +kernel
theorem dX8_decades_76 : decode cX8_decades 76 = .ok (.invokevirtual 138, 3) := by decide +kernel
theorem dX8_decades_79 : decode cX8_decades 79 = .ok (.ifCond .eq 23, 3) := by decide +kernel
theorem dX8_decades_82 : decode cX8_decades 82 = .ok (.aload_n 0, 1) := by decide +kernel
theorem dX8_decades_83 : decode cX8_decades 83 = .ok (.getfield 27, 3) := by decide +kernel
theorem dX8_decades_86 : decode cX8_decades 86 = .ok (.bipush 24, 2) := by decide +kernel
theorem dX8_decades_88 : decode cX8_decades 88 = .ok (.iload 6, 2) := by decide +kernel
theorem dX8_decades_90 : decode cX8_decades 90 = .ok (.iadd, 1) := by decide +kernel
theorem dX8_decades_91 : decode cX8_decades 91 = .ok (.lload_n 3, 1) := by decide +kernel
theorem dX8_decades_92 : decode cX8_decades 92 = .ok (.ldc2_w 216, 3) := by decide +kernel
theorem dX8_decades_95 : decode cX8_decades 95 = .ok (.ldiv, 1) := by decide +kernel
theorem dX8_decades_96 : decode cX8_decades 96 = .ok (.ldc2_w 214, 3) := by decide +kernel
theorem dX8_decades_99 : decode cX8_decades 99 = .ok (.lrem, 1) := by decide +kernel
theorem dX8_decades_100 : decode cX8_decades 100 = .ok (.l2i, 1) := by decide +kernel
theorem dX8_decades_101 : decode cX8_decades 101 = .ok (.iastore, 1) := by decide +kernel
theorem dX8_decades_102 : decode cX8_decades 102 = .ok (.aload_n 0, 1) := by decide +kernel
theorem dX8_decades_103 : decode cX8_decades 103 = .ok (.getfield 27, 3) := by decide +kernel
theorem dX8_decades_106 : decode cX8_decades 106 = .ok (.invokestatic 110, 3) := by decide +kernel
theorem dX8_decades_109 : decode cX8_decades 109 = .ok (.iinc 5 1, 3) := by decide +kernel
theorem dX8_decades_112 : decode cX8_decades 112 = .ok (.goto (-71), 3) := by decide +kernel
theorem dX8_decades_115 : decode cX8_decades 115 = .ok (.aload_n 0, 1) := by decide +kernel
theorem dX8_decades_116 : decode cX8_decades 116 = .ok (.getfield 27, 3) := by decide +kernel
theorem dX8_decades_119 : decode cX8_decades 119 = .ok (.invokestatic 122, 3) := by decide +kernel
theorem dX8_decades_122 : decode cX8_decades 122 = .ok (.ireturn, 1) := by decide +kernel
theorem dX8_type_0 : decode cX8_type 0 = .ok (.iload_n 1, 1) := by decide +kernel
theorem dX8_type_1 : decode cX8_type 1 = .ok (.i2l, 1) := by decide +kernel
theorem dX8_type_2 : decode cX8_type 2 = .ok (.lconst 0, 1) := by decide +kernel
theorem dX8_type_3 : decode cX8_type 3 = .ok (.ldc2_w 218, 3) := by decide +kernel
theorem dX8_type_6 : decode cX8_type 6 = .ok (.invokestatic 59, 3) := by decide +kernel
theorem dX8_type_9 : decode cX8_type 9 = .ok (.ifCond .ne 10, 3) := by decide +kernel
theorem dX8_type_12 : decode cX8_type 12 = .ok (.aload_n 0, 1) := by decide +kernel
theorem dX8_type_13 : decode cX8_type 13 = .ok (.bipush (-2), 2) := by decide +kernel
theorem dX8_type_15 : decode cX8_type 15 = .ok (.invokevirtual 75, 3) := by decide +kernel
theorem dX8_type_18 : decode cX8_type 18 = .ok (.ireturn, 1) := by decide +kernel
theorem dX8_type_19 : decode cX8_type 19 = .ok (.aload_n 0, 1) := by decide +kernel
theorem dX8_type_20 : decode cX8_type 20 = .ok (.getfield 220, 3) := by decide +kernel
theorem dX8_type_23 : decode cX8_type 23 = .ok (.sipush 150, 3) := by decide +kernel
theorem dX8_type_26 : decode cX8_type 26 = .ok (.if_icmp .ne 8, 3) := by decide +kernel
theorem dX8_type_29 : decode cX8_type 29 = .ok (.aload_n 0, 1) := by decide +kernel
theorem dX8_type_30 : decode cX8_type 30 = .ok (.invokevirtual 79, 3) := by decide +kernel
theorem dX8_type_33 : decode cX8_type 33 = .ok (.ireturn, 1) := by decide +kernel
theorem dX8_type_34 : decode cX8_type 34 = .ok (.aload_n 0, 1) := by decide +kernel
theorem dX8_type_35 : decode cX8_type 35 = .ok (.getfield 42, 3) := by decide +kernel
theorem dX8_type_38 : decode cX8_type 38 = .ok (.aload_n 0, 1) := by decide +kernel
theorem dX8_type_39 : decode cX8_type 39 = .ok (.getfield 220, 3) := by decide +kernel
theorem dX8_type_42 : decode cX8_type 42 = .ok (.iload_n 1, 1) := by decide +kernel
theorem dX8_type_43 : decode cX8_type 43 = .ok (.iastore, 1) := by decide +kernel
theorem dX8_type_44 : decode cX8_type 44 = .ok (.aload_n 0, 1) := by decide +kernel
theorem dX8_type_45 : decode cX8_type 45 = .ok (.dup, 1) := by decide +kernel
theorem dX8_type_46 : decode cX8_type 46 = .ok (.getfield 220, 3) := by decide +kernel
theorem dX8_type_49 : decode cX8_type 49 = .ok (.iconst 1, 1) := by decide +kernel
theorem dX8_type_50 : decode cX8_type 50 = .ok (.iadd, 1) := by decide +kernel
theorem dX8_type_51 : decode cX8_type 51 = .ok (.putfield 220, 3) := by decide +kernel
theorem dX8_type_54 : decode cX8_type 54 = .ok (.aload_n 0, 1) := by decide +kernel
theorem dX8_type_55 : decode cX8_type 55 = .ok (.getfield 220, 3) := by decide +kernel
theorem dX8_type_58 : decode cX8_type 58 = .ok (.ireturn, 1) := by decide +kernel
theorem dX8_clear_0 : decode cX8_clear 0 = .ok (.aload_n 0, 1) := by decide +kernel
theorem dX8_clear_1 : decode cX8_clear 1 = .ok (.getfield 220, 3) := by decide +kernel
theorem dX8_clear_4 : decode cX8_clear 4 = .ok (.istore_n 1, 1) := by decide +kernel
theorem dX8_clear_5 : decode cX8_clear 5 = .ok (.aload_n 0, 1) := by decide +kernel
theorem dX8_clear_6 : decode cX8_clear 6 = .ok (.iconst 0, 1) := by decide +kernel
theorem dX8_clear_7 : decode cX8_clear 7 = .ok (.putfield 220, 3) := by decide +kernel
theorem dX8_clear_10 : decode cX8_clear 10 = .ok (.iload_n 1, 1) := by decide +kernel
theorem dX8_clear_11 : decode cX8_clear 11 = .ok (.ireturn, 1) := by decide +kernel
theorem dX8_isSmall_0 : decode cX8_isSmall 0 = .ok (.iload_n 0, 1) := by decide +kernel
theorem dX8_isSmall_1 : decode cX8_isSmall 1 = .ok (.i2l, 1) := by decide +kernel
theorem dX8_isSmall_2 : decode cX8_isSmall 2 = .ok (.ldc2_w 224, 3) := by decide +kernel
theorem dX8_isSmall_5 : decode cX8_isSmall 5 = .ok (.ldc2_w 226, 3) := by decide +kernel
theorem dX8_isSmall_8 : decode cX8_isSmall 8 = .ok (.invokestatic 59, 3) := by decide +kernel
theorem dX8_isSmall_11 : decode cX8_isSmall 11 = .ok (.ireturn, 1) := by decide +kernel
theorem dX8_isFigure_0 : decode cX8_isFigure 0 = .ok (.iload_n 0, 1) := by decide +kernel
theorem dX8_isFigure_1 : decode cX8_isFigure 1 = .ok (.i2l, 1) := by decide +kernel
theorem dX8_isFigure_2 : decode cX8_isFigure 2 = .ok (.ldc2_w 228, 3) := by decide +kernel
theorem dX8_isFigure_5 : decode cX8_isFigure 5 = .ok (.ldc2_w 230, 3) := by decide +kernel
theorem dX8_isFigure_8 : decode cX8_isFigure 8 = .ok (.invokestatic 59, 3) := by decide +kernel
theorem dX8_isFigure_11 : decode cX8_isFigure 11 = .ok (.ireturn, 1) := by decide +kernel
theorem dX8_lookAt_0 : decode cX8_lookAt 0 = .ok (.aload_n 0, 1) := by decide +kernel
theorem dX8_lookAt_1 : decode cX8_lookAt 1 = .ok (.iload_n 1, 1) := by decide +kernel
theorem dX8_lookAt_2 : decode cX8_lookAt 2 = .ok (.putfield 232, 3) := by decide +kernel
theorem dX8_lookAt_5 : decode cX8_lookAt 5 = .ok (.aload_n 0, 1) := by decide +kernel
theorem dX8_lookAt_6 : decode cX8_lookAt 6 = .ok (.getfield 232, 3) := by decide +kernel
theorem dX8_lookAt_9 : decode cX8_lookAt 9 = .ok (.aload_n 0, 1) := by decide +kernel
theorem dX8_lookAt_10 : decode cX8_lookAt 10 = .ok (.getfield 220, 3) := by decide +kernel
theorem dX8_lookAt_13 : decode cX8_lookAt 13 = .ok (.if_icmp .ge 30, 3) := by decide +kernel
theorem dX8_lookAt_16 : decode cX8_lookAt 16 = .ok (.aload_n 0, 1) := by decide +kernel
theorem dX8_lookAt_17 : decode cX8_lookAt 17 = .ok (.getfield 42, 3) := by decide +kernel
theorem dX8_lookAt_20 : decode cX8_lookAt 20 = .ok (.aload_n 0, 1) := by decide +kernel
theorem dX8_lookAt_21 : decode cX8_lookAt 21 = .ok (.getfield 232, 3) := by decide +kernel
theorem dX8_lookAt_24 : decode cX8_lookAt 24 = .ok (.iaload, 1) := by decide +kernel
theorem dX8_lookAt_25 : decode cX8_lookAt 25 = .ok (.bipush 32, 2) := by decide +kernel
theorem dX8_lookAt_27 : decode cX8_lookAt 27 = .ok (.if_icmp .ne 16, 3) := by decide +kernel
theorem dX8_lookAt_30 : decode cX8_lookAt 30 = .ok (.aload_n 0, 1) := by decide +kernel
theorem dX8_lookAt_31 : decode cX8_lookAt 31 = .ok (.dup, 1) := by decide +kernel
theorem dX8_lookAt_32 : decode cX8_lookAt 32 = .ok (.getfield 232, 3) := by decide +kernel
theorem dX8_lookAt_35 : decode cX8_lookAt 35 = .ok (.iconst 1, 1) := by decide +kernel
theorem dX8_lookAt_36 : decode cX8_lookAt 36 = .ok (.iadd, 1) := by decide +kernel
theorem dX8_lookAt_37 : decode cX8_lookAt 37 = .ok (.putfield 232, 3) := by decide +kernel
theorem dX8_lookAt_40 : decode cX8_lookAt 40 = .ok (.goto (-35), 3) := by decide +kernel
theorem dX8_lookAt_43 : decode cX8_lookAt 43 = .ok (.aload_n 0, 1) := by decide +kernel
theorem dX8_lookAt_44 : decode cX8_lookAt 44 = .ok (.iconst 0, 1) := by decide +kernel
theorem dX8_lookAt_45 : decode cX8_lookAt 45 = .ok (.putfield 235, 3) := by decide +kernel
theorem dX8_lookAt_48 : decode cX8_lookAt 48 = .ok (.aload_n 0, 1) := by decide +kernel
theorem dX8_lookAt_49 : decode cX8_lookAt 49 = .ok (.iconst 0, 1) := by decide +kernel
theorem dX8_lookAt_50 : decode cX8_lookAt 50 = .ok (.putfield 238, 3) := by decide +kernel
theorem dX8_lookAt_53 : decode cX8_lookAt 53 = .ok (.aload_n 0, 1) := by decide +kernel
theorem dX8_lookAt_54 : decode cX8_lookAt 54 = .ok (.iconst 0, 1) := by decide +kernel
theorem dX8_lookAt_55 : decode cX8_lookAt 55 = .ok (.putfield 241, 3) := by decide +kernel
theorem dX8_lookAt_58 : decode cX8_lookAt 58 = .ok (.aload_n 0, 1) := by decide +kernel
theorem dX8_lookAt_59 : decode cX8_lookAt 59 = .ok (.getfield 232, 3) := by decide +kernel
theorem dX8_lookAt_62 : decode cX8_lookAt 62 = .ok (.aload_n 0, 1) := by decide +kernel
theorem dX8_lookAt_63 : decode cX8_lookAt 63 = .ok (.getfield 220, 3) := by decide +kernel
theorem dX8_lookAt_66 : decode cX8_lookAt 66 = .ok (.if_icmp .ne 4, 3) := by decide +kernel
theorem dX8_lookAt_69 : decode cX8_lookAt 69 = .ok (.return_, 1) := by decide +kernel
theorem dX8_lookAt_70 : decode cX8_lookAt 70 = .ok (.aload_n 0, 1) := by decide +kernel
theorem dX8_lookAt_71 : decode cX8_lookAt 71 = .ok (.getfield 42, 3) := by decide +kernel
theorem dX8_lookAt_74 : decode cX8_lookAt 74 = .ok (.aload_n 0, 1) := by decide +kernel
theorem dX8_lookAt_75 : decode cX8_lookAt 75 = .ok (.getfield 232, 3) := by decide +kernel
theorem dX8_lookAt_78 : decode cX8_lookAt 78 = .ok (.iaload, 1) := by decide +kernel
theorem dX8_lookAt_79 : decode cX8_lookAt 79 = .ok (.istore_n 2, 1) := by decide +kernel
theorem dX8_lookAt_80 : decode cX8_lookAt 80 = .ok (.aload_n 0, 1) := by decide +kernel
theorem dX8_lookAt_81 : decode cX8_lookAt 81 = .ok (.iload_n 2, 1) := by decide +kernel
theorem dX8_lookAt_82 : decode cX8_lookAt 82 = .ok (.invokestatic 244, 3) := by decide +kernel
theorem dX8_lookAt_85 : decode cX8_lookAt 85 = .ok (.ifCond .eq 7, 3) := by decide +kernel
theorem dX8_lookAt_88 : decode cX8_lookAt 88 = .ok (.iconst 1, 1) := by decide +kernel
theorem dX8_lookAt_89 : decode cX8_lookAt 89 = .ok (.goto 25, 3) := by decide +kernel
theorem dX8_lookAt_92 : decode cX8_lookAt 92 = .ok (.iload_n 2, 1) := by decide +kernel
theorem dX8_lookAt_93 : decode cX8_lookAt 93 = .ok (.invokestatic 247, 3) := by decide +kernel
theorem dX8_lookAt_96 : decode cX8_lookAt 96 = .ok (.ifCond .eq 7, 3) := by decide +kernel
theorem dX8_lookAt_99 : decode cX8_lookAt 99 = .ok (.iconst 2, 1) := by decide +kernel
theorem dX8_lookAt_100 : decode cX8_lookAt 100 = .ok (.goto 14, 3) := by decide +kernel
theorem dX8_lookAt_103 : decode cX8_lookAt 103 = .ok (.iload_n 2, 1) := by decide +kernel
theorem dX8_lookAt_104 : decode cX8_lookAt 104 = .ok (.bipush 59, 2) := by decide +kernel
theorem dX8_lookAt_106 : decode cX8_lookAt 106 = .ok (.if_icmp .ne 7, 3) := by decide +kernel
theorem dX8_lookAt_109 : decode cX8_lookAt 109 = .ok (.iconst 3, 1) := by decide +kernel
theorem dX8_lookAt_110 : decode cX8_lookAt 110 = .ok (.goto 4, 3) := by decide +kernel
theorem dX8_lookAt_113 : decode cX8_lookAt 113 = .ok (.iconst 4, 1) := by decide +kernel
theorem dX8_lookAt_114 : decode cX8_lookAt 114 = .ok (.putfield 238, 3) := by decide +kernel
theorem dX8_lookAt_117 : decode cX8_lookAt 117 = .ok (.aload_n 0, 1) := by decide +kernel
theorem dX8_lookAt_118 : decode cX8_lookAt 118 = .ok (.iconst 1, 1) := by decide +kernel
theorem dX8_lookAt_119 : decode cX8_lookAt 119 = .ok (.putfield 235, 3) := by decide +kernel
theorem dX8_lookAt_122 : decode cX8_lookAt 122 = .ok (.aload_n 0, 1) := by decide +kernel
theorem dX8_lookAt_123 : decode cX8_lookAt 123 = .ok (.getfield 238, 3) := by decide +kernel
theorem dX8_lookAt_126 : decode cX8_lookAt 126 = .ok (.iconst 3, 1) := by decide +kernel
theorem dX8_lookAt_127 : decode cX8_lookAt 127 = .ok (.if_icmp .ge 7, 3) := by decide +kernel
theorem dX8_lookAt_130 : decode cX8_lookAt 130 = .ok (.iconst 1, 1) := by decide +kernel
theorem dX8_lookAt_131 : decode cX8_lookAt 131 = .ok (.goto 4, 3) := by decide +kernel
theorem dX8_lookAt_134 : decode cX8_lookAt 134 = .ok (.iconst 0, 1) := by decide +kernel
theorem dX8_lookAt_135 : decode cX8_lookAt 135 = .ok (.istore_n 3, 1) := by decide +kernel
theorem dX8_lookAt_136 : decode cX8_lookAt 136 = .ok (.iload_n 3, 1) := by decide +kernel
theorem dX8_lookAt_137 : decode cX8_lookAt 137 = .ok (.ifCond .eq 78, 3) := by decide +kernel
theorem dX8_lookAt_140 : decode cX8_lookAt 140 = .ok (.aload_n 0, 1) := by decide +kernel
theorem dX8_lookAt_141 : decode cX8_lookAt 141 = .ok (.getfield 232, 3) := by decide +kernel
theorem dX8_lookAt_144 : decode cX8_lookAt 144 = .ok (.aload_n 0, 1) := by decide +kernel
theorem dX8_lookAt_145 : decode cX8_lookAt 145 = .ok (.getfield 235, 3) := by decide +kernel
theorem dX8_lookAt_148 : decode cX8_lookAt 148 = .ok (.iadd, 1) := by decide +kernel
theorem dX8_lookAt_149 : decode cX8_lookAt 149 = .ok (.aload_n 0, 1) := by decide +kernel
theorem dX8_lookAt_150 : decode cX8_lookAt 150 = .ok (.getfield 220, 3) := by decide +kernel
theorem dX8_lookAt_153 : decode cX8_lookAt 153 = .ok (.if_icmp .ge 62, 3) := by decide +kernel
theorem dX8_lookAt_156 : decode cX8_lookAt 156 = .ok (.aload_n 0, 1) := by decide +kernel
theorem dX8_lookAt_157 : decode cX8_lookAt 157 = .ok (.getfield 42, 3) := by decide +kernel
theorem dX8_lookAt_160 : decode cX8_lookAt 160 = .ok (.aload_n 0, 1) := by decide +kernel
theorem dX8_lookAt_161 : decode cX8_lookAt 161 = .ok (.getfield 232, 3) := by decide +kernel
theorem dX8_lookAt_164 : decode cX8_lookAt 164 = .ok (.aload_n 0, 1) := by decide +kernel
theorem dX8_lookAt_165 : decode cX8_lookAt 165 = .ok (.getfield 235, 3) := by decide +kernel
theorem dX8_lookAt_168 : decode cX8_lookAt 168 = .ok (.iadd, 1) := by decide +kernel
theorem dX8_lookAt_169 : decode cX8_lookAt 169 = .ok (.iaload, 1) := by decide +kernel
theorem dX8_lookAt_170 : decode cX8_lookAt 170 = .ok (.istore 4, 2) := by decide +kernel
theorem dX8_lookAt_172 : decode cX8_lookAt 172 = .ok (.aload_n 0, 1) := by decide +kernel
theorem dX8_lookAt_173 : decode cX8_lookAt 173 = .ok (.getfield 238, 3) := by decide +kernel
theorem dX8_lookAt_176 : decode cX8_lookAt 176 = .ok (.iconst 1, 1) := by decide +kernel
theorem dX8_lookAt_177 : decode cX8_lookAt 177 = .ok (.if_icmp .ne 11, 3) := by decide +kernel
theorem dX8_lookAt_180 : decode cX8_lookAt 180 = .ok (.iload 4, 2) := by decide +kernel
theorem dX8_lookAt_182 : decode cX8_lookAt 182 = .ok (.invokestatic 244, 3) := by decide +kernel
theorem dX8_lookAt_185 : decode cX8_lookAt 185 = .ok (.goto 8, 3) := by decide +kernel
theorem dX8_lookAt_188 : decode cX8_lookAt 188 = .ok (.iload 4, 2) := by decide +kernel
theorem dX8_lookAt_190 : decode cX8_lookAt 190 = .ok (.invokestatic 247, 3) := by decide +kernel
theorem dX8_lookAt_193 : decode cX8_lookAt 193 = .ok (.istore_n 3, 1) := by decide +kernel
theorem dX8_lookAt_194 : decode cX8_lookAt 194 = .ok (.aload_n 0, 1) := by decide +kernel
theorem dX8_lookAt_195 : decode cX8_lookAt 195 = .ok (.dup, 1) := by decide +kernel
theorem dX8_lookAt_196 : decode cX8_lookAt 196 = .ok (.getfield 235, 3) := by decide +kernel
theorem dX8_lookAt_199 : decode cX8_lookAt 199 = .ok (.iload_n 3, 1) := by decide +kernel
theorem dX8_lookAt_200 : decode cX8_lookAt 200 = .ok (.ifCond .eq 7, 3) := by decide +kernel
theorem dX8_lookAt_203 : decode cX8_lookAt 203 = .ok (.iconst 1, 1) := by decide +kernel
theorem dX8_lookAt_204 : decode cX8_lookAt 204 = .ok (.goto 4, 3) := by decide +kernel
theorem dX8_lookAt_207 : decode cX8_lookAt 207 = .ok (.iconst 0, 1) := by decide +kernel
theorem dX8_lookAt_208 : decode cX8_lookAt 208 = .ok (.iadd, 1) := by decide +kernel
theorem dX8_lookAt_209 : decode cX8_lookAt 209 = .ok (.putfield 235, 3) := by decide +kernel
theorem dX8_lookAt_212 : decode cX8_lookAt 212 = .ok (.goto (-76), 3) := by decide +kernel
theorem dX8_lookAt_215 : decode cX8_lookAt 215 = .ok (.iconst 0, 1) := by decide +kernel
theorem dX8_lookAt_216 : decode cX8_lookAt 216 = .ok (.istore 4, 2) := by decide +kernel
theorem dX8_lookAt_218 : decode cX8_lookAt 218 = .ok (.iload 4, 2) := by decide +kernel
theorem dX8_lookAt_220 : decode cX8_lookAt 220 = .ok (.aload_n 0, 1) := by decide +kernel
theorem dX8_lookAt_221 : decode cX8_lookAt 221 = .ok (.getfield 235, 3) := by decide +kernel
theorem dX8_lookAt_224 : decode cX8_lookAt 224 = .ok (.if_icmp .ge 50, 3) := by decide +kernel
theorem dX8_lookAt_227 : decode cX8_lookAt 227 = .ok (.iload 4, 2) := by decide +kernel
theorem dX8_lookAt_229 : decode cX8_lookAt 229 = .ok (.iconst 2, 1) := by decide +kernel
theorem dX8_lookAt_230 : decode cX8_lookAt 230 = .ok (.if_icmp .ge 44, 3) := by decide +kernel
theorem dX8_lookAt_233 : decode cX8_lookAt 233 = .ok (.aload_n 0, 1) := by decide +kernel
theorem dX8_lookAt_234 : decode cX8_lookAt 234 = .ok (.getfield 238, 3) := by decide +kernel
theorem dX8_lookAt_237 : decode cX8_lookAt 237 = .ok (.iconst 2, 1) := by decide +kernel
theorem dX8_lookAt_238 : decode cX8_lookAt 238 = .ok (.if_icmp .ne 36, 3) := by decide +kernel
theorem dX8_lookAt_241 : decode cX8_lookAt 241 = .ok (.aload_n 0, 1) := by decide +kernel
theorem dX8_lookAt_242 : decode cX8_lookAt 242 = .ok (.bipush 10, 2) := by decide +kernel
theorem dX8_lookAt_244 : decode cX8_lookAt 244 = .ok (.aload_n 0, 1) := by decide +kernel
theorem dX8_lookAt_245 : decode cX8_lookAt 245 = .ok (.getfield 241, 3) := by decide +kernel
theorem dX8_lookAt_248 : decode cX8_lookAt 248 = .ok (.imul, 1) := by decide +kernel
theorem dX8_lookAt_249 : decode cX8_lookAt 249 = .ok (.aload_n 0, 1) := by decide +kernel
theorem dX8_lookAt_250 : decode cX8_lookAt 250 = .ok (.getfield 42, 3) := by decide +kernel
theorem dX8_lookAt_253 : decode cX8_lookAt 253 = .ok (.aload_n 0, 1) := by decide +kernel
theorem dX8_lookAt_254 : decode cX8_lookAt 254 = .ok (.getfield 232, 3) := by decide +kernel
theorem dX8_lookAt_257 : decode cX8_lookAt 257 = .ok (.iload 4, 2) := by decide +kernel
theorem dX8_lookAt_259 : decode cX8_lookAt 259 = .ok (.iadd, 1) := by decide +kernel
theorem dX8_lookAt_260 : decode cX8_lookAt 260 = .ok (.iaload, 1) := by decide +kernel
theorem dX8_lookAt_261 : decode cX8_lookAt 261 = .ok (.iadd, 1) := by decide +kernel
theorem dX8_lookAt_262 : decode cX8_lookAt 262 = .ok (.bipush 48, 2) := by decide +kernel
theorem dX8_lookAt_264 : decode cX8_lookAt 264 = .ok (.isub, 1) := by decide +kernel
theorem dX8_lookAt_265 : decode cX8_lookAt 265 = .ok (.putfield 241, 3) := by decide +kernel
theorem dX8_lookAt_268 : decode cX8_lookAt 268 = .ok (.iinc 4 1, 3) := by decide +kernel
theorem dX8_lookAt_271 : decode cX8_lookAt 271 = .ok (.goto (-53), 3) := by decide +kernel
theorem dX8_lookAt_274 : decode cX8_lookAt 274 = .ok (.aload_n 0, 1) := by decide +kernel
theorem dX8_lookAt_275 : decode cX8_lookAt 275 = .ok (.aload_n 0, 1) := by decide +kernel
theorem dX8_lookAt_276 : decode cX8_lookAt 276 = .ok (.getfield 238, 3) := by decide +kernel
theorem dX8_lookAt_279 : decode cX8_lookAt 279 = .ok (.iconst 2, 1) := by decide +kernel
theorem dX8_lookAt_280 : decode cX8_lookAt 280 = .ok (.if_icmp .ne 15, 3) := by decide +kernel
theorem dX8_lookAt_283 : decode cX8_lookAt 283 = .ok (.aload_n 0, 1) := by decide +kernel
theorem dX8_lookAt_284 : decode cX8_lookAt 284 = .ok (.getfield 235, 3) := by decide +kernel
theorem dX8_lookAt_287 : decode cX8_lookAt 287 = .ok (.iconst 2, 1) := by decide +kernel
theorem dX8_lookAt_288 : decode cX8_lookAt 288 = .ok (.if_icmp .le 7, 3) := by decide +kernel
theorem dX8_lookAt_291 : decode cX8_lookAt 291 = .ok (.iconst 4, 1) := by decide +kernel
theorem dX8_lookAt_292 : decode cX8_lookAt 292 = .ok (.goto 7, 3) := by decide +kernel
theorem dX8_lookAt_295 : decode cX8_lookAt 295 = .ok (.aload_n 0, 1) := by decide +kernel
theorem dX8_lookAt_296 : decode cX8_lookAt 296 = .ok (.getfield 238, 3) := by decide +kernel
theorem dX8_lookAt_299 : decode cX8_lookAt 299 = .ok (.putfield 238, 3) := by decide +kernel
theorem dX8_lookAt_302 : decode cX8_lookAt 302 = .ok (.return_, 1) := by decide +kernel
theorem dX8_goBehind_0 : decode cX8_goBehind 0 = .ok (.aload_n 0, 1) := by decide +kernel
theorem dX8_goBehind_1 : decode cX8_goBehind 1 = .ok (.aload_n 0, 1) := by decide +kernel
theorem dX8_goBehind_2 : decode cX8_goBehind 2 = .ok (.getfield 232, 3) := by decide +kernel
theorem dX8_goBehind_5 : decode cX8_goBehind 5 = .ok (.aload_n 0, 1) := by decide +kernel
theorem dX8_goBehind_6 : decode cX8_goBehind 6 = .ok (.getfield 235, 3) := by decide +kernel
theorem dX8_goBehind_9 : decode cX8_goBehind 9 = .ok (.iadd, 1) := by decide +kernel
theorem dX8_goBehind_10 : decode cX8_goBehind 10 = .ok (.invokevirtual 250, 3) := by decide +kernel
theorem dX8_goBehind_13 : decode cX8_goBehind 13 = .ok (.return_, 1) := by decide +kernel
theorem dX8_spells_0 : decode cX8_spells 0 = .ok (.aload_n 0, 1) := by decide +kernel
theorem dX8_spells_1 : decode cX8_spells 1 = .ok (.getfield 238, 3) := by decide +kernel
theorem dX8_spells_4 : decode cX8_spells 4 = .ok (.iconst 1, 1) := by decide +kernel
theorem dX8_spells_5 : decode cX8_spells 5 = .ok (.if_icmp .ne 15, 3) := by decide +kernel
theorem dX8_spells_8 : decode cX8_spells 8 = .ok (.aload_n 0, 1) := by decide +kernel
theorem dX8_spells_9 : decode cX8_spells 9 = .ok (.getfield 235, 3) := by decide +kernel
theorem dX8_spells_12 : decode cX8_spells 12 = .ok (.iload_n 1, 1) := by decide +kernel
theorem dX8_spells_13 : decode cX8_spells 13 = .ok (.if_icmp .ne 7, 3) := by decide +kernel
theorem dX8_spells_16 : decode cX8_spells 16 = .ok (.iconst 1, 1) := by decide +kernel
theorem dX8_spells_17 : decode cX8_spells 17 = .ok (.goto 4, 3) := by decide +kernel
theorem dX8_spells_20 : decode cX8_spells 20 = .ok (.iconst 0, 1) := by decide +kernel
theorem dX8_spells_21 : decode cX8_spells 21 = .ok (.istore 8, 2) := by decide +kernel
theorem dX8_spells_23 : decode cX8_spells 23 = .ok (.iconst 0, 1) := by decide +kernel
theorem dX8_spells_24 : decode cX8_spells 24 = .ok (.istore 9, 2) := by decide +kernel
theorem dX8_spells_26 : decode cX8_spells 26 = .ok (.iload 9, 2) := by decide +kernel
theorem dX8_spells_28 : decode cX8_spells 28 = .ok (.iload_n 1, 1) := by decide +kernel
theorem dX8_spells_29 : decode cX8_spells 29 = .ok (.if_icmp .ge 90, 3) := by decide +kernel
theorem dX8_spells_32 : decode cX8_spells 32 = .ok (.iload 8, 2) := by decide +kernel
theorem dX8_spells_34 : decode cX8_spells 34 = .ok (.ifCond .eq 85, 3) := by decide +kernel
theorem dX8_spells_37 : decode cX8_spells 37 = .ok (.aload_n 0, 1) := by decide +kernel
theorem dX8_spells_38 : decode cX8_spells 38 = .ok (.getfield 42, 3) := by decide +kernel
theorem dX8_spells_41 : decode cX8_spells 41 = .ok (.aload_n 0, 1) := by decide +kernel
theorem dX8_spells_42 : decode cX8_spells 42 = .ok (.getfield 232, 3) := by decide +kernel
theorem dX8_spells_45 : decode cX8_spells 45 = .ok (.iload 9, 2) := by decide +kernel
theorem dX8_spells_47 : decode cX8_spells 47 = .ok (.iadd, 1) := by decide +kernel
theorem dX8_spells_48 : decode cX8_spells 48 = .ok (.iaload, 1) := by decide +kernel
theorem dX8_spells_49 : decode cX8_spells 49 = .ok (.iload 9, 2) := by decide +kernel
theorem dX8_spells_51 : decode cX8_spells 51 = .ok (.ifCond .ne 7, 3) := by decide +kernel
theorem dX8_spells_54 : decode cX8_spells 54 = .ok (.iload_n 2, 1) := by decide +kernel
theorem dX8_spells_55 : decode cX8_spells 55 = .ok (.goto 48, 3) := by decide +kernel
theorem dX8_spells_58 : decode cX8_spells 58 = .ok (.iload 9, 2) := by decide +kernel
theorem dX8_spells_60 : decode cX8_spells 60 = .ok (.iconst 1, 1) := by decide +kernel
theorem dX8_spells_61 : decode cX8_spells 61 = .ok (.if_icmp .ne 7, 3) := by decide +kernel
theorem dX8_spells_64 : decode cX8_spells 64 = .ok (.iload_n 3, 1) := by decide +kernel
theorem dX8_spells_65 : decode cX8_spells 65 = .ok (.goto 38, 3) := by decide +kernel
theorem dX8_spells_68 : decode cX8_spells 68 = .ok (.iload 9, 2) := by decide +kernel
theorem dX8_spells_70 : decode cX8_spells 70 = .ok (.iconst 2, 1) := by decide +kernel
theorem dX8_spells_71 : decode cX8_spells 71 = .ok (.if_icmp .ne 8, 3) := by decide +kernel
theorem dX8_spells_74 : decode cX8_spells 74 = .ok (.iload 4, 2) := by decide +kernel
theorem dX8_spells_76 : decode cX8_spells 76 = .ok (.goto 27, 3) := by decide +kernel
theorem dX8_spells_79 : decode cX8_spells 79 = .ok (.iload 9, 2) := by decide +kernel
theorem dX8_spells_81 : decode cX8_spells 81 = .ok (.iconst 3, 1) := by decide +kernel
theorem dX8_spells_82 : decode cX8_spells 82 = .ok (.if_icmp .ne 8, 3) := by decide +kernel
theorem dX8_spells_85 : decode cX8_spells 85 = .ok (.iload 5, 2) := by decide +kernel
theorem dX8_spells_87 : decode cX8_spells 87 = .ok (.goto 16, 3) := by decide +kernel
theorem dX8_spells_90 : decode cX8_spells 90 = .ok (.iload 9, 2) := by decide +kernel
theorem dX8_spells_92 : decode cX8_spells 92 = .ok (.iconst 4, 1) := by decide +kernel
theorem dX8_spells_93 : decode cX8_spells 93 = .ok (.if_icmp .ne 8, 3) := by decide +kernel
theorem dX8_spells_96 : decode cX8_spells 96 = .ok (.iload 6, 2) := by decide +kernel
theorem dX8_spells_98 : decode cX8_spells 98 = .ok (.goto 5, 3) := by decide +kernel
theorem dX8_spells_101 : decode cX8_spells 101 = .ok (.iload 7, 2) := by decide +kernel
theorem dX8_spells_103 : decode cX8_spells 103 = .ok (.if_icmp .ne 7, 3) := by decide +kernel
theorem dX8_spells_106 : decode cX8_spells 106 = .ok (.iconst 1, 1) := by decide +kernel
theorem dX8_spells_107 : decode cX8_spells 107 = .ok (.goto 4, 3) := by decide +kernel
theorem dX8_spells_110 : decode cX8_spells 110 = .ok (.iconst 0, 1) := by decide +kernel
theorem dX8_spells_111 : decode cX8_spells 111 = .ok (.istore 8, 2) := by decide +kernel
theorem dX8_spells_113 : decode cX8_spells 113 = .ok (.iinc 9 1, 3) := by decide +kernel
theorem dX8_spells_116 : decode cX8_spells 116 = .ok (.goto (-90), 3) := by decide +kernel
theorem dX8_spells_119 : decode cX8_spells 119 = .ok (.iload 8, 2) := by decide +kernel
theorem dX8_spells_121 : decode cX8_spells 121 = .ok (.ireturn, 1) := by decide +kernel
theorem dX8_takes_0 : decode cX8_takes 0 = .ok (.aload_n 0, 1) := by decide +kernel
theorem dX8_takes_1 : decode cX8_takes 1 = .ok (.getfield 238, 3) := by decide +kernel
theorem dX8_takes_4 : decode cX8_takes 4 = .ok (.iconst 2, 1) := by decide +kernel
theorem dX8_takes_5 : decode cX8_takes 5 = .ok (.if_icmp .ne 18, 3) := by decide +kernel
theorem dX8_takes_8 : decode cX8_takes 8 = .ok (.aload_n 0, 1) := by decide +kernel
theorem dX8_takes_9 : decode cX8_takes 9 = .ok (.getfield 241, 3) := by decide +kernel
theorem dX8_takes_12 : decode cX8_takes 12 = .ok (.i2l, 1) := by decide +kernel
theorem dX8_takes_13 : decode cX8_takes 13 = .ok (.iload_n 2, 1) := by decide +kernel
theorem dX8_takes_14 : decode cX8_takes 14 = .ok (.i2l, 1) := by decide +kernel
theorem dX8_takes_15 : decode cX8_takes 15 = .ok (.iload_n 3, 1) := by decide +kernel
theorem dX8_takes_16 : decode cX8_takes 16 = .ok (.i2l, 1) := by decide +kernel
theorem dX8_takes_17 : decode cX8_takes 17 = .ok (.invokestatic 59, 3) := by decide +kernel
theorem dX8_takes_20 : decode cX8_takes 20 = .ok (.ifCond .ne 5, 3) := by decide +kernel
theorem dX8_takes_23 : decode cX8_takes 23 = .ok (.iconst 0, 1) := by decide +kernel
theorem dX8_takes_24 : decode cX8_takes 24 = .ok (.ireturn, 1) := by decide +kernel
theorem dX8_takes_25 : decode cX8_takes 25 = .ok (.aload_n 0, 1) := by decide +kernel
theorem dX8_takes_26 : decode cX8_takes 26 = .ok (.getfield 48, 3) := by decide +kernel
theorem dX8_takes_29 : decode cX8_takes 29 = .ok (.iload_n 1, 1) := by decide +kernel
theorem dX8_takes_30 : decode cX8_takes 30 = .ok (.aload_n 0, 1) := by decide +kernel
theorem dX8_takes_31 : decode cX8_takes 31 = .ok (.getfield 241, 3) := by decide +kernel
theorem dX8_takes_34 : decode cX8_takes 34 = .ok (.iastore, 1) := by decide +kernel
theorem dX8_takes_35 : decode cX8_takes 35 = .ok (.aload_n 0, 1) := by decide +kernel
theorem dX8_takes_36 : decode cX8_takes 36 = .ok (.invokevirtual 254, 3) := by decide +kernel
theorem dX8_takes_39 : decode cX8_takes 39 = .ok (.iconst 1, 1) := by decide +kernel
theorem dX8_takes_40 : decode cX8_takes 40 = .ok (.ireturn, 1) := by decide +kernel
theorem dX8_spellsSleeper_0 : decode cX8_spellsSleeper 0 = .ok (.aload_n 0, 1) := by decide +kernel
theorem dX8_spellsSleeper_1 : decode cX8_spellsSleeper 1 = .ok (.getfield 238, 3) := by decide +kernel
theorem dX8_spellsSleeper_4 : decode cX8_spellsSleeper 4 = .ok (.iconst 1, 1) := by decide +kernel
theorem dX8_spellsSleeper_5 : decode cX8_spellsSleeper 5 = .ok (.if_icmp .ne 16, 3) := by decide +kernel
theorem dX8_spellsSleeper_8 : decode cX8_spellsSleeper 8 = .ok (.aload_n 0, 1) := by decide +kernel
theorem dX8_spellsSleeper_9 : decode cX8_spellsSleeper 9 = .ok (.getfield 235, 3) := by decide +kernel
theorem dX8_spellsSleeper_12 : decode cX8_spellsSleeper 12 = .ok (.bipush 7, 2) := by decide +kernel
theorem dX8_spellsSleeper_14 : decode cX8_spellsSleeper 14 = .ok (.if_icmp .ne 7, 3) := by decide +kernel
theorem dX8_spellsSleeper_17 : decode cX8_spellsSleeper 17 = .ok (.iconst 1, 1) := by decide +kernel
theorem dX8_spellsSleeper_18 : decode cX8_spellsSleeper 18 = .ok (.goto 4, 3) := by decide +kernel
theorem dX8_spellsSleeper_21 : decode cX8_spellsSleeper 21 = .ok (.iconst 0, 1) := by decide +kernel
theorem dX8_spellsSleeper_22 : decode cX8_spellsSleeper 22 = .ok (.istore_n 1, 1) := by decide +kernel
theorem dX8_spellsSleeper_23 : decode cX8_spellsSleeper 23 = .ok (.iload_n 1, 1) := by decide +kernel
theorem dX8_spellsSleeper_24 : decode cX8_spellsSleeper 24 = .ok (.ifCond .eq 118, 3) := by decide +kernel
theorem dX8_spellsSleeper_27 : decode cX8_spellsSleeper 27 = .ok (.aload_n 0, 1) := by decide +kernel
theorem dX8_spellsSleeper_28 : decode cX8_spellsSleeper 28 = .ok (.getfield 42, 3) := by decide +kernel
theorem dX8_spellsSleeper_31 : decode cX8_spellsSleeper 31 = .ok (.aload_n 0, 1) := by decide +kernel
theorem dX8_spellsSleeper_32 : decode cX8_spellsSleeper 32 = .ok (.getfield 232, 3) := by decide +kernel
theorem dX8_spellsSleeper_35 : decode cX8_spellsSleeper 35 = .ok (.iaload, 1) := by decide +kernel
theorem dX8_spellsSleeper_36 : decode cX8_spellsSleeper 36 = .ok (.bipush 115, 2) := by decide +kernel
theorem dX8_spellsSleeper_38 : decode cX8_spellsSleeper 38 = .ok (.if_icmp .ne 104, 3) := by decide +kernel
theorem dX8_spellsSleeper_41 : decode cX8_spellsSleeper 41 = .ok (.aload_n 0, 1) := by decide +kernel
theorem dX8_spellsSleeper_42 : decode cX8_spellsSleeper 42 = .ok (.getfield 42, 3) := by decide +kernel
theorem dX8_spellsSleeper_45 : decode cX8_spellsSleeper 45 = .ok (.aload_n 0, 1) := by decide +kernel
theorem dX8_spellsSleeper_46 : decode cX8_spellsSleeper 46 = .ok (.getfield 232, 3) := by decide +kernel
theorem dX8_spellsSleeper_49 : decode cX8_spellsSleeper 49 = .ok (.iconst 1, 1) := by decide +kernel
theorem dX8_spellsSleeper_50 : decode cX8_spellsSleeper 50 = .ok (.iadd, 1) := by decide +kernel
theorem dX8_spellsSleeper_51 : decode cX8_spellsSleeper 51 = .ok (.iaload, 1) := by decide +kernel
theorem dX8_spellsSleeper_52 : decode cX8_spellsSleeper 52 = .ok (.bipush 108, 2) := by decide +kernel
theorem dX8_spellsSleeper_54 : decode cX8_spellsSleeper 54 = .ok (.if_icmp .ne 88, 3) := by decide +kernel
theorem dX8_spellsSleeper_57 : decode cX8_spellsSleeper 57 = .ok (.aload_n 0, 1) := by decide +kernel
theorem dX8_spellsSleeper_58 : decode cX8_spellsSleeper 58 = .ok (.getfield 42, 3) := by decide +kernel
theorem dX8_spellsSleeper_61 : decode cX8_spellsSleeper 61 = .ok (.aload_n 0, 1) := by decide +kernel
theorem dX8_spellsSleeper_62 : decode cX8_spellsSleeper 62 = .ok (.getfield 232, 3) := by decide +kernel
theorem dX8_spellsSleeper_65 : decode cX8_spellsSleeper 65 = .ok (.iconst 2, 1) := by decide +kernel
theorem dX8_spellsSleeper_66 : decode cX8_spellsSleeper 66 = .ok (.iadd, 1) := by decide +kernel
theorem dX8_spellsSleeper_67 : decode cX8_spellsSleeper 67 = .ok (.iaload, 1) := by decide +kernel
theorem dX8_spellsSleeper_68 : decode cX8_spellsSleeper 68 = .ok (.bipush 101, 2) := by decide +kernel
theorem dX8_spellsSleeper_70 : decode cX8_spellsSleeper 70 = .ok (.if_icmp .ne 72, 3) := by decide +kernel
theorem dX8_spellsSleeper_73 : decode cX8_spellsSleeper 73 = .ok (.aload_n 0, 1) := by decide +kernel
theorem dX8_spellsSleeper_74 : decode cX8_spellsSleeper 74 = .ok (.getfield 42, 3) := by decide +kernel
theorem dX8_spellsSleeper_77 : decode cX8_spellsSleeper 77 = .ok (.aload_n 0, 1) := by decide +kernel
theorem dX8_spellsSleeper_78 : decode cX8_spellsSleeper 78 = .ok (.getfield 232, 3) := by decide +kernel
theorem dX8_spellsSleeper_81 : decode cX8_spellsSleeper 81 = .ok (.iconst 3, 1) := by decide +kernel
theorem dX8_spellsSleeper_82 : decode cX8_spellsSleeper 82 = .ok (.iadd, 1) := by decide +kernel
theorem dX8_spellsSleeper_83 : decode cX8_spellsSleeper 83 = .ok (.iaload, 1) := by decide +kernel
theorem dX8_spellsSleeper_84 : decode cX8_spellsSleeper 84 = .ok (.bipush 101, 2) := by decide +kernel
theorem dX8_spellsSleeper_86 : decode cX8_spellsSleeper 86 = .ok (.if_icmp .ne 56, 3) := by decide +kernel
theorem dX8_spellsSleeper_89 : decode cX8_spellsSleeper 89 = .ok (.aload_n 0, 1) := by decide +kernel
theorem dX8_spellsSleeper_90 : decode cX8_spellsSleeper 90 = .ok (.getfield 42, 3) := by decide +kernel
theorem dX8_spellsSleeper_93 : decode cX8_spellsSleeper 93 = .ok (.aload_n 0, 1) := by decide +kernel
theorem dX8_spellsSleeper_94 : decode cX8_spellsSleeper 94 = .ok (.getfield 232, 3) := by decide +kernel
theorem dX8_spellsSleeper_97 : decode cX8_spellsSleeper 97 = .ok (.iconst 4, 1) := by decide +kernel
theorem dX8_spellsSleeper_98 : decode cX8_spellsSleeper 98 = .ok (.iadd, 1) := by decide +kernel
theorem dX8_spellsSleeper_99 : decode cX8_spellsSleeper 99 = .ok (.iaload, 1) := by decide +kernel
theorem dX8_spellsSleeper_100 : decode cX8_spellsSleeper 100 = .ok (.bipush 112, 2) := by decide +kernel
theorem dX8_spellsSleeper_102 : decode cX8_spellsSleeper 102 = .ok (.if_icmp .ne 40, 3) := by decide +kernel
theorem dX8_spellsSleeper_105 : decode cX8_spellsSleeper 105 = .ok (.aload_n 0, 1) := by decide +kernel
theorem dX8_spellsSleeper_106 : decode cX8_spellsSleeper 106 = .ok (.getfield 42, 3) := by decide +kernel
theorem dX8_spellsSleeper_109 : decode cX8_spellsSleeper 109 = .ok (.aload_n 0, 1) := by decide +kernel
theorem dX8_spellsSleeper_110 : decode cX8_spellsSleeper 110 = .ok (.getfield 232, 3) := by decide +kernel
theorem dX8_spellsSleeper_113 : decode cX8_spellsSleeper 113 = .ok (.iconst 5, 1) := by decide +kernel
theorem dX8_spellsSleeper_114 : decode cX8_spellsSleeper 114 = .ok (.iadd, 1) := by decide +kernel
theorem dX8_spellsSleeper_115 : decode cX8_spellsSleeper 115 = .ok (.iaload, 1) := by decide +kernel
theorem dX8_spellsSleeper_116 : decode cX8_spellsSleeper 116 = .ok (.bipush 101, 2) := by decide +kernel
theorem dX8_spellsSleeper_118 : decode cX8_spellsSleeper 118 = .ok (.if_icmp .ne 24, 3) := by decide +kernel
theorem dX8_spellsSleeper_121 : decode cX8_spellsSleeper 121 = .ok (.aload_n 0, 1) := by decide +kernel
theorem dX8_spellsSleeper_122 : decode cX8_spellsSleeper 122 = .ok (.getfield 42, 3) := by decide +kernel
theorem dX8_spellsSleeper_125 : decode cX8_spellsSleeper 125 = .ok (.aload_n 0, 1) := by decide +kernel
theorem dX8_spellsSleeper_126 : decode cX8_spellsSleeper 126 = .ok (.getfield 232, 3) := by decide +kernel
theorem dX8_spellsSleeper_129 : decode cX8_spellsSleeper 129 = .ok (.bipush 6, 2) := by decide +kernel
theorem dX8_spellsSleeper_131 : decode cX8_spellsSleeper 131 = .ok (.iadd, 1) := by decide +kernel
theorem dX8_spellsSleeper_132 : decode cX8_spellsSleeper 132 = .ok (.iaload, 1) := by decide +kernel
theorem dX8_spellsSleeper_133 : decode cX8_spellsSleeper 133 = .ok (.bipush 114, 2) := by decide +kernel
theorem dX8_spellsSleeper_135 : decode cX8_spellsSleeper 135 = .ok (.if_icmp .ne 7, 3) := by decide +kernel
theorem dX8_spellsSleeper_138 : decode cX8_spellsSleeper 138 = .ok (.iconst 1, 1) := by decide +kernel
theorem dX8_spellsSleeper_139 : decode cX8_spellsSleeper 139 = .ok (.goto 4, 3) := by decide +kernel
theorem dX8_spellsSleeper_142 : decode cX8_spellsSleeper 142 = .ok (.iconst 0, 1) := by decide +kernel
theorem dX8_spellsSleeper_143 : decode cX8_spellsSleeper 143 = .ok (.ireturn, 1) := by decide +kernel
theorem dX8_takesSleeper_0 : decode cX8_takesSleeper 0 = .ok (.aload_n 0, 1) := by decide +kernel
theorem dX8_takesSleeper_1 : decode cX8_takesSleeper 1 = .ok (.getfield 45, 3) := by decide +kernel
theorem dX8_takesSleeper_4 : decode cX8_takesSleeper 4 = .ok (.iconst 0, 1) := by decide +kernel
theorem dX8_takesSleeper_5 : decode cX8_takesSleeper 5 = .ok (.iaload, 1) := by decide +kernel
theorem dX8_takesSleeper_6 : decode cX8_takesSleeper 6 = .ok (.bipush 6, 2) := by decide +kernel
theorem dX8_takesSleeper_8 : decode cX8_takesSleeper 8 = .ok (.if_icmp .ne 5, 3) := by decide +kernel
theorem dX8_takesSleeper_11 : decode cX8_takesSleeper 11 = .ok (.iconst 0, 1) := by decide +kernel
theorem dX8_takesSleeper_12 : decode cX8_takesSleeper 12 = .ok (.ireturn, 1) := by decide +kernel
theorem dX8_takesSleeper_13 : decode cX8_takesSleeper 13 = .ok (.aload_n 0, 1) := by decide +kernel
theorem dX8_takesSleeper_14 : decode cX8_takesSleeper 14 = .ok (.invokevirtual 254, 3) := by decide +kernel
theorem dX8_takesSleeper_17 : decode cX8_takesSleeper 17 = .ok (.aload_n 0, 1) := by decide +kernel
theorem dX8_takesSleeper_18 : decode cX8_takesSleeper 18 = .ok (.iconst 0, 1) := by decide +kernel
theorem dX8_takesSleeper_19 : decode cX8_takesSleeper 19 = .ok (.iconst 0, 1) := by decide +kernel
theorem dX8_takesSleeper_20 : decode cX8_takesSleeper 20 = .ok (.iconst 5, 1) := by decide +kernel
theorem dX8_takesSleeper_21 : decode cX8_takesSleeper 21 = .ok (.invokevirtual 257, 3) := by decide +kernel
theorem dX8_takesSleeper_24 : decode cX8_takesSleeper 24 = .ok (.ifCond .eq 14, 3) := by decide +kernel
theorem dX8_takesSleeper_27 : decode cX8_takesSleeper 27 = .ok (.aload_n 0, 1) := by decide +kernel
theorem dX8_takesSleeper_28 : decode cX8_takesSleeper 28 = .ok (.iconst 1, 1) := by decide +kernel
theorem dX8_takesSleeper_29 : decode cX8_takesSleeper 29 = .ok (.iconst 0, 1) := by decide +kernel
theorem dX8_takesSleeper_30 : decode cX8_takesSleeper 30 = .ok (.bipush 9, 2) := by decide +kernel
theorem dX8_takesSleeper_32 : decode cX8_takesSleeper 32 = .ok (.invokevirtual 257, 3) := by decide +kernel
theorem dX8_takesSleeper_35 : decode cX8_takesSleeper 35 = .ok (.ifCond .ne 5, 3) := by decide +kernel
theorem dX8_takesSleeper_38 : decode cX8_takesSleeper 38 = .ok (.iconst 0, 1) := by decide +kernel
theorem dX8_takesSleeper_39 : decode cX8_takesSleeper 39 = .ok (.ireturn, 1) := by decide +kernel
theorem dX8_takesSleeper_40 : decode cX8_takesSleeper 40 = .ok (.aload_n 0, 1) := by decide +kernel
theorem dX8_takesSleeper_41 : decode cX8_takesSleeper 41 = .ok (.getfield 45, 3) := by decide +kernel
theorem dX8_takesSleeper_44 : decode cX8_takesSleeper 44 = .ok (.aload_n 0, 1) := by decide +kernel
theorem dX8_takesSleeper_45 : decode cX8_takesSleeper 45 = .ok (.getfield 48, 3) := by decide +kernel
theorem dX8_takesSleeper_48 : decode cX8_takesSleeper 48 = .ok (.iconst 0, 1) := by decide +kernel
theorem dX8_takesSleeper_49 : decode cX8_takesSleeper 49 = .ok (.iaload, 1) := by decide +kernel
theorem dX8_takesSleeper_50 : decode cX8_takesSleeper 50 = .ok (.aload_n 0, 1) := by decide +kernel
theorem dX8_takesSleeper_51 : decode cX8_takesSleeper 51 = .ok (.getfield 48, 3) := by decide +kernel
theorem dX8_takesSleeper_54 : decode cX8_takesSleeper 54 = .ok (.iconst 1, 1) := by decide +kernel
theorem dX8_takesSleeper_55 : decode cX8_takesSleeper 55 = .ok (.iaload, 1) := by decide +kernel
theorem dX8_takesSleeper_56 : decode cX8_takesSleeper 56 = .ok (.invokestatic 82, 3) := by decide +kernel
theorem dX8_takesSleeper_59 : decode cX8_takesSleeper 59 = .ok (.iconst 1, 1) := by decide +kernel
theorem dX8_takesSleeper_60 : decode cX8_takesSleeper 60 = .ok (.ireturn, 1) := by decide +kernel
theorem dX8_takesFlower_0 : decode cX8_takesFlower 0 = .ok (.aload_n 0, 1) := by decide +kernel
theorem dX8_takesFlower_1 : decode cX8_takesFlower 1 = .ok (.getfield 45, 3) := by decide +kernel
theorem dX8_takesFlower_4 : decode cX8_takesFlower 4 = .ok (.iconst 1, 1) := by decide +kernel
theorem dX8_takesFlower_5 : decode cX8_takesFlower 5 = .ok (.iaload, 1) := by decide +kernel
theorem dX8_takesFlower_6 : decode cX8_takesFlower 6 = .ok (.bipush 6, 2) := by decide +kernel
theorem dX8_takesFlower_8 : decode cX8_takesFlower 8 = .ok (.if_icmp .ne 5, 3) := by decide +kernel
theorem dX8_takesFlower_11 : decode cX8_takesFlower 11 = .ok (.iconst 0, 1) := by decide +kernel
theorem dX8_takesFlower_12 : decode cX8_takesFlower 12 = .ok (.ireturn, 1) := by decide +kernel
theorem dX8_takesFlower_13 : decode cX8_takesFlower 13 = .ok (.aload_n 0, 1) := by decide +kernel
theorem dX8_takesFlower_14 : decode cX8_takesFlower 14 = .ok (.invokevirtual 254, 3) := by decide +kernel
theorem dX8_takesFlower_17 : decode cX8_takesFlower 17 = .ok (.aload_n 0, 1) := by decide +kernel
theorem dX8_takesFlower_18 : decode cX8_takesFlower 18 = .ok (.iconst 0, 1) := by decide +kernel
theorem dX8_takesFlower_19 : decode cX8_takesFlower 19 = .ok (.iconst 0, 1) := by decide +kernel
theorem dX8_takesFlower_20 : decode cX8_takesFlower 20 = .ok (.iconst 5, 1) := by decide +kernel
theorem dX8_takesFlower_21 : decode cX8_takesFlower 21 = .ok (.invokevirtual 257, 3) := by decide +kernel
theorem dX8_takesFlower_24 : decode cX8_takesFlower 24 = .ok (.ifCond .eq 24, 3) := by decide +kernel
theorem dX8_takesFlower_27 : decode cX8_takesFlower 27 = .ok (.aload_n 0, 1) := by decide +kernel
theorem dX8_takesFlower_28 : decode cX8_takesFlower 28 = .ok (.iconst 1, 1) := by decide +kernel
theorem dX8_takesFlower_29 : decode cX8_takesFlower 29 = .ok (.iconst 1, 1) := by decide +kernel
theorem dX8_takesFlower_30 : decode cX8_takesFlower 30 = .ok (.bipush 9, 2) := by decide +kernel
theorem dX8_takesFlower_32 : decode cX8_takesFlower 32 = .ok (.invokevirtual 257, 3) := by decide +kernel
theorem dX8_takesFlower_35 : decode cX8_takesFlower 35 = .ok (.ifCond .eq 13, 3) := by decide +kernel
theorem dX8_takesFlower_38 : decode cX8_takesFlower 38 = .ok (.aload_n 0, 1) := by decide +kernel
theorem dX8_takesFlower_39 : decode cX8_takesFlower 39 = .ok (.iconst 2, 1) := by decide +kernel
theorem dX8_takesFlower_40 : decode cX8_takesFlower 40 = .ok (.iconst 0, 1) := by decide +kernel
theorem dX8_takesFlower_41 : decode cX8_takesFlower 41 = .ok (.iconst 5, 1) := by decide +kernel
theorem dX8_takesFlower_42 : decode cX8_takesFlower 42 = .ok (.invokevirtual 257, 3) := by decide +kernel
theorem dX8_takesFlower_45 : decode cX8_takesFlower 45 = .ok (.ifCond .ne 5, 3) := by decide +kernel
theorem dX8_takesFlower_48 : decode cX8_takesFlower 48 = .ok (.iconst 0, 1) := by decide +kernel
theorem dX8_takesFlower_49 : decode cX8_takesFlower 49 = .ok (.ireturn, 1) := by decide +kernel
theorem dX8_takesFlower_50 : decode cX8_takesFlower 50 = .ok (.aload_n 0, 1) := by decide +kernel
theorem dX8_takesFlower_51 : decode cX8_takesFlower 51 = .ok (.getfield 45, 3) := by decide +kernel
theorem dX8_takesFlower_54 : decode cX8_takesFlower 54 = .ok (.aload_n 0, 1) := by decide +kernel
theorem dX8_takesFlower_55 : decode cX8_takesFlower 55 = .ok (.getfield 48, 3) := by decide +kernel
theorem dX8_takesFlower_58 : decode cX8_takesFlower 58 = .ok (.iconst 0, 1) := by decide +kernel
theorem dX8_takesFlower_59 : decode cX8_takesFlower 59 = .ok (.iaload, 1) := by decide +kernel
theorem dX8_takesFlower_60 : decode cX8_takesFlower 60 = .ok (.aload_n 0, 1) := by decide +kernel
theorem dX8_takesFlower_61 : decode cX8_takesFlower 61 = .ok (.getfield 48, 3) := by decide +kernel
theorem dX8_takesFlower_64 : decode cX8_takesFlower 64 = .ok (.iconst 1, 1) := by decide +kernel
theorem dX8_takesFlower_65 : decode cX8_takesFlower 65 = .ok (.iaload, 1) := by decide +kernel
theorem dX8_takesFlower_66 : decode cX8_takesFlower 66 = .ok (.aload_n 0, 1) := by decide +kernel
theorem dX8_takesFlower_67 : decode cX8_takesFlower 67 = .ok (.getfield 48, 3) := by decide +kernel
theorem dX8_takesFlower_70 : decode cX8_takesFlower 70 = .ok (.iconst 2, 1) := by decide +kernel
theorem dX8_takesFlower_71 : decode cX8_takesFlower 71 = .ok (.iaload, 1) := by decide +kernel
theorem dX8_takesFlower_72 : decode cX8_takesFlower 72 = .ok (.invokestatic 92, 3) := by decide +kernel
theorem dX8_takesFlower_75 : decode cX8_takesFlower 75 = .ok (.iconst 1, 1) := by decide +kernel
theorem dX8_takesFlower_76 : decode cX8_takesFlower 76 = .ok (.ireturn, 1) := by decide +kernel
theorem dX8_takesSwap_0 : decode cX8_takesSwap 0 = .ok (.aload_n 0, 1) := by decide +kernel
theorem dX8_takesSwap_1 : decode cX8_takesSwap 1 = .ok (.invokevirtual 254, 3) := by decide +kernel
theorem dX8_takesSwap_4 : decode cX8_takesSwap 4 = .ok (.aload_n 0, 1) := by decide +kernel
theorem dX8_takesSwap_5 : decode cX8_takesSwap 5 = .ok (.iconst 0, 1) := by decide +kernel
theorem dX8_takesSwap_6 : decode cX8_takesSwap 6 = .ok (.iconst 0, 1) := by decide +kernel
theorem dX8_takesSwap_7 : decode cX8_takesSwap 7 = .ok (.iconst 5, 1) := by decide +kernel
theorem dX8_takesSwap_8 : decode cX8_takesSwap 8 = .ok (.invokevirtual 257, 3) := by decide +kernel
theorem dX8_takesSwap_11 : decode cX8_takesSwap 11 = .ok (.ifCond .eq 34, 3) := by decide +kernel
theorem dX8_takesSwap_14 : decode cX8_takesSwap 14 = .ok (.aload_n 0, 1) := by decide +kernel
theorem dX8_takesSwap_15 : decode cX8_takesSwap 15 = .ok (.getfield 238, 3) := by decide +kernel
theorem dX8_takesSwap_18 : decode cX8_takesSwap 18 = .ok (.iconst 2, 1) := by decide +kernel
theorem dX8_takesSwap_19 : decode cX8_takesSwap 19 = .ok (.if_icmp .ne 26, 3) := by decide +kernel
theorem dX8_takesSwap_22 : decode cX8_takesSwap 22 = .ok (.aload_n 0, 1) := by decide +kernel
theorem dX8_takesSwap_23 : decode cX8_takesSwap 23 = .ok (.getfield 241, 3) := by decide +kernel
theorem dX8_takesSwap_26 : decode cX8_takesSwap 26 = .ok (.aload_n 0, 1) := by decide +kernel
theorem dX8_takesSwap_27 : decode cX8_takesSwap 27 = .ok (.getfield 48, 3) := by decide +kernel
theorem dX8_takesSwap_30 : decode cX8_takesSwap 30 = .ok (.iconst 0, 1) := by decide +kernel
theorem dX8_takesSwap_31 : decode cX8_takesSwap 31 = .ok (.iaload, 1) := by decide +kernel
theorem dX8_takesSwap_32 : decode cX8_takesSwap 32 = .ok (.if_icmp .eq 13, 3) := by decide +kernel
theorem dX8_takesSwap_35 : decode cX8_takesSwap 35 = .ok (.aload_n 0, 1) := by decide +kernel
theorem dX8_takesSwap_36 : decode cX8_takesSwap 36 = .ok (.iconst 1, 1) := by decide +kernel
theorem dX8_takesSwap_37 : decode cX8_takesSwap 37 = .ok (.iconst 0, 1) := by decide +kernel
theorem dX8_takesSwap_38 : decode cX8_takesSwap 38 = .ok (.iconst 5, 1) := by decide +kernel
theorem dX8_takesSwap_39 : decode cX8_takesSwap 39 = .ok (.invokevirtual 257, 3) := by decide +kernel
theorem dX8_takesSwap_42 : decode cX8_takesSwap 42 = .ok (.ifCond .ne 5, 3) := by decide +kernel
theorem dX8_takesSwap_45 : decode cX8_takesSwap 45 = .ok (.iconst 0, 1) := by decide +kernel
theorem dX8_takesSwap_46 : decode cX8_takesSwap 46 = .ok (.ireturn, 1) := by decide +kernel
theorem dX8_takesSwap_47 : decode cX8_takesSwap 47 = .ok (.aload_n 0, 1) := by decide +kernel
theorem dX8_takesSwap_48 : decode cX8_takesSwap 48 = .ok (.getfield 45, 3) := by decide +kernel
theorem dX8_takesSwap_51 : decode cX8_takesSwap 51 = .ok (.aload_n 0, 1) := by decide +kernel
theorem dX8_takesSwap_52 : decode cX8_takesSwap 52 = .ok (.getfield 48, 3) := by decide +kernel
theorem dX8_takesSwap_55 : decode cX8_takesSwap 55 = .ok (.iconst 0, 1) := by decide +kernel
theorem dX8_takesSwap_56 : decode cX8_takesSwap 56 = .ok (.iaload, 1) := by decide +kernel
theorem dX8_takesSwap_57 : decode cX8_takesSwap 57 = .ok (.aload_n 0, 1) := by decide +kernel
theorem dX8_takesSwap_58 : decode cX8_takesSwap 58 = .ok (.getfield 48, 3) := by decide +kernel
theorem dX8_takesSwap_61 : decode cX8_takesSwap 61 = .ok (.iconst 1, 1) := by decide +kernel
theorem dX8_takesSwap_62 : decode cX8_takesSwap 62 = .ok (.iaload, 1) := by decide +kernel
theorem dX8_takesSwap_63 : decode cX8_takesSwap 63 = .ok (.invokestatic 129, 3) := by decide +kernel
theorem dX8_takesSwap_66 : decode cX8_takesSwap 66 = .ok (.istore_n 1, 1) := by decide +kernel
theorem dX8_takesSwap_67 : decode cX8_takesSwap 67 = .ok (.iconst 1, 1) := by decide +kernel
theorem dX8_takesSwap_68 : decode cX8_takesSwap 68 = .ok (.ireturn, 1) := by decide +kernel
theorem dX8_takesNights_0 : decode cX8_takesNights 0 = .ok (.aload_n 0, 1) := by decide +kernel
theorem dX8_takesNights_1 : decode cX8_takesNights 1 = .ok (.invokevirtual 254, 3) := by decide +kernel
theorem dX8_takesNights_4 : decode cX8_takesNights 4 = .ok (.aload_n 0, 1) := by decide +kernel
theorem dX8_takesNights_5 : decode cX8_takesNights 5 = .ok (.iconst 0, 1) := by decide +kernel
theorem dX8_takesNights_6 : decode cX8_takesNights 6 = .ok (.iconst 1, 1) := by decide +kernel
theorem dX8_takesNights_7 : decode cX8_takesNights 7 = .ok (.bipush 99, 2) := by decide +kernel
theorem dX8_takesNights_9 : decode cX8_takesNights 9 = .ok (.invokevirtual 257, 3) := by decide +kernel
theorem dX8_takesNights_12 : decode cX8_takesNights 12 = .ok (.ifCond .ne 5, 3) := by decide +kernel
theorem dX8_takesNights_15 : decode cX8_takesNights 15 = .ok (.iconst 0, 1) := by decide +kernel
theorem dX8_takesNights_16 : decode cX8_takesNights 16 = .ok (.ireturn, 1) := by decide +kernel
theorem dX8_takesNights_17 : decode cX8_takesNights 17 = .ok (.aload_n 0, 1) := by decide +kernel
theorem dX8_takesNights_18 : decode cX8_takesNights 18 = .ok (.getfield 45, 3) := by decide +kernel
theorem dX8_takesNights_21 : decode cX8_takesNights 21 = .ok (.aload_n 0, 1) := by decide +kernel
theorem dX8_takesNights_22 : decode cX8_takesNights 22 = .ok (.getfield 48, 3) := by decide +kernel
theorem dX8_takesNights_25 : decode cX8_takesNights 25 = .ok (.iconst 0, 1) := by decide +kernel
theorem dX8_takesNights_26 : decode cX8_takesNights 26 = .ok (.iaload, 1) := by decide +kernel
theorem dX8_takesNights_27 : decode cX8_takesNights 27 = .ok (.invokestatic 118, 3) := by decide +kernel
theorem dX8_takesNights_30 : decode cX8_takesNights 30 = .ok (.iconst 1, 1) := by decide +kernel
theorem dX8_takesNights_31 : decode cX8_takesNights 31 = .ok (.ireturn, 1) := by decide +kernel
theorem dX8_takesItem_0 : decode cX8_takesItem 0 = .ok (.aload_n 0, 1) := by decide +kernel
theorem dX8_takesItem_1 : decode cX8_takesItem 1 = .ok (.invokevirtual 260, 3) := by decide +kernel
theorem dX8_takesItem_4 : decode cX8_takesItem 4 = .ok (.ifCond .eq 8, 3) := by decide +kernel
theorem dX8_takesItem_7 : decode cX8_takesItem 7 = .ok (.aload_n 0, 1) := by decide +kernel
theorem dX8_takesItem_8 : decode cX8_takesItem 8 = .ok (.invokevirtual 264, 3) := by decide +kernel
theorem dX8_takesItem_11 : decode cX8_takesItem 11 = .ok (.ireturn, 1) := by decide +kernel
theorem dX8_takesItem_12 : decode cX8_takesItem 12 = .ok (.aload_n 0, 1) := by decide +kernel
theorem dX8_takesItem_13 : decode cX8_takesItem 13 = .ok (.bipush 6, 2) := by decide +kernel
theorem dX8_takesItem_15 : decode cX8_takesItem 15 = .ok (.bipush 102, 2) := by decide +kernel
theorem dX8_takesItem_17 : decode cX8_takesItem 17 = .ok (.bipush 108, 2) := by decide +kernel
theorem dX8_takesItem_19 : decode cX8_takesItem 19 = .ok (.bipush 111, 2) := by decide +kernel
theorem dX8_takesItem_21 : decode cX8_takesItem 21 = .ok (.bipush 119, 2) := by decide +kernel
theorem dX8_takesItem_23 : decode cX8_takesItem 23 = .ok (.bipush 101, 2) := by decide +kernel
theorem dX8_takesItem_25 : decode cX8_takesItem 25 = .ok (.bipush 114, 2) := by decide +kernel
theorem dX8_takesItem_27 : decode cX8_takesItem 27 = .ok (.invokevirtual 267, 3) := by decide +kernel
theorem dX8_takesItem_30 : decode cX8_takesItem 30 = .ok (.ifCond .eq 8, 3) := by decide +kernel
theorem dX8_takesItem_33 : decode cX8_takesItem 33 = .ok (.aload_n 0, 1) := by decide +kernel
theorem dX8_takesItem_34 : decode cX8_takesItem 34 = .ok (.invokevirtual 271, 3) := by decide +kernel
theorem dX8_takesItem_37 : decode cX8_takesItem 37 = .ok (.ireturn, 1) := by decide +kernel
theorem dX8_takesItem_38 : decode cX8_takesItem 38 = .ok (.aload_n 0, 1) := by decide +kernel
theorem dX8_takesItem_39 : decode cX8_takesItem 39 = .ok (.iconst 4, 1) := by decide +kernel
theorem dX8_takesItem_40 : decode cX8_takesItem 40 = .ok (.bipush 115, 2) := by decide +kernel
theorem dX8_takesItem_42 : decode cX8_takesItem 42 = .ok (.bipush 119, 2) := by decide +kernel
theorem dX8_takesItem_44 : decode cX8_takesItem 44 = .ok (.bipush 97, 2) := by decide +kernel
theorem dX8_takesItem_46 : decode cX8_takesItem 46 = .ok (.bipush 112, 2) := by decide +kernel
theorem dX8_takesItem_48 : decode cX8_takesItem 48 = .ok (.iconst 0, 1) := by decide +kernel
theorem dX8_takesItem_49 : decode cX8_takesItem 49 = .ok (.iconst 0, 1) := by decide +kernel
theorem dX8_takesItem_50 : decode cX8_takesItem 50 = .ok (.invokevirtual 267, 3) := by decide +kernel
theorem dX8_takesItem_53 : decode cX8_takesItem 53 = .ok (.ifCond .eq 8, 3) := by decide +kernel
theorem dX8_takesItem_56 : decode cX8_takesItem 56 = .ok (.aload_n 0, 1) := by decide +kernel
theorem dX8_takesItem_57 : decode cX8_takesItem 57 = .ok (.invokevirtual 274, 3) := by decide +kernel
theorem dX8_takesItem_60 : decode cX8_takesItem 60 = .ok (.ireturn, 1) := by decide +kernel
theorem dX8_takesItem_61 : decode cX8_takesItem 61 = .ok (.aload_n 0, 1) := by decide +kernel
theorem dX8_takesItem_62 : decode cX8_takesItem 62 = .ok (.bipush 6, 2) := by decide +kernel
theorem dX8_takesItem_64 : decode cX8_takesItem 64 = .ok (.bipush 110, 2) := by decide +kernel
theorem dX8_takesItem_66 : decode cX8_takesItem 66 = .ok (.bipush 105, 2) := by decide +kernel
theorem dX8_takesItem_68 : decode cX8_takesItem 68 = .ok (.bipush 103, 2) := by decide +kernel
theorem dX8_takesItem_70 : decode cX8_takesItem 70 = .ok (.bipush 104, 2) := by decide +kernel
theorem dX8_takesItem_72 : decode cX8_takesItem 72 = .ok (.bipush 116, 2) := by decide +kernel
theorem dX8_takesItem_74 : decode cX8_takesItem 74 = .ok (.bipush 115, 2) := by decide +kernel
theorem dX8_takesItem_76 : decode cX8_takesItem 76 = .ok (.invokevirtual 267, 3) := by decide +kernel
theorem dX8_takesItem_79 : decode cX8_takesItem 79 = .ok (.ifCond .eq 14, 3) := by decide +kernel
theorem dX8_takesItem_82 : decode cX8_takesItem 82 = .ok (.aload_n 0, 1) := by decide +kernel
theorem dX8_takesItem_83 : decode cX8_takesItem 83 = .ok (.invokevirtual 277, 3) := by decide +kernel
theorem dX8_takesItem_86 : decode cX8_takesItem 86 = .ok (.ifCond .eq 7, 3) := by decide +kernel
theorem dX8_takesItem_89 : decode cX8_takesItem 89 = .ok (.iconst 1, 1) := by decide +kernel
theorem dX8_takesItem_90 : decode cX8_takesItem 90 = .ok (.goto 4, 3) := by decide +kernel
theorem dX8_takesItem_93 : decode cX8_takesItem 93 = .ok (.iconst 0, 1) := by decide +kernel
theorem dX8_takesItem_94 : decode cX8_takesItem 94 = .ok (.ireturn, 1) := by decide +kernel
theorem dX8_read_0 : decode cX8_read 0 = .ok (.aload_n 0, 1) := by decide +kernel
theorem dX8_read_1 : decode cX8_read 1 = .ok (.iconst 0, 1) := by decide +kernel
theorem dX8_read_2 : decode cX8_read 2 = .ok (.invokevirtual 250, 3) := by decide +kernel
theorem dX8_read_5 : decode cX8_read 5 = .ok (.aload_n 0, 1) := by decide +kernel
theorem dX8_read_6 : decode cX8_read 6 = .ok (.bipush 6, 2) := by decide +kernel
theorem dX8_read_8 : decode cX8_read 8 = .ok (.bipush 111, 2) := by decide +kernel
theorem dX8_read_10 : decode cX8_read 10 = .ok (.bipush 102, 2) := by decide +kernel
theorem dX8_read_12 : decode cX8_read 12 = .ok (.bipush 102, 2) := by decide +kernel
theorem dX8_read_14 : decode cX8_read 14 = .ok (.bipush 105, 2) := by decide +kernel
theorem dX8_read_16 : decode cX8_read 16 = .ok (.bipush 99, 2) := by decide +kernel
theorem dX8_read_18 : decode cX8_read 18 = .ok (.bipush 101, 2) := by decide +kernel
theorem dX8_read_20 : decode cX8_read 20 = .ok (.invokevirtual 267, 3) := by decide +kernel
theorem dX8_read_23 : decode cX8_read 23 = .ok (.ifCond .ne 11, 3) := by decide +kernel
theorem dX8_read_26 : decode cX8_read 26 = .ok (.bipush (-10), 2) := by decide +kernel
theorem dX8_read_28 : decode cX8_read 28 = .ok (.aload_n 0, 1) := by decide +kernel
theorem dX8_read_29 : decode cX8_read 29 = .ok (.getfield 232, 3) := by decide +kernel
theorem dX8_read_32 : decode cX8_read 32 = .ok (.isub, 1) := by decide +kernel
theorem dX8_read_33 : decode cX8_read 33 = .ok (.ireturn, 1) := by decide +kernel
theorem dX8_read_34 : decode cX8_read 34 = .ok (.aload_n 0, 1) := by decide +kernel
theorem dX8_read_35 : decode cX8_read 35 = .ok (.invokevirtual 254, 3) := by decide +kernel
theorem dX8_read_38 : decode cX8_read 38 = .ok (.aload_n 0, 1) := by decide +kernel
theorem dX8_read_39 : decode cX8_read 39 = .ok (.getfield 238, 3) := by decide +kernel
theorem dX8_read_42 : decode cX8_read 42 = .ok (.iconst 3, 1) := by decide +kernel
theorem dX8_read_43 : decode cX8_read 43 = .ok (.if_icmp .eq 11, 3) := by decide +kernel
theorem dX8_read_46 : decode cX8_read 46 = .ok (.bipush (-10), 2) := by decide +kernel
theorem dX8_read_48 : decode cX8_read 48 = .ok (.aload_n 0, 1) := by decide +kernel
theorem dX8_read_49 : decode cX8_read 49 = .ok (.getfield 232, 3) := by decide +kernel
theorem dX8_read_52 : decode cX8_read 52 = .ok (.isub, 1) := by decide +kernel
theorem dX8_read_53 : decode cX8_read 53 = .ok (.ireturn, 1) := by decide +kernel
theorem dX8_read_54 : decode cX8_read 54 = .ok (.aload_n 0, 1) := by decide +kernel
theorem dX8_read_55 : decode cX8_read 55 = .ok (.invokevirtual 254, 3) := by decide +kernel
theorem dX8_read_58 : decode cX8_read 58 = .ok (.aload_n 0, 1) := by decide +kernel
theorem dX8_read_59 : decode cX8_read 59 = .ok (.getfield 45, 3) := by decide +kernel
theorem dX8_read_62 : decode cX8_read 62 = .ok (.invokestatic 51, 3) := by decide +kernel
theorem dX8_read_65 : decode cX8_read 65 = .ok (.iconst 1, 1) := by decide +kernel
theorem dX8_read_66 : decode cX8_read 66 = .ok (.istore_n 1, 1) := by decide +kernel
theorem dX8_read_67 : decode cX8_read 67 = .ok (.aload_n 0, 1) := by decide +kernel
theorem dX8_read_68 : decode cX8_read 68 = .ok (.getfield 238, 3) := by decide +kernel
theorem dX8_read_71 : decode cX8_read 71 = .ok (.ifCond .eq 36, 3) := by decide +kernel
theorem dX8_read_74 : decode cX8_read 74 = .ok (.aload_n 0, 1) := by decide +kernel
theorem dX8_read_75 : decode cX8_read 75 = .ok (.invokevirtual 280, 3) := by decide +kernel
theorem dX8_read_78 : decode cX8_read 78 = .ok (.ifCond .eq 11, 3) := by decide +kernel
theorem dX8_read_81 : decode cX8_read 81 = .ok (.aload_n 0, 1) := by decide +kernel
theorem dX8_read_82 : decode cX8_read 82 = .ok (.getfield 238, 3) := by decide +kernel
theorem dX8_read_85 : decode cX8_read 85 = .ok (.iconst 3, 1) := by decide +kernel
theorem dX8_read_86 : decode cX8_read 86 = .ok (.if_icmp .eq 11, 3) := by decide +kernel
theorem dX8_read_89 : decode cX8_read 89 = .ok (.bipush (-10), 2) := by decide +kernel
theorem dX8_read_91 : decode cX8_read 91 = .ok (.aload_n 0, 1) := by decide +kernel
theorem dX8_read_92 : decode cX8_read 92 = .ok (.getfield 232, 3) := by decide +kernel
theorem dX8_read_95 : decode cX8_read 95 = .ok (.isub, 1) := by decide +kernel
theorem dX8_read_96 : decode cX8_read 96 = .ok (.ireturn, 1) := by decide +kernel
theorem dX8_read_97 : decode cX8_read 97 = .ok (.aload_n 0, 1) := by decide +kernel
theorem dX8_read_98 : decode cX8_read 98 = .ok (.invokevirtual 254, 3) := by decide +kernel
theorem dX8_read_101 : decode cX8_read 101 = .ok (.iinc 1 1, 3) := by decide +kernel
theorem dX8_read_104 : decode cX8_read 104 = .ok (.goto (-37), 3) := by decide +kernel
theorem dX8_read_107 : decode cX8_read 107 = .ok (.iconst 0, 1) := by decide +kernel
theorem dX8_read_108 : decode cX8_read 108 = .ok (.istore_n 2, 1) := by decide +kernel
theorem dX8_read_109 : decode cX8_read 109 = .ok (.iload_n 2, 1) := by decide +kernel
theorem dX8_read_110 : decode cX8_read 110 = .ok (.bipush 112, 2) := by decide +kernel
theorem dX8_read_112 : decode cX8_read 112 = .ok (.if_icmp .ge 21, 3) := by decide +kernel
theorem dX8_read_115 : decode cX8_read 115 = .ok (.aload_n 0, 1) := by decide +kernel
theorem dX8_read_116 : decode cX8_read 116 = .ok (.getfield 7, 3) := by decide +kernel
theorem dX8_read_119 : decode cX8_read 119 = .ok (.iload_n 2, 1) := by decide +kernel
theorem dX8_read_120 : decode cX8_read 120 = .ok (.aload_n 0, 1) := by decide +kernel
theorem dX8_read_121 : decode cX8_read 121 = .ok (.getfield 45, 3) := by decide +kernel
theorem dX8_read_124 : decode cX8_read 124 = .ok (.iload_n 2, 1) := by decide +kernel
theorem dX8_read_125 : decode cX8_read 125 = .ok (.iaload, 1) := by decide +kernel
theorem dX8_read_126 : decode cX8_read 126 = .ok (.iastore, 1) := by decide +kernel
theorem dX8_read_127 : decode cX8_read 127 = .ok (.iinc 2 1, 3) := by decide +kernel
theorem dX8_read_130 : decode cX8_read 130 = .ok (.goto (-21), 3) := by decide +kernel
theorem dX8_read_133 : decode cX8_read 133 = .ok (.iload_n 1, 1) := by decide +kernel
theorem dX8_read_134 : decode cX8_read 134 = .ok (.ireturn, 1) := by decide +kernel
theorem dX8_part_0 : decode cX8_part 0 = .ok (.iload_n 1, 1) := by decide +kernel
theorem dX8_part_1 : decode cX8_part 1 = .ok (.ifCond .ne 10, 3) := by decide +kernel
theorem dX8_part_4 : decode cX8_part 4 = .ok (.aload_n 0, 1) := by decide +kernel
theorem dX8_part_5 : decode cX8_part 5 = .ok (.getfield 195, 3) := by decide +kernel
theorem dX8_part_8 : decode cX8_part 8 = .ok (.goto 22, 3) := by decide +kernel
theorem dX8_part_11 : decode cX8_part 11 = .ok (.iload_n 1, 1) := by decide +kernel
theorem dX8_part_12 : decode cX8_part 12 = .ok (.iconst 1, 1) := by decide +kernel
theorem dX8_part_13 : decode cX8_part 13 = .ok (.if_icmp .ne 10, 3) := by decide +kernel
theorem dX8_part_16 : decode cX8_part 16 = .ok (.aload_n 0, 1) := by decide +kernel
theorem dX8_part_17 : decode cX8_part 17 = .ok (.getfield 23, 3) := by decide +kernel
theorem dX8_part_20 : decode cX8_part 20 = .ok (.goto 10, 3) := by decide +kernel
theorem dX8_part_23 : decode cX8_part 23 = .ok (.aload_n 0, 1) := by decide +kernel
theorem dX8_part_24 : decode cX8_part 24 = .ok (.bipush (-2), 2) := by decide +kernel
theorem dX8_part_26 : decode cX8_part 26 = .ok (.invokevirtual 75, 3) := by decide +kernel
theorem dX8_part_29 : decode cX8_part 29 = .ok (.i2l, 1) := by decide +kernel
theorem dX8_part_30 : decode cX8_part 30 = .ok (.lreturn, 1) := by decide +kernel
theorem dX8_image_0 : decode cX8_image 0 = .ok (.iload_n 1, 1) := by decide +kernel
theorem dX8_image_1 : decode cX8_image 1 = .ok (.i2l, 1) := by decide +kernel
theorem dX8_image_2 : decode cX8_image 2 = .ok (.lconst 0, 1) := by decide +kernel
theorem dX8_image_3 : decode cX8_image 3 = .ok (.lconst 1, 1) := by decide +kernel
theorem dX8_image_4 : decode cX8_image 4 = .ok (.invokestatic 59, 3) := by decide +kernel
theorem dX8_image_7 : decode cX8_image 7 = .ok (.ifCond .ne 10, 3) := by decide +kernel
theorem dX8_image_10 : decode cX8_image 10 = .ok (.aload_n 0, 1) := by decide +kernel
theorem dX8_image_11 : decode cX8_image 11 = .ok (.bipush (-2), 2) := by decide +kernel
theorem dX8_image_13 : decode cX8_image 13 = .ok (.invokevirtual 75, 3) := by decide +kernel
theorem dX8_image_16 : decode cX8_image 16 = .ok (.ireturn, 1) := by decide +kernel
theorem dX8_image_17 : decode cX8_image 17 = .ok (.iconst 0, 1) := by decide +kernel
theorem dX8_image_18 : decode cX8_image 18 = .ok (.istore_n 2, 1) := by decide +kernel
theorem dX8_image_19 : decode cX8_image 19 = .ok (.iload_n 2, 1) := by decide +kernel
theorem dX8_image_20 : decode cX8_image 20 = .ok (.sipush 312, 3) := by decide +kernel
theorem dX8_image_23 : decode cX8_image 23 = .ok (.if_icmp .ge 27, 3) := by decide +kernel
theorem dX8_image_26 : decode cX8_image 26 = .ok (.aload_n 0, 1) := by decide +kernel
theorem dX8_image_27 : decode cX8_image 27 = .ok (.getfield 13, 3) := by decide +kernel
theorem dX8_image_30 : decode cX8_image 30 = .ok (.sipush 312, 3) := by decide +kernel
theorem dX8_image_33 : decode cX8_image 33 = .ok (.iload_n 1, 1) := by decide +kernel
theorem dX8_image_34 : decode cX8_image 34 = .ok (.imul, 1) := by decide +kernel
theorem dX8_image_35 : decode cX8_image 35 = .ok (.iload_n 2, 1) := by decide +kernel
theorem dX8_image_36 : decode cX8_image 36 = .ok (.iadd, 1) := by decide +kernel
theorem dX8_image_37 : decode cX8_image 37 = .ok (.aload_n 0, 1) := by decide +kernel
theorem dX8_image_38 : decode cX8_image 38 = .ok (.getfield 7, 3) := by decide +kernel
theorem dX8_image_41 : decode cX8_image 41 = .ok (.iload_n 2, 1) := by decide +kernel
theorem dX8_image_42 : decode cX8_image 42 = .ok (.iaload, 1) := by decide +kernel
theorem dX8_image_43 : decode cX8_image 43 = .ok (.iastore, 1) := by decide +kernel
theorem dX8_image_44 : decode cX8_image 44 = .ok (.iinc 2 1, 3) := by decide +kernel
theorem dX8_image_47 : decode cX8_image 47 = .ok (.goto (-28), 3) := by decide +kernel
theorem dX8_image_50 : decode cX8_image 50 = .ok (.aload_n 0, 1) := by decide +kernel
theorem dX8_image_51 : decode cX8_image 51 = .ok (.getfield 16, 3) := by decide +kernel
theorem dX8_image_54 : decode cX8_image 54 = .ok (.iload_n 1, 1) := by decide +kernel
theorem dX8_image_55 : decode cX8_image 55 = .ok (.iconst 1, 1) := by decide +kernel
theorem dX8_image_56 : decode cX8_image 56 = .ok (.bastore, 1) := by decide +kernel
theorem dX8_image_57 : decode cX8_image 57 = .ok (.iconst 1, 1) := by decide +kernel
theorem dX8_image_58 : decode cX8_image 58 = .ok (.ireturn, 1) := by decide +kernel
theorem dX8_from_0 : decode cX8_from 0 = .ok (.iload_n 1, 1) := by decide +kernel
theorem dX8_from_1 : decode cX8_from 1 = .ok (.i2l, 1) := by decide +kernel
theorem dX8_from_2 : decode cX8_from 2 = .ok (.lconst 0, 1) := by decide +kernel
theorem dX8_from_3 : decode cX8_from 3 = .ok (.lconst 1, 1) := by decide +kernel
theorem dX8_from_4 : decode cX8_from 4 = .ok (.invokestatic 59, 3) := by decide +kernel
theorem dX8_from_7 : decode cX8_from 7 = .ok (.ifCond .ne 10, 3) := by decide +kernel
theorem dX8_from_10 : decode cX8_from 10 = .ok (.aload_n 0, 1) := by decide +kernel
theorem dX8_from_11 : decode cX8_from 11 = .ok (.bipush (-2), 2) := by decide +kernel
theorem dX8_from_13 : decode cX8_from 13 = .ok (.invokevirtual 75, 3) := by decide +kernel
theorem dX8_from_16 : decode cX8_from 16 = .ok (.ireturn, 1) := by decide +kernel
theorem dX8_from_17 : decode cX8_from 17 = .ok (.aload_n 0, 1) := by decide +kernel
theorem dX8_from_18 : decode cX8_from 18 = .ok (.getfield 16, 3) := by decide +kernel
theorem dX8_from_21 : decode cX8_from 21 = .ok (.iload_n 1, 1) := by decide +kernel
theorem dX8_from_22 : decode cX8_from 22 = .ok (.baload, 1) := by decide +kernel
theorem dX8_from_23 : decode cX8_from 23 = .ok (.ifCond .ne 8, 3) := by decide +kernel
theorem dX8_from_26 : decode cX8_from 26 = .ok (.aload_n 0, 1) := by decide +kernel
theorem dX8_from_27 : decode cX8_from 27 = .ok (.invokevirtual 126, 3) := by decide +kernel
theorem dX8_from_30 : decode cX8_from 30 = .ok (.ireturn, 1) := by decide +kernel
theorem dX8_from_31 : decode cX8_from 31 = .ok (.iconst 0, 1) := by decide +kernel
theorem dX8_from_32 : decode cX8_from 32 = .ok (.istore_n 2, 1) := by decide +kernel
theorem dX8_from_33 : decode cX8_from 33 = .ok (.iload_n 2, 1) := by decide +kernel
theorem dX8_from_34 : decode cX8_from 34 = .ok (.sipush 312, 3) := by decide +kernel
theorem dX8_from_37 : decode cX8_from 37 = .ok (.if_icmp .ge 27, 3) := by decide +kernel
theorem dX8_from_40 : decode cX8_from 40 = .ok (.aload_n 0, 1) := by decide +kernel
theorem dX8_from_41 : decode cX8_from 41 = .ok (.getfield 7, 3) := by decide +kernel
theorem dX8_from_44 : decode cX8_from 44 = .ok (.iload_n 2, 1) := by decide +kernel
theorem dX8_from_45 : decode cX8_from 45 = .ok (.aload_n 0, 1) := by decide +kernel
theorem dX8_from_46 : decode cX8_from 46 = .ok (.getfield 13, 3) := by decide +kernel
theorem dX8_from_49 : decode cX8_from 49 = .ok (.sipush 312, 3) := by decide +kernel
theorem dX8_from_52 : decode cX8_from 52 = .ok (.iload_n 1, 1) := by decide +kernel
theorem dX8_from_53 : decode cX8_from 53 = .ok (.imul, 1) := by decide +kernel
theorem dX8_from_54 : decode cX8_from 54 = .ok (.iload_n 2, 1) := by decide +kernel
theorem dX8_from_55 : decode cX8_from 55 = .ok (.iadd, 1) := by decide +kernel
theorem dX8_from_56 : decode cX8_from 56 = .ok (.iaload, 1) := by decide +kernel
theorem dX8_from_57 : decode cX8_from 57 = .ok (.iastore, 1) := by decide +kernel
theorem dX8_from_58 : decode cX8_from 58 = .ok (.iinc 2 1, 3) := by decide +kernel
theorem dX8_from_61 : decode cX8_from 61 = .ok (.goto (-28), 3) := by decide +kernel
theorem dX8_from_64 : decode cX8_from 64 = .ok (.iconst 1, 1) := by decide +kernel
theorem dX8_from_65 : decode cX8_from 65 = .ok (.ireturn, 1) := by decide +kernel
theorem dX8_status_0 : decode cX8_status 0 = .ok (.iload_n 1, 1) := by decide +kernel
theorem dX8_status_1 : decode cX8_status 1 = .ok (.i2l, 1) := by decide +kernel
theorem dX8_status_2 : decode cX8_status 2 = .ok (.lconst 0, 1) := by decide +kernel
theorem dX8_status_3 : decode cX8_status 3 = .ok (.ldc2_w 166, 3) := by decide +kernel
theorem dX8_status_6 : decode cX8_status 6 = .ok (.invokestatic 59, 3) := by decide +kernel
theorem dX8_status_9 : decode cX8_status 9 = .ok (.ifCond .eq 12, 3) := by decide +kernel
theorem dX8_status_12 : decode cX8_status 12 = .ok (.aload_n 0, 1) := by decide +kernel
theorem dX8_status_13 : decode cX8_status 13 = .ok (.getfield 20, 3) := by decide +kernel
theorem dX8_status_16 : decode cX8_status 16 = .ok (.iload_n 1, 1) := by decide +kernel
theorem dX8_status_17 : decode cX8_status 17 = .ok (.iaload, 1) := by decide +kernel
theorem dX8_status_18 : decode cX8_status 18 = .ok (.goto 8, 3) := by decide +kernel
theorem dX8_status_21 : decode cX8_status 21 = .ok (.aload_n 0, 1) := by decide +kernel
theorem dX8_status_22 : decode cX8_status 22 = .ok (.iconst (-1), 1) := by decide +kernel
theorem dX8_status_23 : decode cX8_status 23 = .ok (.invokevirtual 75, 3) := by decide +kernel
theorem dX8_status_26 : decode cX8_status 26 = .ok (.ireturn, 1) := by decide +kernel
theorem dX8_counted_0 : decode cX8_counted 0 = .ok (.iconst 0, 1) := by decide +kernel
theorem dX8_counted_1 : decode cX8_counted 1 = .ok (.istore_n 2, 1) := by decide +kernel
theorem dX8_counted_2 : decode cX8_counted 2 = .ok (.iconst 0, 1) := by decide +kernel
theorem dX8_counted_3 : decode cX8_counted 3 = .ok (.istore_n 3, 1) := by decide +kernel
theorem dX8_counted_4 : decode cX8_counted 4 = .ok (.iload_n 3, 1) := by decide +kernel
theorem dX8_counted_5 : decode cX8_counted 5 = .ok (.aload_n 0, 1) := by decide +kernel
theorem dX8_counted_6 : decode cX8_counted 6 = .ok (.invokevirtual 55, 3) := by decide +kernel
theorem dX8_counted_9 : decode cX8_counted 9 = .ok (.if_icmp .ge 21, 3) := by decide +kernel
theorem dX8_counted_12 : decode cX8_counted 12 = .ok (.iload_n 2, 1) := by decide +kernel
theorem dX8_counted_13 : decode cX8_counted 13 = .ok (.aload_n 0, 1) := by decide +kernel
theorem dX8_counted_14 : decode cX8_counted 14 = .ok (.getfield 7, 3) := by decide +kernel
theorem dX8_counted_17 : decode cX8_counted 17 = .ok (.bipush 18, 2) := by decide +kernel
theorem dX8_counted_19 : decode cX8_counted 19 = .ok (.iload_n 3, 1) := by decide +kernel
theorem dX8_counted_20 : decode cX8_counted 20 = .ok (.iadd, 1) := by decide +kernel
theorem dX8_counted_21 : decode cX8_counted 21 = .ok (.iaload, 1) := by decide +kernel
theorem dX8_counted_22 : decode cX8_counted 22 = .ok (.iadd, 1) := by decide +kernel
theorem dX8_counted_23 : decode cX8_counted 23 = .ok (.istore_n 2, 1) := by decide +kernel
theorem dX8_counted_24 : decode cX8_counted 24 = .ok (.iinc 3 1, 3) := by decide +kernel
theorem dX8_counted_27 : decode cX8_counted 27 = .ok (.goto (-23), 3) := by decide +kernel
theorem dX8_counted_30 : decode cX8_counted 30 = .ok (.iload_n 1, 1) := by decide +kernel
theorem dX8_counted_31 : decode cX8_counted 31 = .ok (.tableswitch 88 0 9 #[53, 58, 65, 73, 81, 88, 88, 88, 88, 83], 53) := by decide +kernel
theorem dX8_counted_84 : decode cX8_counted 84 = .ok (.aload_n 0, 1) := by decide +kernel
theorem dX8_counted_85 : decode cX8_counted 85 = .ok (.invokevirtual 55, 3) := by decide +kernel
theorem dX8_counted_88 : decode cX8_counted 88 = .ok (.ireturn, 1) := by decide +kernel
theorem dX8_counted_89 : decode cX8_counted 89 = .ok (.aload_n 0, 1) := by decide +kernel
theorem dX8_counted_90 : decode cX8_counted 90 = .ok (.getfield 7, 3) := by decide +kernel
theorem dX8_counted_93 : decode cX8_counted 93 = .ok (.iconst 1, 1) := by decide +kernel
theorem dX8_counted_94 : decode cX8_counted 94 = .ok (.iaload, 1) := by decide +kernel
theorem dX8_counted_95 : decode cX8_counted 95 = .ok (.ireturn, 1) := by decide +kernel
theorem dX8_counted_96 : decode cX8_counted 96 = .ok (.aload_n 0, 1) := by decide +kernel
theorem dX8_counted_97 : decode cX8_counted 97 = .ok (.getfield 7, 3) := by decide +kernel
theorem dX8_counted_100 : decode cX8_counted 100 = .ok (.bipush 30, 2) := by decide +kernel
theorem dX8_counted_102 : decode cX8_counted 102 = .ok (.iaload, 1) := by decide +kernel
theorem dX8_counted_103 : decode cX8_counted 103 = .ok (.ireturn, 1) := by decide +kernel
theorem dX8_counted_104 : decode cX8_counted 104 = .ok (.aload_n 0, 1) := by decide +kernel
theorem dX8_counted_105 : decode cX8_counted 105 = .ok (.getfield 7, 3) := by decide +kernel
theorem dX8_counted_108 : decode cX8_counted 108 = .ok (.invokestatic 122, 3) := by decide +kernel
theorem dX8_counted_111 : decode cX8_counted 111 = .ok (.ireturn, 1) := by decide +kernel
theorem dX8_counted_112 : decode cX8_counted 112 = .ok (.iload_n 2, 1) := by decide +kernel
theorem dX8_counted_113 : decode cX8_counted 113 = .ok (.ireturn, 1) := by decide +kernel
theorem dX8_counted_114 : decode cX8_counted 114 = .ok (.aload_n 0, 1) := by decide +kernel
theorem dX8_counted_115 : decode cX8_counted 115 = .ok (.getfield 220, 3) := by decide +kernel
theorem dX8_counted_118 : decode cX8_counted 118 = .ok (.ireturn, 1) := by decide +kernel
theorem dX8_counted_119 : decode cX8_counted 119 = .ok (.aload_n 0, 1) := by decide +kernel
theorem dX8_counted_120 : decode cX8_counted 120 = .ok (.getfield 7, 3) := by decide +kernel
theorem dX8_counted_123 : decode cX8_counted 123 = .ok (.iconst 2, 1) := by decide +kernel
theorem dX8_counted_124 : decode cX8_counted 124 = .ok (.iload_n 1, 1) := by decide +kernel
theorem dX8_counted_125 : decode cX8_counted 125 = .ok (.iadd, 1) := by decide +kernel
theorem dX8_counted_126 : decode cX8_counted 126 = .ok (.iconst 5, 1) := by decide +kernel
theorem dX8_counted_127 : decode cX8_counted 127 = .ok (.isub, 1) := by decide +kernel
theorem dX8_counted_128 : decode cX8_counted 128 = .ok (.iaload, 1) := by decide +kernel
theorem dX8_counted_129 : decode cX8_counted 129 = .ok (.ireturn, 1) := by decide +kernel
theorem dX8_count_0 : decode cX8_count 0 = .ok (.iload_n 1, 1) := by decide +kernel
theorem dX8_count_1 : decode cX8_count 1 = .ok (.i2l, 1) := by decide +kernel
theorem dX8_count_2 : decode cX8_count 2 = .ok (.lconst 0, 1) := by decide +kernel
theorem dX8_count_3 : decode cX8_count 3 = .ok (.ldc2_w 65, 3) := by decide +kernel
theorem dX8_count_6 : decode cX8_count 6 = .ok (.invokestatic 59, 3) := by decide +kernel
theorem dX8_count_9 : decode cX8_count 9 = .ok (.ifCond .eq 11, 3) := by decide +kernel
theorem dX8_count_12 : decode cX8_count 12 = .ok (.aload_n 0, 1) := by decide +kernel
theorem dX8_count_13 : decode cX8_count 13 = .ok (.iload_n 1, 1) := by decide +kernel
theorem dX8_count_14 : decode cX8_count 14 = .ok (.invokevirtual 283, 3) := by decide +kernel
theorem dX8_count_17 : decode cX8_count 17 = .ok (.goto 9, 3) := by decide +kernel
theorem dX8_count_20 : decode cX8_count 20 = .ok (.aload_n 0, 1) := by decide +kernel
theorem dX8_count_21 : decode cX8_count 21 = .ok (.bipush (-2), 2) := by decide +kernel
theorem dX8_count_23 : decode cX8_count 23 = .ok (.invokevirtual 75, 3) := by decide +kernel
theorem dX8_count_26 : decode cX8_count 26 = .ok (.ireturn, 1) := by decide +kernel
theorem dX8_sums_0 : decode cX8_sums 0 = .ok (.lload_n 1, 1) := by decide +kernel
theorem dX8_sums_1 : decode cX8_sums 1 = .ok (.lstore 5, 2) := by decide +kernel
theorem dX8_sums_3 : decode cX8_sums 3 = .ok (.iconst 0, 1) := by decide +kernel
theorem dX8_sums_4 : decode cX8_sums 4 = .ok (.istore 7, 2) := by decide +kernel
theorem dX8_sums_6 : decode cX8_sums 6 = .ok (.iload 7, 2) := by decide +kernel
theorem dX8_sums_8 : decode cX8_sums 8 = .ok (.iload 4, 2) := by decide +kernel
theorem dX8_sums_10 : decode cX8_sums 10 = .ok (.if_icmp .ge 28, 3) := by decide +kernel
theorem dX8_sums_13 : decode cX8_sums 13 = .ok (.ldc2_w 286, 3) := by decide +kernel
theorem dX8_sums_16 : decode cX8_sums 16 = .ok (.lload 5, 2) := by decide +kernel
theorem dX8_sums_18 : decode cX8_sums 18 = .ok (.lmul, 1) := by decide +kernel
theorem dX8_sums_19 : decode cX8_sums 19 = .ok (.aload_n 0, 1) := by decide +kernel
theorem dX8_sums_20 : decode cX8_sums 20 = .ok (.getfield 7, 3) := by decide +kernel
theorem dX8_sums_23 : decode cX8_sums 23 = .ok (.iload_n 3, 1) := by decide +kernel
theorem dX8_sums_24 : decode cX8_sums 24 = .ok (.iload 7, 2) := by decide +kernel
theorem dX8_sums_26 : decode cX8_sums 26 = .ok (.iadd, 1) := by decide +kernel
theorem dX8_sums_27 : decode cX8_sums 27 = .ok (.iaload, 1) := by decide +kernel
theorem dX8_sums_28 : decode cX8_sums 28 = .ok (.i2l, 1) := by decide +kernel
theorem dX8_sums_29 : decode cX8_sums 29 = .ok (.ladd, 1) := by decide +kernel
theorem dX8_sums_30 : decode cX8_sums 30 = .ok (.lstore 5, 2) := by decide +kernel
theorem dX8_sums_32 : decode cX8_sums 32 = .ok (.iinc 7 1, 3) := by decide +kernel
theorem dX8_sums_35 : decode cX8_sums 35 = .ok (.goto (-29), 3) := by decide +kernel
theorem dX8_sums_38 : decode cX8_sums 38 = .ok (.lload 5, 2) := by decide +kernel
theorem dX8_sums_40 : decode cX8_sums 40 = .ok (.lreturn, 1) := by decide +kernel
theorem dX8_digest_0 : decode cX8_digest 0 = .ok (.ldc2_w 288, 3) := by decide +kernel
theorem dX8_digest_3 : decode cX8_digest 3 = .ok (.lstore_n 1, 1) := by decide +kernel
theorem dX8_digest_4 : decode cX8_digest 4 = .ok (.iconst 0, 1) := by decide +kernel
theorem dX8_digest_5 : decode cX8_digest 5 = .ok (.istore_n 3, 1) := by decide +kernel
theorem dX8_digest_6 : decode cX8_digest 6 = .ok (.iload_n 3, 1) := by decide +kernel
theorem dX8_digest_7 : decode cX8_digest 7 = .ok (.bipush 10, 2) := by decide +kernel
theorem dX8_digest_9 : decode cX8_digest 9 = .ok (.if_icmp .ge 22, 3) := by decide +kernel
theorem dX8_digest_12 : decode cX8_digest 12 = .ok (.ldc2_w 286, 3) := by decide +kernel
theorem dX8_digest_15 : decode cX8_digest 15 = .ok (.lload_n 1, 1) := by decide +kernel
theorem dX8_digest_16 : decode cX8_digest 16 = .ok (.lmul, 1) := by decide +kernel
theorem dX8_digest_17 : decode cX8_digest 17 = .ok (.aload_n 0, 1) := by decide +kernel
theorem dX8_digest_18 : decode cX8_digest 18 = .ok (.iload_n 3, 1) := by decide +kernel
theorem dX8_digest_19 : decode cX8_digest 19 = .ok (.invokevirtual 283, 3) := by decide +kernel
theorem dX8_digest_22 : decode cX8_digest 22 = .ok (.i2l, 1) := by decide +kernel
theorem dX8_digest_23 : decode cX8_digest 23 = .ok (.ladd, 1) := by decide +kernel
theorem dX8_digest_24 : decode cX8_digest 24 = .ok (.lstore_n 1, 1) := by decide +kernel
theorem dX8_digest_25 : decode cX8_digest 25 = .ok (.iinc 3 1, 3) := by decide +kernel
theorem dX8_digest_28 : decode cX8_digest 28 = .ok (.goto (-22), 3) := by decide +kernel
theorem dX8_digest_31 : decode cX8_digest 31 = .ok (.iconst 0, 1) := by decide +kernel
theorem dX8_digest_32 : decode cX8_digest 32 = .ok (.istore_n 3, 1) := by decide +kernel
theorem dX8_digest_33 : decode cX8_digest 33 = .ok (.iload_n 3, 1) := by decide +kernel
theorem dX8_digest_34 : decode cX8_digest 34 = .ok (.aload_n 0, 1) := by decide +kernel
theorem dX8_digest_35 : decode cX8_digest 35 = .ok (.invokevirtual 55, 3) := by decide +kernel
theorem dX8_digest_38 : decode cX8_digest 38 = .ok (.if_icmp .ge 73, 3) := by decide +kernel
theorem dX8_digest_41 : decode cX8_digest 41 = .ok (.ldc2_w 286, 3) := by decide +kernel
theorem dX8_digest_44 : decode cX8_digest 44 = .ok (.ldc2_w 286, 3) := by decide +kernel
theorem dX8_digest_47 : decode cX8_digest 47 = .ok (.lload_n 1, 1) := by decide +kernel
theorem dX8_digest_48 : decode cX8_digest 48 = .ok (.lmul, 1) := by decide +kernel
theorem dX8_digest_49 : decode cX8_digest 49 = .ok (.aload_n 0, 1) := by decide +kernel
theorem dX8_digest_50 : decode cX8_digest 50 = .ok (.getfield 7, 3) := by decide +kernel
theorem dX8_digest_53 : decode cX8_digest 53 = .ok (.bipush 31, 2) := by decide +kernel
theorem dX8_digest_55 : decode cX8_digest 55 = .ok (.iload_n 3, 1) := by decide +kernel
theorem dX8_digest_56 : decode cX8_digest 56 = .ok (.iadd, 1) := by decide +kernel
theorem dX8_digest_57 : decode cX8_digest 57 = .ok (.iaload, 1) := by decide +kernel
theorem dX8_digest_58 : decode cX8_digest 58 = .ok (.i2l, 1) := by decide +kernel
theorem dX8_digest_59 : decode cX8_digest 59 = .ok (.ladd, 1) := by decide +kernel
theorem dX8_digest_60 : decode cX8_digest 60 = .ok (.lmul, 1) := by decide +kernel
theorem dX8_digest_61 : decode cX8_digest 61 = .ok (.aload_n 0, 1) := by decide +kernel
theorem dX8_digest_62 : decode cX8_digest 62 = .ok (.getfield 7, 3) := by decide +kernel
theorem dX8_digest_65 : decode cX8_digest 65 = .ok (.bipush 6, 2) := by decide +kernel
theorem dX8_digest_67 : decode cX8_digest 67 = .ok (.iload_n 3, 1) := by decide +kernel
theorem dX8_digest_68 : decode cX8_digest 68 = .ok (.iadd, 1) := by decide +kernel
theorem dX8_digest_69 : decode cX8_digest 69 = .ok (.iaload, 1) := by decide +kernel
theorem dX8_digest_70 : decode cX8_digest 70 = .ok (.i2l, 1) := by decide +kernel
theorem dX8_digest_71 : decode cX8_digest 71 = .ok (.ladd, 1) := by decide +kernel
theorem dX8_digest_72 : decode cX8_digest 72 = .ok (.lstore_n 1, 1) := by decide +kernel
theorem dX8_digest_73 : decode cX8_digest 73 = .ok (.ldc2_w 286, 3) := by decide +kernel
theorem dX8_digest_76 : decode cX8_digest 76 = .ok (.ldc2_w 286, 3) := by decide +kernel
theorem dX8_digest_79 : decode cX8_digest 79 = .ok (.lload_n 1, 1) := by decide +kernel
theorem dX8_digest_80 : decode cX8_digest 80 = .ok (.lmul, 1) := by decide +kernel
theorem dX8_digest_81 : decode cX8_digest 81 = .ok (.aload_n 0, 1) := by decide +kernel
theorem dX8_digest_82 : decode cX8_digest 82 = .ok (.getfield 7, 3) := by decide +kernel
theorem dX8_digest_85 : decode cX8_digest 85 = .ok (.bipush 12, 2) := by decide +kernel
theorem dX8_digest_87 : decode cX8_digest 87 = .ok (.iload_n 3, 1) := by decide +kernel
theorem dX8_digest_88 : decode cX8_digest 88 = .ok (.iadd, 1) := by decide +kernel
theorem dX8_digest_89 : decode cX8_digest 89 = .ok (.iaload, 1) := by decide +kernel
theorem dX8_digest_90 : decode cX8_digest 90 = .ok (.i2l, 1) := by decide +kernel
theorem dX8_digest_91 : decode cX8_digest 91 = .ok (.ladd, 1) := by decide +kernel
theorem dX8_digest_92 : decode cX8_digest 92 = .ok (.lmul, 1) := by decide +kernel
theorem dX8_digest_93 : decode cX8_digest 93 = .ok (.aload_n 0, 1) := by decide +kernel
theorem dX8_digest_94 : decode cX8_digest 94 = .ok (.getfield 7, 3) := by decide +kernel
theorem dX8_digest_97 : decode cX8_digest 97 = .ok (.bipush 18, 2) := by decide +kernel
theorem dX8_digest_99 : decode cX8_digest 99 = .ok (.iload_n 3, 1) := by decide +kernel
theorem dX8_digest_100 : decode cX8_digest 100 = .ok (.iadd, 1) := by decide +kernel
theorem dX8_digest_101 : decode cX8_digest 101 = .ok (.iaload, 1) := by decide +kernel
theorem dX8_digest_102 : decode cX8_digest 102 = .ok (.i2l, 1) := by decide +kernel
theorem dX8_digest_103 : decode cX8_digest 103 = .ok (.ladd, 1) := by decide +kernel
theorem dX8_digest_104 : decode cX8_digest 104 = .ok (.lstore_n 1, 1) := by decide +kernel
theorem dX8_digest_105 : decode cX8_digest 105 = .ok (.iinc 3 1, 3) := by decide +kernel
theorem dX8_digest_108 : decode cX8_digest 108 = .ok (.goto (-75), 3) := by decide +kernel
theorem dX8_digest_111 : decode cX8_digest 111 = .ok (.iconst 0, 1) := by decide +kernel
theorem dX8_digest_112 : decode cX8_digest 112 = .ok (.istore_n 3, 1) := by decide +kernel
theorem dX8_digest_113 : decode cX8_digest 113 = .ok (.iload_n 3, 1) := by decide +kernel
theorem dX8_digest_114 : decode cX8_digest 114 = .ok (.aload_n 0, 1) := by decide +kernel
theorem dX8_digest_115 : decode cX8_digest 115 = .ok (.getfield 7, 3) := by decide +kernel
theorem dX8_digest_118 : decode cX8_digest 118 = .ok (.iconst 1, 1) := by decide +kernel
theorem dX8_digest_119 : decode cX8_digest 119 = .ok (.iaload, 1) := by decide +kernel
theorem dX8_digest_120 : decode cX8_digest 120 = .ok (.if_icmp .ge 56, 3) := by decide +kernel
theorem dX8_digest_123 : decode cX8_digest 123 = .ok (.ldc2_w 286, 3) := by decide +kernel
theorem dX8_digest_126 : decode cX8_digest 126 = .ok (.ldc2_w 286, 3) := by decide +kernel
theorem dX8_digest_129 : decode cX8_digest 129 = .ok (.ldc2_w 286, 3) := by decide +kernel
theorem dX8_digest_132 : decode cX8_digest 132 = .ok (.lload_n 1, 1) := by decide +kernel
theorem dX8_digest_133 : decode cX8_digest 133 = .ok (.lmul, 1) := by decide +kernel
theorem dX8_digest_134 : decode cX8_digest 134 = .ok (.aload_n 0, 1) := by decide +kernel
theorem dX8_digest_135 : decode cX8_digest 135 = .ok (.getfield 7, 3) := by decide +kernel
theorem dX8_digest_138 : decode cX8_digest 138 = .ok (.bipush 37, 2) := by decide +kernel
theorem dX8_digest_140 : decode cX8_digest 140 = .ok (.iload_n 3, 1) := by decide +kernel
theorem dX8_digest_141 : decode cX8_digest 141 = .ok (.iadd, 1) := by decide +kernel
theorem dX8_digest_142 : decode cX8_digest 142 = .ok (.iaload, 1) := by decide +kernel
theorem dX8_digest_143 : decode cX8_digest 143 = .ok (.i2l, 1) := by decide +kernel
theorem dX8_digest_144 : decode cX8_digest 144 = .ok (.ladd, 1) := by decide +kernel
theorem dX8_digest_145 : decode cX8_digest 145 = .ok (.lmul, 1) := by decide +kernel
theorem dX8_digest_146 : decode cX8_digest 146 = .ok (.aload_n 0, 1) := by decide +kernel
theorem dX8_digest_147 : decode cX8_digest 147 = .ok (.getfield 7, 3) := by decide +kernel
theorem dX8_digest_150 : decode cX8_digest 150 = .ok (.bipush 43, 2) := by decide +kernel
theorem dX8_digest_152 : decode cX8_digest 152 = .ok (.iload_n 3, 1) := by decide +kernel
theorem dX8_digest_153 : decode cX8_digest 153 = .ok (.iadd, 1) := by decide +kernel
theorem dX8_digest_154 : decode cX8_digest 154 = .ok (.iaload, 1) := by decide +kernel
theorem dX8_digest_155 : decode cX8_digest 155 = .ok (.i2l, 1) := by decide +kernel
theorem dX8_digest_156 : decode cX8_digest 156 = .ok (.ladd, 1) := by decide +kernel
theorem dX8_digest_157 : decode cX8_digest 157 = .ok (.lmul, 1) := by decide +kernel
theorem dX8_digest_158 : decode cX8_digest 158 = .ok (.aload_n 0, 1) := by decide +kernel
theorem dX8_digest_159 : decode cX8_digest 159 = .ok (.getfield 7, 3) := by decide +kernel
theorem dX8_digest_162 : decode cX8_digest 162 = .ok (.bipush 24, 2) := by decide +kernel
theorem dX8_digest_164 : decode cX8_digest 164 = .ok (.iload_n 3, 1) := by decide +kernel
theorem dX8_digest_165 : decode cX8_digest 165 = .ok (.iadd, 1) := by decide +kernel
theorem dX8_digest_166 : decode cX8_digest 166 = .ok (.iaload, 1) := by decide +kernel
theorem dX8_digest_167 : decode cX8_digest 167 = .ok (.i2l, 1) := by decide +kernel
theorem dX8_digest_168 : decode cX8_digest 168 = .ok (.ladd, 1) := by decide +kernel
theorem dX8_digest_169 : decode cX8_digest 169 = .ok (.lstore_n 1, 1) := by decide +kernel
theorem dX8_digest_170 : decode cX8_digest 170 = .ok (.iinc 3 1, 3) := by decide +kernel
theorem dX8_digest_173 : decode cX8_digest 173 = .ok (.goto (-60), 3) := by decide +kernel
theorem dX8_digest_176 : decode cX8_digest 176 = .ok (.aload_n 0, 1) := by decide +kernel
theorem dX8_digest_177 : decode cX8_digest 177 = .ok (.lload_n 1, 1) := by decide +kernel
theorem dX8_digest_178 : decode cX8_digest 178 = .ok (.bipush 49, 2) := by decide +kernel
theorem dX8_digest_180 : decode cX8_digest 180 = .ok (.iconst 3, 1) := by decide +kernel
theorem dX8_digest_181 : decode cX8_digest 181 = .ok (.aload_n 0, 1) := by decide +kernel
theorem dX8_digest_182 : decode cX8_digest 182 = .ok (.getfield 7, 3) := by decide +kernel
theorem dX8_digest_185 : decode cX8_digest 185 = .ok (.iconst 2, 1) := by decide +kernel
theorem dX8_digest_186 : decode cX8_digest 186 = .ok (.iaload, 1) := by decide +kernel
theorem dX8_digest_187 : decode cX8_digest 187 = .ok (.imul, 1) := by decide +kernel
theorem dX8_digest_188 : decode cX8_digest 188 = .ok (.invokevirtual 290, 3) := by decide +kernel
theorem dX8_digest_191 : decode cX8_digest 191 = .ok (.lstore_n 1, 1) := by decide +kernel
theorem dX8_digest_192 : decode cX8_digest 192 = .ok (.aload_n 0, 1) := by decide +kernel
theorem dX8_digest_193 : decode cX8_digest 193 = .ok (.lload_n 1, 1) := by decide +kernel
theorem dX8_digest_194 : decode cX8_digest 194 = .ok (.bipush 64, 2) := by decide +kernel
theorem dX8_digest_196 : decode cX8_digest 196 = .ok (.iconst 4, 1) := by decide +kernel
theorem dX8_digest_197 : decode cX8_digest 197 = .ok (.aload_n 0, 1) := by decide +kernel
theorem dX8_digest_198 : decode cX8_digest 198 = .ok (.getfield 7, 3) := by decide +kernel
theorem dX8_digest_201 : decode cX8_digest 201 = .ok (.iconst 3, 1) := by decide +kernel
theorem dX8_digest_202 : decode cX8_digest 202 = .ok (.iaload, 1) := by decide +kernel
theorem dX8_digest_203 : decode cX8_digest 203 = .ok (.imul, 1) := by decide +kernel
theorem dX8_digest_204 : decode cX8_digest 204 = .ok (.invokevirtual 290, 3) := by decide +kernel
theorem dX8_digest_207 : decode cX8_digest 207 = .ok (.lstore_n 1, 1) := by decide +kernel
theorem dX8_digest_208 : decode cX8_digest 208 = .ok (.aload_n 0, 1) := by decide +kernel
theorem dX8_digest_209 : decode cX8_digest 209 = .ok (.lload_n 1, 1) := by decide +kernel
theorem dX8_digest_210 : decode cX8_digest 210 = .ok (.bipush 88, 2) := by decide +kernel
theorem dX8_digest_212 : decode cX8_digest 212 = .ok (.iconst 4, 1) := by decide +kernel
theorem dX8_digest_213 : decode cX8_digest 213 = .ok (.aload_n 0, 1) := by decide +kernel
theorem dX8_digest_214 : decode cX8_digest 214 = .ok (.getfield 7, 3) := by decide +kernel
theorem dX8_digest_217 : decode cX8_digest 217 = .ok (.iconst 4, 1) := by decide +kernel
theorem dX8_digest_218 : decode cX8_digest 218 = .ok (.iaload, 1) := by decide +kernel
theorem dX8_digest_219 : decode cX8_digest 219 = .ok (.imul, 1) := by decide +kernel
theorem dX8_digest_220 : decode cX8_digest 220 = .ok (.invokevirtual 290, 3) := by decide +kernel
theorem dX8_digest_223 : decode cX8_digest 223 = .ok (.lstore_n 1, 1) := by decide +kernel
theorem dX8_digest_224 : decode cX8_digest 224 = .ok (.ldc2_w 286, 3) := by decide +kernel
theorem dX8_digest_227 : decode cX8_digest 227 = .ok (.ldc2_w 286, 3) := by decide +kernel
theorem dX8_digest_230 : decode cX8_digest 230 = .ok (.lload_n 1, 1) := by decide +kernel
theorem dX8_digest_231 : decode cX8_digest 231 = .ok (.lmul, 1) := by decide +kernel
theorem dX8_digest_232 : decode cX8_digest 232 = .ok (.aload_n 0, 1) := by decide +kernel
theorem dX8_digest_233 : decode cX8_digest 233 = .ok (.getfield 195, 3) := by decide +kernel
theorem dX8_digest_236 : decode cX8_digest 236 = .ok (.ladd, 1) := by decide +kernel
theorem dX8_digest_237 : decode cX8_digest 237 = .ok (.lmul, 1) := by decide +kernel
theorem dX8_digest_238 : decode cX8_digest 238 = .ok (.aload_n 0, 1) := by decide +kernel
theorem dX8_digest_239 : decode cX8_digest 239 = .ok (.getfield 23, 3) := by decide +kernel
theorem dX8_digest_242 : decode cX8_digest 242 = .ok (.ladd, 1) := by decide +kernel
theorem dX8_digest_243 : decode cX8_digest 243 = .ok (.lreturn, 1) := by decide +kernel
