theorem dX0_init_0 : decode cX0_init 0 = .ok (.aload_n 0, 1) := by decide +kernel
theorem dX0_init_1 : decode cX0_init 1 = .ok (.invokespecial 3, 3) := by decide +kernel
theorem dX0_init_4 : decode cX0_init 4 = .ok (.aload_n 0, 1) := by decide +kernel
theorem dX0_init_5 : decode cX0_init 5 = .ok (.aload_n 1, 1) := by decide +kernel
theorem dX0_init_6 : decode cX0_init 6 = .ok (.putfield 9, 3) := by decide +kernel
theorem dX0_init_9 : decode cX0_init 9 = .ok (.aload_n 0, 1) := by decide +kernel
theorem dX0_init_10 : decode cX0_init 10 = .ok (.bipush 64, 2) := by decide +kernel
theorem dX0_init_12 : decode cX0_init 12 = .ok (.newarray .int, 2) := by decide +kernel
theorem dX0_init_14 : decode cX0_init 14 = .ok (.putfield 15, 3) := by decide +kernel
theorem dX0_init_17 : decode cX0_init 17 = .ok (.aload_n 0, 1) := by decide +kernel
theorem dX0_init_18 : decode cX0_init 18 = .ok (.bipush 6, 2) := by decide +kernel
theorem dX0_init_20 : decode cX0_init 20 = .ok (.newarray .int, 2) := by decide +kernel
theorem dX0_init_22 : decode cX0_init 22 = .ok (.putfield 19, 3) := by decide +kernel
theorem dX0_init_25 : decode cX0_init 25 = .ok (.aload_n 0, 1) := by decide +kernel
theorem dX0_init_26 : decode cX0_init 26 = .ok (.new 22, 3) := by decide +kernel
theorem dX0_init_29 : decode cX0_init 29 = .ok (.dup, 1) := by decide +kernel
theorem dX0_init_30 : decode cX0_init 30 = .ok (.invokespecial 24, 3) := by decide +kernel
theorem dX0_init_33 : decode cX0_init 33 = .ok (.putfield 25, 3) := by decide +kernel
theorem dX0_init_36 : decode cX0_init 36 = .ok (.return_, 1) := by decide +kernel
theorem dX0_findSets_0 : decode cX0_findSets 0 = .ok (.iconst 0, 1) := by decide +kernel
theorem dX0_findSets_1 : decode cX0_findSets 1 = .ok (.istore_n 2, 1) := by decide +kernel
theorem dX0_findSets_2 : decode cX0_findSets 2 = .ok (.iload_n 2, 1) := by decide +kernel
theorem dX0_findSets_3 : decode cX0_findSets 3 = .ok (.bipush 64, 2) := by decide +kernel
theorem dX0_findSets_5 : decode cX0_findSets 5 = .ok (.if_icmp .ge 38, 3) := by decide +kernel
theorem dX0_findSets_8 : decode cX0_findSets 8 = .ok (.aload_n 0, 1) := by decide +kernel
theorem dX0_findSets_9 : decode cX0_findSets 9 = .ok (.getfield 15, 3) := by decide +kernel
theorem dX0_findSets_12 : decode cX0_findSets 12 = .ok (.iload_n 2, 1) := by decide +kernel
theorem dX0_findSets_13 : decode cX0_findSets 13 = .ok (.iload_n 2, 1) := by decide +kernel
theorem dX0_findSets_14 : decode cX0_findSets 14 = .ok (.iconst 1, 1) := by decide +kernel
theorem dX0_findSets_15 : decode cX0_findSets 15 = .ok (.aload_n 0, 1) := by decide +kernel
theorem dX0_findSets_16 : decode cX0_findSets 16 = .ok (.getfield 9, 3) := by decide +kernel
theorem dX0_findSets_19 : decode cX0_findSets 19 = .ok (.getfield 29, 3) := by decide +kernel
theorem dX0_findSets_22 : decode cX0_findSets 22 = .ok (.invokevirtual 35, 3) := by decide +kernel
theorem dX0_findSets_25 : decode cX0_findSets 25 = .ok (.ishl, 1) := by decide +kernel
theorem dX0_findSets_26 : decode cX0_findSets 26 = .ok (.if_icmp .ge 7, 3) := by decide +kernel
theorem dX0_findSets_29 : decode cX0_findSets 29 = .ok (.iconst 1, 1) := by decide +kernel
theorem dX0_findSets_30 : decode cX0_findSets 30 = .ok (.goto 4, 3) := by decide +kernel
theorem dX0_findSets_33 : decode cX0_findSets 33 = .ok (.iconst 0, 1) := by decide +kernel
theorem dX0_findSets_34 : decode cX0_findSets 34 = .ok (.invokestatic 41, 3) := by decide +kernel
theorem dX0_findSets_37 : decode cX0_findSets 37 = .ok (.iinc 2 1, 3) := by decide +kernel
theorem dX0_findSets_40 : decode cX0_findSets 40 = .ok (.goto (-38), 3) := by decide +kernel
theorem dX0_findSets_43 : decode cX0_findSets 43 = .ok (.iconst 0, 1) := by decide +kernel
theorem dX0_findSets_44 : decode cX0_findSets 44 = .ok (.istore_n 2, 1) := by decide +kernel
theorem dX0_findSets_45 : decode cX0_findSets 45 = .ok (.iload_n 2, 1) := by decide +kernel
theorem dX0_findSets_46 : decode cX0_findSets 46 = .ok (.aload_n 0, 1) := by decide +kernel
theorem dX0_findSets_47 : decode cX0_findSets 47 = .ok (.getfield 9, 3) := by decide +kernel
theorem dX0_findSets_50 : decode cX0_findSets 50 = .ok (.getfield 45, 3) := by decide +kernel
theorem dX0_findSets_53 : decode cX0_findSets 53 = .ok (.invokevirtual 35, 3) := by decide +kernel
theorem dX0_findSets_56 : decode cX0_findSets 56 = .ok (.if_icmp .ge 54, 3) := by decide +kernel
theorem dX0_findSets_59 : decode cX0_findSets 59 = .ok (.aload_n 0, 1) := by decide +kernel
theorem dX0_findSets_60 : decode cX0_findSets 60 = .ok (.getfield 9, 3) := by decide +kernel
theorem dX0_findSets_63 : decode cX0_findSets 63 = .ok (.getfield 45, 3) := by decide +kernel
theorem dX0_findSets_66 : decode cX0_findSets 66 = .ok (.iload_n 2, 1) := by decide +kernel
theorem dX0_findSets_67 : decode cX0_findSets 67 = .ok (.iconst 0, 1) := by decide +kernel
theorem dX0_findSets_68 : decode cX0_findSets 68 = .ok (.invokevirtual 48, 3) := by decide +kernel
theorem dX0_findSets_71 : decode cX0_findSets 71 = .ok (.iload_n 1, 1) := by decide +kernel
theorem dX0_findSets_72 : decode cX0_findSets 72 = .ok (.if_icmp .ne 32, 3) := by decide +kernel
theorem dX0_findSets_75 : decode cX0_findSets 75 = .ok (.aload_n 0, 1) := by decide +kernel
theorem dX0_findSets_76 : decode cX0_findSets 76 = .ok (.iload_n 1, 1) := by decide +kernel
theorem dX0_findSets_77 : decode cX0_findSets 77 = .ok (.aload_n 0, 1) := by decide +kernel
theorem dX0_findSets_78 : decode cX0_findSets 78 = .ok (.getfield 9, 3) := by decide +kernel
theorem dX0_findSets_81 : decode cX0_findSets 81 = .ok (.getfield 45, 3) := by decide +kernel
theorem dX0_findSets_84 : decode cX0_findSets 84 = .ok (.iload_n 2, 1) := by decide +kernel
theorem dX0_findSets_85 : decode cX0_findSets 85 = .ok (.iconst 1, 1) := by decide +kernel
theorem dX0_findSets_86 : decode cX0_findSets 86 = .ok (.invokevirtual 48, 3) := by decide +kernel
theorem dX0_findSets_89 : decode cX0_findSets 89 = .ok (.aload_n 0, 1) := by decide +kernel
theorem dX0_findSets_90 : decode cX0_findSets 90 = .ok (.getfield 9, 3) := by decide +kernel
theorem dX0_findSets_93 : decode cX0_findSets 93 = .ok (.getfield 45, 3) := by decide +kernel
theorem dX0_findSets_96 : decode cX0_findSets 96 = .ok (.iload_n 2, 1) := by decide +kernel
theorem dX0_findSets_97 : decode cX0_findSets 97 = .ok (.iconst 2, 1) := by decide +kernel
theorem dX0_findSets_98 : decode cX0_findSets 98 = .ok (.invokevirtual 48, 3) := by decide +kernel
theorem dX0_findSets_101 : decode cX0_findSets 101 = .ok (.invokevirtual 52, 3) := by decide +kernel
theorem dX0_findSets_104 : decode cX0_findSets 104 = .ok (.iinc 2 1, 3) := by decide +kernel
theorem dX0_findSets_107 : decode cX0_findSets 107 = .ok (.goto (-62), 3) := by decide +kernel
theorem dX0_findSets_110 : decode cX0_findSets 110 = .ok (.return_, 1) := by decide +kernel
theorem dX0_dropUnlike_0 : decode cX0_dropUnlike 0 = .ok (.aload_n 0, 1) := by decide +kernel
theorem dX0_dropUnlike_1 : decode cX0_dropUnlike 1 = .ok (.iload_n 1, 1) := by decide +kernel
theorem dX0_dropUnlike_2 : decode cX0_dropUnlike 2 = .ok (.iload_n 2, 1) := by decide +kernel
theorem dX0_dropUnlike_3 : decode cX0_dropUnlike 3 = .ok (.invokevirtual 56, 3) := by decide +kernel
theorem dX0_dropUnlike_6 : decode cX0_dropUnlike 6 = .ok (.iconst 0, 1) := by decide +kernel
theorem dX0_dropUnlike_7 : decode cX0_dropUnlike 7 = .ok (.istore 4, 2) := by decide +kernel
theorem dX0_dropUnlike_9 : decode cX0_dropUnlike 9 = .ok (.iload 4, 2) := by decide +kernel
theorem dX0_dropUnlike_11 : decode cX0_dropUnlike 11 = .ok (.bipush 64, 2) := by decide +kernel
theorem dX0_dropUnlike_13 : decode cX0_dropUnlike 13 = .ok (.if_icmp .ge 29, 3) := by decide +kernel
theorem dX0_dropUnlike_16 : decode cX0_dropUnlike 16 = .ok (.aload_n 0, 1) := by decide +kernel
theorem dX0_dropUnlike_17 : decode cX0_dropUnlike 17 = .ok (.iload 4, 2) := by decide +kernel
theorem dX0_dropUnlike_19 : decode cX0_dropUnlike 19 = .ok (.invokevirtual 60, 3) := by decide +kernel
theorem dX0_dropUnlike_22 : decode cX0_dropUnlike 22 = .ok (.iload_n 3, 1) := by decide +kernel
theorem dX0_dropUnlike_23 : decode cX0_dropUnlike 23 = .ok (.if_icmp .eq 13, 3) := by decide +kernel
theorem dX0_dropUnlike_26 : decode cX0_dropUnlike 26 = .ok (.aload_n 0, 1) := by decide +kernel
theorem dX0_dropUnlike_27 : decode cX0_dropUnlike 27 = .ok (.getfield 15, 3) := by decide +kernel
theorem dX0_dropUnlike_30 : decode cX0_dropUnlike 30 = .ok (.iload 4, 2) := by decide +kernel
theorem dX0_dropUnlike_32 : decode cX0_dropUnlike 32 = .ok (.iconst 0, 1) := by decide +kernel
theorem dX0_dropUnlike_33 : decode cX0_dropUnlike 33 = .ok (.invokestatic 41, 3) := by decide +kernel
theorem dX0_dropUnlike_36 : decode cX0_dropUnlike 36 = .ok (.iinc 4 1, 3) := by decide +kernel
theorem dX0_dropUnlike_39 : decode cX0_dropUnlike 39 = .ok (.goto (-30), 3) := by decide +kernel
theorem dX0_dropUnlike_42 : decode cX0_dropUnlike 42 = .ok (.return_, 1) := by decide +kernel
theorem dX0_fillBelieved_0 : decode cX0_fillBelieved 0 = .ok (.iconst 0, 1) := by decide +kernel
theorem dX0_fillBelieved_1 : decode cX0_fillBelieved 1 = .ok (.istore_n 3, 1) := by decide +kernel
theorem dX0_fillBelieved_2 : decode cX0_fillBelieved 2 = .ok (.iload_n 3, 1) := by decide +kernel
theorem dX0_fillBelieved_3 : decode cX0_fillBelieved 3 = .ok (.aload_n 0, 1) := by decide +kernel
theorem dX0_fillBelieved_4 : decode cX0_fillBelieved 4 = .ok (.getfield 9, 3) := by decide +kernel
theorem dX0_fillBelieved_7 : decode cX0_fillBelieved 7 = .ok (.getfield 29, 3) := by decide +kernel
theorem dX0_fillBelieved_10 : decode cX0_fillBelieved 10 = .ok (.invokevirtual 35, 3) := by decide +kernel
theorem dX0_fillBelieved_13 : decode cX0_fillBelieved 13 = .ok (.if_icmp .ge 27, 3) := by decide +kernel
theorem dX0_fillBelieved_16 : decode cX0_fillBelieved 16 = .ok (.aload_n 0, 1) := by decide +kernel
theorem dX0_fillBelieved_17 : decode cX0_fillBelieved 17 = .ok (.getfield 19, 3) := by decide +kernel
theorem dX0_fillBelieved_20 : decode cX0_fillBelieved 20 = .ok (.iload_n 3, 1) := by decide +kernel
theorem dX0_fillBelieved_21 : decode cX0_fillBelieved 21 = .ok (.aload_n 0, 1) := by decide +kernel
theorem dX0_fillBelieved_22 : decode cX0_fillBelieved 22 = .ok (.getfield 9, 3) := by decide +kernel
theorem dX0_fillBelieved_25 : decode cX0_fillBelieved 25 = .ok (.iload_n 1, 1) := by decide +kernel
theorem dX0_fillBelieved_26 : decode cX0_fillBelieved 26 = .ok (.iload_n 3, 1) := by decide +kernel
theorem dX0_fillBelieved_27 : decode cX0_fillBelieved 27 = .ok (.iload_n 2, 1) := by decide +kernel
theorem dX0_fillBelieved_28 : decode cX0_fillBelieved 28 = .ok (.invokevirtual 64, 3) := by decide +kernel
theorem dX0_fillBelieved_31 : decode cX0_fillBelieved 31 = .ok (.invokestatic 41, 3) := by decide +kernel
theorem dX0_fillBelieved_34 : decode cX0_fillBelieved 34 = .ok (.iinc 3 1, 3) := by decide +kernel
theorem dX0_fillBelieved_37 : decode cX0_fillBelieved 37 = .ok (.goto (-35), 3) := by decide +kernel
theorem dX0_fillBelieved_40 : decode cX0_fillBelieved 40 = .ok (.return_, 1) := by decide +kernel
theorem dX0_believedOfSet_0 : decode cX0_believedOfSet 0 = .ok (.iconst 0, 1) := by decide +kernel
theorem dX0_believedOfSet_1 : decode cX0_believedOfSet 1 = .ok (.istore_n 2, 1) := by decide +kernel
theorem dX0_believedOfSet_2 : decode cX0_believedOfSet 2 = .ok (.iconst 0, 1) := by decide +kernel
theorem dX0_believedOfSet_3 : decode cX0_believedOfSet 3 = .ok (.istore_n 3, 1) := by decide +kernel
theorem dX0_believedOfSet_4 : decode cX0_believedOfSet 4 = .ok (.iload_n 3, 1) := by decide +kernel
theorem dX0_believedOfSet_5 : decode cX0_believedOfSet 5 = .ok (.aload_n 0, 1) := by decide +kernel
theorem dX0_believedOfSet_6 : decode cX0_believedOfSet 6 = .ok (.getfield 9, 3) := by decide +kernel
theorem dX0_believedOfSet_9 : decode cX0_believedOfSet 9 = .ok (.getfield 29, 3) := by decide +kernel
theorem dX0_believedOfSet_12 : decode cX0_believedOfSet 12 = .ok (.invokevirtual 35, 3) := by decide +kernel
theorem dX0_believedOfSet_15 : decode cX0_believedOfSet 15 = .ok (.if_icmp .ge 28, 3) := by decide +kernel
theorem dX0_believedOfSet_18 : decode cX0_believedOfSet 18 = .ok (.iload_n 1, 1) := by decide +kernel
theorem dX0_believedOfSet_19 : decode cX0_believedOfSet 19 = .ok (.iload_n 3, 1) := by decide +kernel
theorem dX0_believedOfSet_20 : decode cX0_believedOfSet 20 = .ok (.invokestatic 68, 3) := by decide +kernel
theorem dX0_believedOfSet_23 : decode cX0_believedOfSet 23 = .ok (.ifCond .eq 14, 3) := by decide +kernel
theorem dX0_believedOfSet_26 : decode cX0_believedOfSet 26 = .ok (.iload_n 2, 1) := by decide +kernel
theorem dX0_believedOfSet_27 : decode cX0_believedOfSet 27 = .ok (.aload_n 0, 1) := by decide +kernel
theorem dX0_believedOfSet_28 : decode cX0_believedOfSet 28 = .ok (.getfield 19, 3) := by decide +kernel
theorem dX0_believedOfSet_31 : decode cX0_believedOfSet 31 = .ok (.iload_n 3, 1) := by decide +kernel
theorem dX0_believedOfSet_32 : decode cX0_believedOfSet 32 = .ok (.invokestatic 72, 3) := by decide +kernel
theorem dX0_believedOfSet_35 : decode cX0_believedOfSet 35 = .ok (.iadd, 1) := by decide +kernel
theorem dX0_believedOfSet_36 : decode cX0_believedOfSet 36 = .ok (.istore_n 2, 1) := by decide +kernel
theorem dX0_believedOfSet_37 : decode cX0_believedOfSet 37 = .ok (.iinc 3 1, 3) := by decide +kernel
theorem dX0_believedOfSet_40 : decode cX0_believedOfSet 40 = .ok (.goto (-36), 3) := by decide +kernel
theorem dX0_believedOfSet_43 : decode cX0_believedOfSet 43 = .ok (.iload_n 2, 1) := by decide +kernel
theorem dX0_believedOfSet_44 : decode cX0_believedOfSet 44 = .ok (.ireturn, 1) := by decide +kernel
theorem dX0_fitting_0 : decode cX0_fitting 0 = .ok (.aload_n 0, 1) := by decide +kernel
theorem dX0_fitting_1 : decode cX0_fitting 1 = .ok (.getfield 15, 3) := by decide +kernel
theorem dX0_fitting_4 : decode cX0_fitting 4 = .ok (.iload_n 1, 1) := by decide +kernel
theorem dX0_fitting_5 : decode cX0_fitting 5 = .ok (.invokestatic 72, 3) := by decide +kernel
theorem dX0_fitting_8 : decode cX0_fitting 8 = .ok (.iconst 1, 1) := by decide +kernel
theorem dX0_fitting_9 : decode cX0_fitting 9 = .ok (.if_icmp .ne 7, 3) := by decide +kernel
theorem dX0_fitting_12 : decode cX0_fitting 12 = .ok (.iconst 1, 1) := by decide +kernel
theorem dX0_fitting_13 : decode cX0_fitting 13 = .ok (.goto 4, 3) := by decide +kernel
theorem dX0_fitting_16 : decode cX0_fitting 16 = .ok (.iconst 0, 1) := by decide +kernel
theorem dX0_fitting_17 : decode cX0_fitting 17 = .ok (.ireturn, 1) := by decide +kernel
theorem dX0_howManySets_0 : decode cX0_howManySets 0 = .ok (.iconst 0, 1) := by decide +kernel
theorem dX0_howManySets_1 : decode cX0_howManySets 1 = .ok (.istore_n 1, 1) := by decide +kernel
theorem dX0_howManySets_2 : decode cX0_howManySets 2 = .ok (.iconst 0, 1) := by decide +kernel
theorem dX0_howManySets_3 : decode cX0_howManySets 3 = .ok (.istore_n 2, 1) := by decide +kernel
theorem dX0_howManySets_4 : decode cX0_howManySets 4 = .ok (.iload_n 2, 1) := by decide +kernel
theorem dX0_howManySets_5 : decode cX0_howManySets 5 = .ok (.bipush 64, 2) := by decide +kernel
theorem dX0_howManySets_7 : decode cX0_howManySets 7 = .ok (.if_icmp .ge 20, 3) := by decide +kernel
theorem dX0_howManySets_10 : decode cX0_howManySets 10 = .ok (.iload_n 1, 1) := by decide +kernel
theorem dX0_howManySets_11 : decode cX0_howManySets 11 = .ok (.aload_n 0, 1) := by decide +kernel
theorem dX0_howManySets_12 : decode cX0_howManySets 12 = .ok (.getfield 15, 3) := by decide +kernel
theorem dX0_howManySets_15 : decode cX0_howManySets 15 = .ok (.iload_n 2, 1) := by decide +kernel
theorem dX0_howManySets_16 : decode cX0_howManySets 16 = .ok (.invokestatic 72, 3) := by decide +kernel
theorem dX0_howManySets_19 : decode cX0_howManySets 19 = .ok (.iadd, 1) := by decide +kernel
theorem dX0_howManySets_20 : decode cX0_howManySets 20 = .ok (.istore_n 1, 1) := by decide +kernel
theorem dX0_howManySets_21 : decode cX0_howManySets 21 = .ok (.iinc 2 1, 3) := by decide +kernel
theorem dX0_howManySets_24 : decode cX0_howManySets 24 = .ok (.goto (-20), 3) := by decide +kernel
theorem dX0_howManySets_27 : decode cX0_howManySets 27 = .ok (.iload_n 1, 1) := by decide +kernel
theorem dX0_howManySets_28 : decode cX0_howManySets 28 = .ok (.ireturn, 1) := by decide +kernel
theorem dX0_inAllSets_0 : decode cX0_inAllSets 0 = .ok (.aload_n 0, 1) := by decide +kernel
theorem dX0_inAllSets_1 : decode cX0_inAllSets 1 = .ok (.invokevirtual 76, 3) := by decide +kernel
theorem dX0_inAllSets_4 : decode cX0_inAllSets 4 = .ok (.ifCond .ne 5, 3) := by decide +kernel
theorem dX0_inAllSets_7 : decode cX0_inAllSets 7 = .ok (.iconst (-1), 1) := by decide +kernel
theorem dX0_inAllSets_8 : decode cX0_inAllSets 8 = .ok (.ireturn, 1) := by decide +kernel
theorem dX0_inAllSets_9 : decode cX0_inAllSets 9 = .ok (.bipush 63, 2) := by decide +kernel
theorem dX0_inAllSets_11 : decode cX0_inAllSets 11 = .ok (.istore_n 1, 1) := by decide +kernel
theorem dX0_inAllSets_12 : decode cX0_inAllSets 12 = .ok (.iconst 0, 1) := by decide +kernel
theorem dX0_inAllSets_13 : decode cX0_inAllSets 13 = .ok (.istore_n 2, 1) := by decide +kernel
theorem dX0_inAllSets_14 : decode cX0_inAllSets 14 = .ok (.iload_n 2, 1) := by decide +kernel
theorem dX0_inAllSets_15 : decode cX0_inAllSets 15 = .ok (.bipush 64, 2) := by decide +kernel
theorem dX0_inAllSets_17 : decode cX0_inAllSets 17 = .ok (.if_icmp .ge 21, 3) := by decide +kernel
theorem dX0_inAllSets_20 : decode cX0_inAllSets 20 = .ok (.aload_n 0, 1) := by decide +kernel
theorem dX0_inAllSets_21 : decode cX0_inAllSets 21 = .ok (.iload_n 2, 1) := by decide +kernel
theorem dX0_inAllSets_22 : decode cX0_inAllSets 22 = .ok (.invokevirtual 79, 3) := by decide +kernel
theorem dX0_inAllSets_25 : decode cX0_inAllSets 25 = .ok (.ifCond .eq 7, 3) := by decide +kernel
theorem dX0_inAllSets_28 : decode cX0_inAllSets 28 = .ok (.iload_n 1, 1) := by decide +kernel
theorem dX0_inAllSets_29 : decode cX0_inAllSets 29 = .ok (.iload_n 2, 1) := by decide +kernel
theorem dX0_inAllSets_30 : decode cX0_inAllSets 30 = .ok (.iand, 1) := by decide +kernel
theorem dX0_inAllSets_31 : decode cX0_inAllSets 31 = .ok (.istore_n 1, 1) := by decide +kernel
theorem dX0_inAllSets_32 : decode cX0_inAllSets 32 = .ok (.iinc 2 1, 3) := by decide +kernel
theorem dX0_inAllSets_35 : decode cX0_inAllSets 35 = .ok (.goto (-21), 3) := by decide +kernel
theorem dX0_inAllSets_38 : decode cX0_inAllSets 38 = .ok (.iload_n 1, 1) := by decide +kernel
theorem dX0_inAllSets_39 : decode cX0_inAllSets 39 = .ok (.ireturn, 1) := by decide +kernel
theorem dX0_inSomeSet_0 : decode cX0_inSomeSet 0 = .ok (.iconst 0, 1) := by decide +kernel
theorem dX0_inSomeSet_1 : decode cX0_inSomeSet 1 = .ok (.istore_n 1, 1) := by decide +kernel
theorem dX0_inSomeSet_2 : decode cX0_inSomeSet 2 = .ok (.iconst 0, 1) := by decide +kernel
theorem dX0_inSomeSet_3 : decode cX0_inSomeSet 3 = .ok (.istore_n 2, 1) := by decide +kernel
theorem dX0_inSomeSet_4 : decode cX0_inSomeSet 4 = .ok (.iload_n 2, 1) := by decide +kernel
theorem dX0_inSomeSet_5 : decode cX0_inSomeSet 5 = .ok (.bipush 64, 2) := by decide +kernel
theorem dX0_inSomeSet_7 : decode cX0_inSomeSet 7 = .ok (.if_icmp .ge 21, 3) := by decide +kernel
theorem dX0_inSomeSet_10 : decode cX0_inSomeSet 10 = .ok (.aload_n 0, 1) := by decide +kernel
theorem dX0_inSomeSet_11 : decode cX0_inSomeSet 11 = .ok (.iload_n 2, 1) := by decide +kernel
theorem dX0_inSomeSet_12 : decode cX0_inSomeSet 12 = .ok (.invokevirtual 79, 3) := by decide +kernel
theorem dX0_inSomeSet_15 : decode cX0_inSomeSet 15 = .ok (.ifCond .eq 7, 3) := by decide +kernel
theorem dX0_inSomeSet_18 : decode cX0_inSomeSet 18 = .ok (.iload_n 1, 1) := by decide +kernel
theorem dX0_inSomeSet_19 : decode cX0_inSomeSet 19 = .ok (.iload_n 2, 1) := by decide +kernel
theorem dX0_inSomeSet_20 : decode cX0_inSomeSet 20 = .ok (.ior, 1) := by decide +kernel
theorem dX0_inSomeSet_21 : decode cX0_inSomeSet 21 = .ok (.istore_n 1, 1) := by decide +kernel
theorem dX0_inSomeSet_22 : decode cX0_inSomeSet 22 = .ok (.iinc 2 1, 3) := by decide +kernel
theorem dX0_inSomeSet_25 : decode cX0_inSomeSet 25 = .ok (.goto (-21), 3) := by decide +kernel
theorem dX0_inSomeSet_28 : decode cX0_inSomeSet 28 = .ok (.iload_n 1, 1) := by decide +kernel
theorem dX0_inSomeSet_29 : decode cX0_inSomeSet 29 = .ok (.ireturn, 1) := by decide +kernel
theorem dX0_tellingNight_0 : decode cX0_tellingNight 0 = .ok (.aload_n 0, 1) := by decide +kernel
theorem dX0_tellingNight_1 : decode cX0_tellingNight 1 = .ok (.invokevirtual 76, 3) := by decide +kernel
theorem dX0_tellingNight_4 : decode cX0_tellingNight 4 = .ok (.ifCond .ne 5, 3) := by decide +kernel
theorem dX0_tellingNight_7 : decode cX0_tellingNight 7 = .ok (.iconst (-1), 1) := by decide +kernel
theorem dX0_tellingNight_8 : decode cX0_tellingNight 8 = .ok (.ireturn, 1) := by decide +kernel
theorem dX0_tellingNight_9 : decode cX0_tellingNight 9 = .ok (.aload_n 0, 1) := by decide +kernel
theorem dX0_tellingNight_10 : decode cX0_tellingNight 10 = .ok (.getfield 25, 3) := by decide +kernel
theorem dX0_tellingNight_13 : decode cX0_tellingNight 13 = .ok (.invokevirtual 83, 3) := by decide +kernel
theorem dX0_tellingNight_16 : decode cX0_tellingNight 16 = .ok (.iconst 0, 1) := by decide +kernel
theorem dX0_tellingNight_17 : decode cX0_tellingNight 17 = .ok (.istore_n 2, 1) := by decide +kernel
theorem dX0_tellingNight_18 : decode cX0_tellingNight 18 = .ok (.iload_n 2, 1) := by decide +kernel
theorem dX0_tellingNight_19 : decode cX0_tellingNight 19 = .ok (.bipush 12, 2) := by decide +kernel
theorem dX0_tellingNight_21 : decode cX0_tellingNight 21 = .ok (.if_icmp .ge 23, 3) := by decide +kernel
theorem dX0_tellingNight_24 : decode cX0_tellingNight 24 = .ok (.aload_n 0, 1) := by decide +kernel
theorem dX0_tellingNight_25 : decode cX0_tellingNight 25 = .ok (.iload_n 1, 1) := by decide +kernel
theorem dX0_tellingNight_26 : decode cX0_tellingNight 26 = .ok (.iload_n 2, 1) := by decide +kernel
theorem dX0_tellingNight_27 : decode cX0_tellingNight 27 = .ok (.invokevirtual 86, 3) := by decide +kernel
theorem dX0_tellingNight_30 : decode cX0_tellingNight 30 = .ok (.aload_n 0, 1) := by decide +kernel
theorem dX0_tellingNight_31 : decode cX0_tellingNight 31 = .ok (.getfield 25, 3) := by decide +kernel
theorem dX0_tellingNight_34 : decode cX0_tellingNight 34 = .ok (.iload_n 2, 1) := by decide +kernel
theorem dX0_tellingNight_35 : decode cX0_tellingNight 35 = .ok (.invokevirtual 89, 3) := by decide +kernel
theorem dX0_tellingNight_38 : decode cX0_tellingNight 38 = .ok (.iinc 2 1, 3) := by decide +kernel
theorem dX0_tellingNight_41 : decode cX0_tellingNight 41 = .ok (.goto (-23), 3) := by decide +kernel
theorem dX0_tellingNight_44 : decode cX0_tellingNight 44 = .ok (.aload_n 0, 1) := by decide +kernel
theorem dX0_tellingNight_45 : decode cX0_tellingNight 45 = .ok (.getfield 25, 3) := by decide +kernel
theorem dX0_tellingNight_48 : decode cX0_tellingNight 48 = .ok (.getfield 93, 3) := by decide +kernel
theorem dX0_tellingNight_51 : decode cX0_tellingNight 51 = .ok (.ireturn, 1) := by decide +kernel
theorem dX0_seeSets_0 : decode cX0_seeSets 0 = .ok (.aload_n 0, 1) := by decide +kernel
theorem dX0_seeSets_1 : decode cX0_seeSets 1 = .ok (.iload_n 1, 1) := by decide +kernel
theorem dX0_seeSets_2 : decode cX0_seeSets 2 = .ok (.iload_n 2, 1) := by decide +kernel
theorem dX0_seeSets_3 : decode cX0_seeSets 3 = .ok (.invokevirtual 56, 3) := by decide +kernel
theorem dX0_seeSets_6 : decode cX0_seeSets 6 = .ok (.aload_n 0, 1) := by decide +kernel
theorem dX0_seeSets_7 : decode cX0_seeSets 7 = .ok (.getfield 25, 3) := by decide +kernel
theorem dX0_seeSets_10 : decode cX0_seeSets 10 = .ok (.invokevirtual 97, 3) := by decide +kernel
theorem dX0_seeSets_13 : decode cX0_seeSets 13 = .ok (.iconst 0, 1) := by decide +kernel
theorem dX0_seeSets_14 : decode cX0_seeSets 14 = .ok (.istore_n 3, 1) := by decide +kernel
theorem dX0_seeSets_15 : decode cX0_seeSets 15 = .ok (.iload_n 3, 1) := by decide +kernel
theorem dX0_seeSets_16 : decode cX0_seeSets 16 = .ok (.bipush 64, 2) := by decide +kernel
theorem dX0_seeSets_18 : decode cX0_seeSets 18 = .ok (.if_icmp .ge 29, 3) := by decide +kernel
theorem dX0_seeSets_21 : decode cX0_seeSets 21 = .ok (.aload_n 0, 1) := by decide +kernel
theorem dX0_seeSets_22 : decode cX0_seeSets 22 = .ok (.iload_n 3, 1) := by decide +kernel
theorem dX0_seeSets_23 : decode cX0_seeSets 23 = .ok (.invokevirtual 79, 3) := by decide +kernel
theorem dX0_seeSets_26 : decode cX0_seeSets 26 = .ok (.ifCond .eq 15, 3) := by decide +kernel
theorem dX0_seeSets_29 : decode cX0_seeSets 29 = .ok (.aload_n 0, 1) := by decide +kernel
theorem dX0_seeSets_30 : decode cX0_seeSets 30 = .ok (.getfield 25, 3) := by decide +kernel
theorem dX0_seeSets_33 : decode cX0_seeSets 33 = .ok (.aload_n 0, 1) := by decide +kernel
theorem dX0_seeSets_34 : decode cX0_seeSets 34 = .ok (.iload_n 3, 1) := by decide +kernel
theorem dX0_seeSets_35 : decode cX0_seeSets 35 = .ok (.invokevirtual 60, 3) := by decide +kernel
theorem dX0_seeSets_38 : decode cX0_seeSets 38 = .ok (.invokevirtual 100, 3) := by decide +kernel
theorem dX0_seeSets_41 : decode cX0_seeSets 41 = .ok (.iinc 3 1, 3) := by decide +kernel
theorem dX0_seeSets_44 : decode cX0_seeSets 44 = .ok (.goto (-29), 3) := by decide +kernel
theorem dX0_seeSets_47 : decode cX0_seeSets 47 = .ok (.return_, 1) := by decide +kernel
theorem dX0_flowerKinds_0 : decode cX0_flowerKinds 0 = .ok (.iconst 0, 1) := by decide +kernel
theorem dX0_flowerKinds_1 : decode cX0_flowerKinds 1 = .ok (.istore_n 2, 1) := by decide +kernel
theorem dX0_flowerKinds_2 : decode cX0_flowerKinds 2 = .ok (.iconst 0, 1) := by decide +kernel
theorem dX0_flowerKinds_3 : decode cX0_flowerKinds 3 = .ok (.istore_n 3, 1) := by decide +kernel
theorem dX0_flowerKinds_4 : decode cX0_flowerKinds 4 = .ok (.iload_n 3, 1) := by decide +kernel
theorem dX0_flowerKinds_5 : decode cX0_flowerKinds 5 = .ok (.bipush 6, 2) := by decide +kernel
theorem dX0_flowerKinds_7 : decode cX0_flowerKinds 7 = .ok (.if_icmp .ge 24, 3) := by decide +kernel
theorem dX0_flowerKinds_10 : decode cX0_flowerKinds 10 = .ok (.aload_n 0, 1) := by decide +kernel
theorem dX0_flowerKinds_11 : decode cX0_flowerKinds 11 = .ok (.iload_n 1, 1) := by decide +kernel
theorem dX0_flowerKinds_12 : decode cX0_flowerKinds 12 = .ok (.iload_n 3, 1) := by decide +kernel
theorem dX0_flowerKinds_13 : decode cX0_flowerKinds 13 = .ok (.invokevirtual 103, 3) := by decide +kernel
theorem dX0_flowerKinds_16 : decode cX0_flowerKinds 16 = .ok (.ifCond .eq 9, 3) := by decide +kernel
theorem dX0_flowerKinds_19 : decode cX0_flowerKinds 19 = .ok (.iload_n 2, 1) := by decide +kernel
theorem dX0_flowerKinds_20 : decode cX0_flowerKinds 20 = .ok (.iconst 1, 1) := by decide +kernel
theorem dX0_flowerKinds_21 : decode cX0_flowerKinds 21 = .ok (.iload_n 3, 1) := by decide +kernel
theorem dX0_flowerKinds_22 : decode cX0_flowerKinds 22 = .ok (.ishl, 1) := by decide +kernel
theorem dX0_flowerKinds_23 : decode cX0_flowerKinds 23 = .ok (.ior, 1) := by decide +kernel
theorem dX0_flowerKinds_24 : decode cX0_flowerKinds 24 = .ok (.istore_n 2, 1) := by decide +kernel
theorem dX0_flowerKinds_25 : decode cX0_flowerKinds 25 = .ok (.iinc 3 1, 3) := by decide +kernel
theorem dX0_flowerKinds_28 : decode cX0_flowerKinds 28 = .ok (.goto (-24), 3) := by decide +kernel
theorem dX0_flowerKinds_31 : decode cX0_flowerKinds 31 = .ok (.iload_n 2, 1) := by decide +kernel
theorem dX0_flowerKinds_32 : decode cX0_flowerKinds 32 = .ok (.ireturn, 1) := by decide +kernel
theorem dX0_agreesWithNotes_0 : decode cX0_agreesWithNotes 0 = .ok (.aload_n 0, 1) := by decide +kernel
theorem dX0_agreesWithNotes_1 : decode cX0_agreesWithNotes 1 = .ok (.getfield 9, 3) := by decide +kernel
theorem dX0_agreesWithNotes_4 : decode cX0_agreesWithNotes 4 = .ok (.getfield 106, 3) := by decide +kernel
theorem dX0_agreesWithNotes_7 : decode cX0_agreesWithNotes 7 = .ok (.astore_n 3, 1) := by decide +kernel
theorem dX0_agreesWithNotes_8 : decode cX0_agreesWithNotes 8 = .ok (.iconst 0, 1) := by decide +kernel
theorem dX0_agreesWithNotes_9 : decode cX0_agreesWithNotes 9 = .ok (.istore 4, 2) := by decide +kernel
theorem dX0_agreesWithNotes_11 : decode cX0_agreesWithNotes 11 = .ok (.iload 4, 2) := by decide +kernel
theorem dX0_agreesWithNotes_13 : decode cX0_agreesWithNotes 13 = .ok (.aload_n 3, 1) := by decide +kernel
theorem dX0_agreesWithNotes_14 : decode cX0_agreesWithNotes 14 = .ok (.invokevirtual 35, 3) := by decide +kernel
theorem dX0_agreesWithNotes_17 : decode cX0_agreesWithNotes 17 = .ok (.if_icmp .ge 54, 3) := by decide +kernel
theorem dX0_agreesWithNotes_20 : decode cX0_agreesWithNotes 20 = .ok (.iload_n 2, 1) := by decide +kernel
theorem dX0_agreesWithNotes_21 : decode cX0_agreesWithNotes 21 = .ok (.aload_n 3, 1) := by decide +kernel
theorem dX0_agreesWithNotes_22 : decode cX0_agreesWithNotes 22 = .ok (.iload 4, 2) := by decide +kernel
theorem dX0_agreesWithNotes_24 : decode cX0_agreesWithNotes 24 = .ok (.iconst 1, 1) := by decide +kernel
theorem dX0_agreesWithNotes_25 : decode cX0_agreesWithNotes 25 = .ok (.invokevirtual 48, 3) := by decide +kernel
theorem dX0_agreesWithNotes_28 : decode cX0_agreesWithNotes 28 = .ok (.aload_n 3, 1) := by decide +kernel
theorem dX0_agreesWithNotes_29 : decode cX0_agreesWithNotes 29 = .ok (.iload 4, 2) := by decide +kernel
theorem dX0_agreesWithNotes_31 : decode cX0_agreesWithNotes 31 = .ok (.iconst 2, 1) := by decide +kernel
theorem dX0_agreesWithNotes_32 : decode cX0_agreesWithNotes 32 = .ok (.invokevirtual 48, 3) := by decide +kernel
theorem dX0_agreesWithNotes_35 : decode cX0_agreesWithNotes 35 = .ok (.invokestatic 109, 3) := by decide +kernel
theorem dX0_agreesWithNotes_38 : decode cX0_agreesWithNotes 38 = .ok (.istore 5, 2) := by decide +kernel
theorem dX0_agreesWithNotes_40 : decode cX0_agreesWithNotes 40 = .ok (.aload_n 3, 1) := by decide +kernel
theorem dX0_agreesWithNotes_41 : decode cX0_agreesWithNotes 41 = .ok (.iload 4, 2) := by decide +kernel
theorem dX0_agreesWithNotes_43 : decode cX0_agreesWithNotes 43 = .ok (.iconst 0, 1) := by decide +kernel
theorem dX0_agreesWithNotes_44 : decode cX0_agreesWithNotes 44 = .ok (.invokevirtual 48, 3) := by decide +kernel
theorem dX0_agreesWithNotes_47 : decode cX0_agreesWithNotes 47 = .ok (.iload_n 1, 1) := by decide +kernel
theorem dX0_agreesWithNotes_48 : decode cX0_agreesWithNotes 48 = .ok (.if_icmp .ne 17, 3) := by decide +kernel
theorem dX0_agreesWithNotes_51 : decode cX0_agreesWithNotes 51 = .ok (.iload 5, 2) := by decide +kernel
theorem dX0_agreesWithNotes_53 : decode cX0_agreesWithNotes 53 = .ok (.aload_n 3, 1) := by decide +kernel
theorem dX0_agreesWithNotes_54 : decode cX0_agreesWithNotes 54 = .ok (.iload 4, 2) := by decide +kernel
theorem dX0_agreesWithNotes_56 : decode cX0_agreesWithNotes 56 = .ok (.iconst 3, 1) := by decide +kernel
theorem dX0_agreesWithNotes_57 : decode cX0_agreesWithNotes 57 = .ok (.invokevirtual 48, 3) := by decide +kernel
theorem dX0_agreesWithNotes_60 : decode cX0_agreesWithNotes 60 = .ok (.if_icmp .eq 5, 3) := by decide +kernel
theorem dX0_agreesWithNotes_63 : decode cX0_agreesWithNotes 63 = .ok (.iconst 0, 1) := by decide +kernel
theorem dX0_agreesWithNotes_64 : decode cX0_agreesWithNotes 64 = .ok (.ireturn, 1) := by decide +kernel
theorem dX0_agreesWithNotes_65 : decode cX0_agreesWithNotes 65 = .ok (.iinc 4 1, 3) := by decide +kernel
theorem dX0_agreesWithNotes_68 : decode cX0_agreesWithNotes 68 = .ok (.goto (-57), 3) := by decide +kernel
theorem dX0_agreesWithNotes_71 : decode cX0_agreesWithNotes 71 = .ok (.iconst 1, 1) := by decide +kernel
theorem dX0_agreesWithNotes_72 : decode cX0_agreesWithNotes 72 = .ok (.ireturn, 1) := by decide +kernel
theorem dX0_lookingNight_0 : decode cX0_lookingNight 0 = .ok (.aload_n 0, 1) := by decide +kernel
theorem dX0_lookingNight_1 : decode cX0_lookingNight 1 = .ok (.iload_n 1, 1) := by decide +kernel
theorem dX0_lookingNight_2 : decode cX0_lookingNight 2 = .ok (.invokevirtual 112, 3) := by decide +kernel
theorem dX0_lookingNight_5 : decode cX0_lookingNight 5 = .ok (.istore_n 2, 1) := by decide +kernel
theorem dX0_lookingNight_6 : decode cX0_lookingNight 6 = .ok (.iload_n 2, 1) := by decide +kernel
theorem dX0_lookingNight_7 : decode cX0_lookingNight 7 = .ok (.ifCond .ne 5, 3) := by decide +kernel
theorem dX0_lookingNight_10 : decode cX0_lookingNight 10 = .ok (.iconst (-1), 1) := by decide +kernel
theorem dX0_lookingNight_11 : decode cX0_lookingNight 11 = .ok (.ireturn, 1) := by decide +kernel
theorem dX0_lookingNight_12 : decode cX0_lookingNight 12 = .ok (.aload_n 0, 1) := by decide +kernel
theorem dX0_lookingNight_13 : decode cX0_lookingNight 13 = .ok (.getfield 25, 3) := by decide +kernel
theorem dX0_lookingNight_16 : decode cX0_lookingNight 16 = .ok (.invokevirtual 83, 3) := by decide +kernel
theorem dX0_lookingNight_19 : decode cX0_lookingNight 19 = .ok (.iconst 0, 1) := by decide +kernel
theorem dX0_lookingNight_20 : decode cX0_lookingNight 20 = .ok (.istore_n 3, 1) := by decide +kernel
theorem dX0_lookingNight_21 : decode cX0_lookingNight 21 = .ok (.iload_n 3, 1) := by decide +kernel
theorem dX0_lookingNight_22 : decode cX0_lookingNight 22 = .ok (.bipush 12, 2) := by decide +kernel
theorem dX0_lookingNight_24 : decode cX0_lookingNight 24 = .ok (.if_icmp .ge 35, 3) := by decide +kernel
theorem dX0_lookingNight_27 : decode cX0_lookingNight 27 = .ok (.aload_n 0, 1) := by decide +kernel
theorem dX0_lookingNight_28 : decode cX0_lookingNight 28 = .ok (.iload_n 2, 1) := by decide +kernel
theorem dX0_lookingNight_29 : decode cX0_lookingNight 29 = .ok (.aload_n 0, 1) := by decide +kernel
theorem dX0_lookingNight_30 : decode cX0_lookingNight 30 = .ok (.getfield 9, 3) := by decide +kernel
theorem dX0_lookingNight_33 : decode cX0_lookingNight 33 = .ok (.getfield 29, 3) := by decide +kernel
theorem dX0_lookingNight_36 : decode cX0_lookingNight 36 = .ok (.iload_n 1, 1) := by decide +kernel
theorem dX0_lookingNight_37 : decode cX0_lookingNight 37 = .ok (.iconst 1, 1) := by decide +kernel
theorem dX0_lookingNight_38 : decode cX0_lookingNight 38 = .ok (.invokevirtual 48, 3) := by decide +kernel
theorem dX0_lookingNight_41 : decode cX0_lookingNight 41 = .ok (.iload_n 3, 1) := by decide +kernel
theorem dX0_lookingNight_42 : decode cX0_lookingNight 42 = .ok (.invokevirtual 115, 3) := by decide +kernel
theorem dX0_lookingNight_45 : decode cX0_lookingNight 45 = .ok (.aload_n 0, 1) := by decide +kernel
theorem dX0_lookingNight_46 : decode cX0_lookingNight 46 = .ok (.getfield 25, 3) := by decide +kernel
theorem dX0_lookingNight_49 : decode cX0_lookingNight 49 = .ok (.iload_n 3, 1) := by decide +kernel
theorem dX0_lookingNight_50 : decode cX0_lookingNight 50 = .ok (.invokevirtual 89, 3) := by decide +kernel
theorem dX0_lookingNight_53 : decode cX0_lookingNight 53 = .ok (.iinc 3 1, 3) := by decide +kernel
theorem dX0_lookingNight_56 : decode cX0_lookingNight 56 = .ok (.goto (-35), 3) := by decide +kernel
theorem dX0_lookingNight_59 : decode cX0_lookingNight 59 = .ok (.aload_n 0, 1) := by decide +kernel
theorem dX0_lookingNight_60 : decode cX0_lookingNight 60 = .ok (.getfield 25, 3) := by decide +kernel
theorem dX0_lookingNight_63 : decode cX0_lookingNight 63 = .ok (.getfield 93, 3) := by decide +kernel
theorem dX0_lookingNight_66 : decode cX0_lookingNight 66 = .ok (.ireturn, 1) := by decide +kernel
theorem dX0_seeFlowerKinds_0 : decode cX0_seeFlowerKinds 0 = .ok (.aload_n 0, 1) := by decide +kernel
theorem dX0_seeFlowerKinds_1 : decode cX0_seeFlowerKinds 1 = .ok (.getfield 25, 3) := by decide +kernel
theorem dX0_seeFlowerKinds_4 : decode cX0_seeFlowerKinds 4 = .ok (.invokevirtual 97, 3) := by decide +kernel
theorem dX0_seeFlowerKinds_7 : decode cX0_seeFlowerKinds 7 = .ok (.iconst 0, 1) := by decide +kernel
theorem dX0_seeFlowerKinds_8 : decode cX0_seeFlowerKinds 8 = .ok (.istore 4, 2) := by decide +kernel
theorem dX0_seeFlowerKinds_10 : decode cX0_seeFlowerKinds 10 = .ok (.iload 4, 2) := by decide +kernel
theorem dX0_seeFlowerKinds_12 : decode cX0_seeFlowerKinds 12 = .ok (.bipush 6, 2) := by decide +kernel
theorem dX0_seeFlowerKinds_14 : decode cX0_seeFlowerKinds 14 = .ok (.if_icmp .ge 32, 3) := by decide +kernel
theorem dX0_seeFlowerKinds_17 : decode cX0_seeFlowerKinds 17 = .ok (.iload_n 1, 1) := by decide +kernel
theorem dX0_seeFlowerKinds_18 : decode cX0_seeFlowerKinds 18 = .ok (.iload 4, 2) := by decide +kernel
theorem dX0_seeFlowerKinds_20 : decode cX0_seeFlowerKinds 20 = .ok (.invokestatic 68, 3) := by decide +kernel
theorem dX0_seeFlowerKinds_23 : decode cX0_seeFlowerKinds 23 = .ok (.ifCond .eq 17, 3) := by decide +kernel
theorem dX0_seeFlowerKinds_26 : decode cX0_seeFlowerKinds 26 = .ok (.aload_n 0, 1) := by decide +kernel
theorem dX0_seeFlowerKinds_27 : decode cX0_seeFlowerKinds 27 = .ok (.getfield 25, 3) := by decide +kernel
theorem dX0_seeFlowerKinds_30 : decode cX0_seeFlowerKinds 30 = .ok (.iload 4, 2) := by decide +kernel
theorem dX0_seeFlowerKinds_32 : decode cX0_seeFlowerKinds 32 = .ok (.iload_n 2, 1) := by decide +kernel
theorem dX0_seeFlowerKinds_33 : decode cX0_seeFlowerKinds 33 = .ok (.iload_n 3, 1) := by decide +kernel
theorem dX0_seeFlowerKinds_34 : decode cX0_seeFlowerKinds 34 = .ok (.invokestatic 109, 3) := by decide +kernel
theorem dX0_seeFlowerKinds_37 : decode cX0_seeFlowerKinds 37 = .ok (.invokevirtual 100, 3) := by decide +kernel
theorem dX0_seeFlowerKinds_40 : decode cX0_seeFlowerKinds 40 = .ok (.iinc 4 1, 3) := by decide +kernel
theorem dX0_seeFlowerKinds_43 : decode cX0_seeFlowerKinds 43 = .ok (.goto (-33), 3) := by decide +kernel
theorem dX0_seeFlowerKinds_46 : decode cX0_seeFlowerKinds 46 = .ok (.return_, 1) := by decide +kernel
theorem dX0_sleeperKinds_0 : decode cX0_sleeperKinds 0 = .ok (.iconst 0, 1) := by decide +kernel
theorem dX0_sleeperKinds_1 : decode cX0_sleeperKinds 1 = .ok (.istore_n 2, 1) := by decide +kernel
theorem dX0_sleeperKinds_2 : decode cX0_sleeperKinds 2 = .ok (.iconst 0, 1) := by decide +kernel
theorem dX0_sleeperKinds_3 : decode cX0_sleeperKinds 3 = .ok (.istore_n 3, 1) := by decide +kernel
theorem dX0_sleeperKinds_4 : decode cX0_sleeperKinds 4 = .ok (.iload_n 3, 1) := by decide +kernel
theorem dX0_sleeperKinds_5 : decode cX0_sleeperKinds 5 = .ok (.bipush 6, 2) := by decide +kernel
theorem dX0_sleeperKinds_7 : decode cX0_sleeperKinds 7 = .ok (.if_icmp .ge 24, 3) := by decide +kernel
theorem dX0_sleeperKinds_10 : decode cX0_sleeperKinds 10 = .ok (.aload_n 0, 1) := by decide +kernel
theorem dX0_sleeperKinds_11 : decode cX0_sleeperKinds 11 = .ok (.iload_n 1, 1) := by decide +kernel
theorem dX0_sleeperKinds_12 : decode cX0_sleeperKinds 12 = .ok (.iload_n 3, 1) := by decide +kernel
theorem dX0_sleeperKinds_13 : decode cX0_sleeperKinds 13 = .ok (.invokevirtual 118, 3) := by decide +kernel
theorem dX0_sleeperKinds_16 : decode cX0_sleeperKinds 16 = .ok (.ifCond .eq 9, 3) := by decide +kernel
theorem dX0_sleeperKinds_19 : decode cX0_sleeperKinds 19 = .ok (.iload_n 2, 1) := by decide +kernel
theorem dX0_sleeperKinds_20 : decode cX0_sleeperKinds 20 = .ok (.iconst 1, 1) := by decide +kernel
theorem dX0_sleeperKinds_21 : decode cX0_sleeperKinds 21 = .ok (.iload_n 3, 1) := by decide +kernel
theorem dX0_sleeperKinds_22 : decode cX0_sleeperKinds 22 = .ok (.ishl, 1) := by decide +kernel
theorem dX0_sleeperKinds_23 : decode cX0_sleeperKinds 23 = .ok (.ior, 1) := by decide +kernel
theorem dX0_sleeperKinds_24 : decode cX0_sleeperKinds 24 = .ok (.istore_n 2, 1) := by decide +kernel
theorem dX0_sleeperKinds_25 : decode cX0_sleeperKinds 25 = .ok (.iinc 3 1, 3) := by decide +kernel
theorem dX0_sleeperKinds_28 : decode cX0_sleeperKinds 28 = .ok (.goto (-24), 3) := by decide +kernel
theorem dX0_sleeperKinds_31 : decode cX0_sleeperKinds 31 = .ok (.iload_n 2, 1) := by decide +kernel
theorem dX0_sleeperKinds_32 : decode cX0_sleeperKinds 32 = .ok (.ireturn, 1) := by decide +kernel
theorem dX0_agreesWithMarks_0 : decode cX0_agreesWithMarks 0 = .ok (.aload_n 0, 1) := by decide +kernel
theorem dX0_agreesWithMarks_1 : decode cX0_agreesWithMarks 1 = .ok (.getfield 9, 3) := by decide +kernel
theorem dX0_agreesWithMarks_4 : decode cX0_agreesWithMarks 4 = .ok (.getfield 121, 3) := by decide +kernel
theorem dX0_agreesWithMarks_7 : decode cX0_agreesWithMarks 7 = .ok (.astore_n 3, 1) := by decide +kernel
theorem dX0_agreesWithMarks_8 : decode cX0_agreesWithMarks 8 = .ok (.iconst 0, 1) := by decide +kernel
theorem dX0_agreesWithMarks_9 : decode cX0_agreesWithMarks 9 = .ok (.istore 4, 2) := by decide +kernel
theorem dX0_agreesWithMarks_11 : decode cX0_agreesWithMarks 11 = .ok (.iload 4, 2) := by decide +kernel
theorem dX0_agreesWithMarks_13 : decode cX0_agreesWithMarks 13 = .ok (.aload_n 3, 1) := by decide +kernel
theorem dX0_agreesWithMarks_14 : decode cX0_agreesWithMarks 14 = .ok (.invokevirtual 35, 3) := by decide +kernel
theorem dX0_agreesWithMarks_17 : decode cX0_agreesWithMarks 17 = .ok (.if_icmp .ge 54, 3) := by decide +kernel
theorem dX0_agreesWithMarks_20 : decode cX0_agreesWithMarks 20 = .ok (.iload_n 2, 1) := by decide +kernel
theorem dX0_agreesWithMarks_21 : decode cX0_agreesWithMarks 21 = .ok (.aload_n 3, 1) := by decide +kernel
theorem dX0_agreesWithMarks_22 : decode cX0_agreesWithMarks 22 = .ok (.iload 4, 2) := by decide +kernel
theorem dX0_agreesWithMarks_24 : decode cX0_agreesWithMarks 24 = .ok (.iconst 1, 1) := by decide +kernel
theorem dX0_agreesWithMarks_25 : decode cX0_agreesWithMarks 25 = .ok (.invokevirtual 48, 3) := by decide +kernel
theorem dX0_agreesWithMarks_28 : decode cX0_agreesWithMarks 28 = .ok (.aload_n 3, 1) := by decide +kernel
theorem dX0_agreesWithMarks_29 : decode cX0_agreesWithMarks 29 = .ok (.iload 4, 2) := by decide +kernel
theorem dX0_agreesWithMarks_31 : decode cX0_agreesWithMarks 31 = .ok (.iconst 2, 1) := by decide +kernel
theorem dX0_agreesWithMarks_32 : decode cX0_agreesWithMarks 32 = .ok (.invokevirtual 48, 3) := by decide +kernel
theorem dX0_agreesWithMarks_35 : decode cX0_agreesWithMarks 35 = .ok (.invokestatic 124, 3) := by decide +kernel
theorem dX0_agreesWithMarks_38 : decode cX0_agreesWithMarks 38 = .ok (.istore 5, 2) := by decide +kernel
theorem dX0_agreesWithMarks_40 : decode cX0_agreesWithMarks 40 = .ok (.aload_n 3, 1) := by decide +kernel
theorem dX0_agreesWithMarks_41 : decode cX0_agreesWithMarks 41 = .ok (.iload 4, 2) := by decide +kernel
theorem dX0_agreesWithMarks_43 : decode cX0_agreesWithMarks 43 = .ok (.iconst 0, 1) := by decide +kernel
theorem dX0_agreesWithMarks_44 : decode cX0_agreesWithMarks 44 = .ok (.invokevirtual 48, 3) := by decide +kernel
theorem dX0_agreesWithMarks_47 : decode cX0_agreesWithMarks 47 = .ok (.iload_n 1, 1) := by decide +kernel
theorem dX0_agreesWithMarks_48 : decode cX0_agreesWithMarks 48 = .ok (.if_icmp .ne 17, 3) := by decide +kernel
theorem dX0_agreesWithMarks_51 : decode cX0_agreesWithMarks 51 = .ok (.iload 5, 2) := by decide +kernel
theorem dX0_agreesWithMarks_53 : decode cX0_agreesWithMarks 53 = .ok (.aload_n 3, 1) := by decide +kernel
theorem dX0_agreesWithMarks_54 : decode cX0_agreesWithMarks 54 = .ok (.iload 4, 2) := by decide +kernel
theorem dX0_agreesWithMarks_56 : decode cX0_agreesWithMarks 56 = .ok (.iconst 3, 1) := by decide +kernel
theorem dX0_agreesWithMarks_57 : decode cX0_agreesWithMarks 57 = .ok (.invokevirtual 48, 3) := by decide +kernel
theorem dX0_agreesWithMarks_60 : decode cX0_agreesWithMarks 60 = .ok (.if_icmp .eq 5, 3) := by decide +kernel
theorem dX0_agreesWithMarks_63 : decode cX0_agreesWithMarks 63 = .ok (.iconst 0, 1) := by decide +kernel
theorem dX0_agreesWithMarks_64 : decode cX0_agreesWithMarks 64 = .ok (.ireturn, 1) := by decide +kernel
theorem dX0_agreesWithMarks_65 : decode cX0_agreesWithMarks 65 = .ok (.iinc 4 1, 3) := by decide +kernel
theorem dX0_agreesWithMarks_68 : decode cX0_agreesWithMarks 68 = .ok (.goto (-57), 3) := by decide +kernel
theorem dX0_agreesWithMarks_71 : decode cX0_agreesWithMarks 71 = .ok (.iconst 1, 1) := by decide +kernel
theorem dX0_agreesWithMarks_72 : decode cX0_agreesWithMarks 72 = .ok (.ireturn, 1) := by decide +kernel
theorem dX0_asking_0 : decode cX0_asking 0 = .ok (.aload_n 0, 1) := by decide +kernel
theorem dX0_asking_1 : decode cX0_asking 1 = .ok (.iload_n 1, 1) := by decide +kernel
theorem dX0_asking_2 : decode cX0_asking 2 = .ok (.invokevirtual 127, 3) := by decide +kernel
theorem dX0_asking_5 : decode cX0_asking 5 = .ok (.istore_n 2, 1) := by decide +kernel
theorem dX0_asking_6 : decode cX0_asking 6 = .ok (.iload_n 2, 1) := by decide +kernel
theorem dX0_asking_7 : decode cX0_asking 7 = .ok (.ifCond .ne 5, 3) := by decide +kernel
theorem dX0_asking_10 : decode cX0_asking 10 = .ok (.iconst (-1), 1) := by decide +kernel
theorem dX0_asking_11 : decode cX0_asking 11 = .ok (.ireturn, 1) := by decide +kernel
theorem dX0_asking_12 : decode cX0_asking 12 = .ok (.aload_n 0, 1) := by decide +kernel
theorem dX0_asking_13 : decode cX0_asking 13 = .ok (.getfield 25, 3) := by decide +kernel
theorem dX0_asking_16 : decode cX0_asking 16 = .ok (.invokevirtual 83, 3) := by decide +kernel
theorem dX0_asking_19 : decode cX0_asking 19 = .ok (.iconst 0, 1) := by decide +kernel
theorem dX0_asking_20 : decode cX0_asking 20 = .ok (.istore_n 3, 1) := by decide +kernel
theorem dX0_asking_21 : decode cX0_asking 21 = .ok (.iload_n 3, 1) := by decide +kernel
theorem dX0_asking_22 : decode cX0_asking 22 = .ok (.sipush 210, 3) := by decide +kernel
theorem dX0_asking_25 : decode cX0_asking 25 = .ok (.if_icmp .ge 30, 3) := by decide +kernel
theorem dX0_asking_28 : decode cX0_asking 28 = .ok (.aload_n 0, 1) := by decide +kernel
theorem dX0_asking_29 : decode cX0_asking 29 = .ok (.iload_n 2, 1) := by decide +kernel
theorem dX0_asking_30 : decode cX0_asking 30 = .ok (.iload_n 3, 1) := by decide +kernel
theorem dX0_asking_31 : decode cX0_asking 31 = .ok (.bipush 10, 2) := by decide +kernel
theorem dX0_asking_33 : decode cX0_asking 33 = .ok (.idiv, 1) := by decide +kernel
theorem dX0_asking_34 : decode cX0_asking 34 = .ok (.iload_n 3, 1) := by decide +kernel
theorem dX0_asking_35 : decode cX0_asking 35 = .ok (.bipush 10, 2) := by decide +kernel
theorem dX0_asking_37 : decode cX0_asking 37 = .ok (.irem, 1) := by decide +kernel
theorem dX0_asking_38 : decode cX0_asking 38 = .ok (.invokevirtual 130, 3) := by decide +kernel
theorem dX0_asking_41 : decode cX0_asking 41 = .ok (.aload_n 0, 1) := by decide +kernel
theorem dX0_asking_42 : decode cX0_asking 42 = .ok (.getfield 25, 3) := by decide +kernel
theorem dX0_asking_45 : decode cX0_asking 45 = .ok (.iload_n 3, 1) := by decide +kernel
theorem dX0_asking_46 : decode cX0_asking 46 = .ok (.invokevirtual 89, 3) := by decide +kernel
theorem dX0_asking_49 : decode cX0_asking 49 = .ok (.iinc 3 1, 3) := by decide +kernel
theorem dX0_asking_52 : decode cX0_asking 52 = .ok (.goto (-31), 3) := by decide +kernel
theorem dX0_asking_55 : decode cX0_asking 55 = .ok (.aload_n 0, 1) := by decide +kernel
theorem dX0_asking_56 : decode cX0_asking 56 = .ok (.getfield 25, 3) := by decide +kernel
theorem dX0_asking_59 : decode cX0_asking 59 = .ok (.getfield 93, 3) := by decide +kernel
theorem dX0_asking_62 : decode cX0_asking 62 = .ok (.ireturn, 1) := by decide +kernel
theorem dX0_seeSleeperKinds_0 : decode cX0_seeSleeperKinds 0 = .ok (.aload_n 0, 1) := by decide +kernel
theorem dX0_seeSleeperKinds_1 : decode cX0_seeSleeperKinds 1 = .ok (.getfield 25, 3) := by decide +kernel
theorem dX0_seeSleeperKinds_4 : decode cX0_seeSleeperKinds 4 = .ok (.invokevirtual 97, 3) := by decide +kernel
theorem dX0_seeSleeperKinds_7 : decode cX0_seeSleeperKinds 7 = .ok (.iconst 0, 1) := by decide +kernel
theorem dX0_seeSleeperKinds_8 : decode cX0_seeSleeperKinds 8 = .ok (.istore 4, 2) := by decide +kernel
theorem dX0_seeSleeperKinds_10 : decode cX0_seeSleeperKinds 10 = .ok (.iload 4, 2) := by decide +kernel
theorem dX0_seeSleeperKinds_12 : decode cX0_seeSleeperKinds 12 = .ok (.bipush 6, 2) := by decide +kernel
theorem dX0_seeSleeperKinds_14 : decode cX0_seeSleeperKinds 14 = .ok (.if_icmp .ge 32, 3) := by decide +kernel
theorem dX0_seeSleeperKinds_17 : decode cX0_seeSleeperKinds 17 = .ok (.iload_n 1, 1) := by decide +kernel
theorem dX0_seeSleeperKinds_18 : decode cX0_seeSleeperKinds 18 = .ok (.iload 4, 2) := by decide +kernel
theorem dX0_seeSleeperKinds_20 : decode cX0_seeSleeperKinds 20 = .ok (.invokestatic 68, 3) := by decide +kernel
theorem dX0_seeSleeperKinds_23 : decode cX0_seeSleeperKinds 23 = .ok (.ifCond .eq 17, 3) := by decide +kernel
theorem dX0_seeSleeperKinds_26 : decode cX0_seeSleeperKinds 26 = .ok (.aload_n 0, 1) := by decide +kernel
theorem dX0_seeSleeperKinds_27 : decode cX0_seeSleeperKinds 27 = .ok (.getfield 25, 3) := by decide +kernel
theorem dX0_seeSleeperKinds_30 : decode cX0_seeSleeperKinds 30 = .ok (.iload 4, 2) := by decide +kernel
theorem dX0_seeSleeperKinds_32 : decode cX0_seeSleeperKinds 32 = .ok (.iload_n 2, 1) := by decide +kernel
theorem dX0_seeSleeperKinds_33 : decode cX0_seeSleeperKinds 33 = .ok (.iload_n 3, 1) := by decide +kernel
theorem dX0_seeSleeperKinds_34 : decode cX0_seeSleeperKinds 34 = .ok (.invokestatic 124, 3) := by decide +kernel
theorem dX0_seeSleeperKinds_37 : decode cX0_seeSleeperKinds 37 = .ok (.invokevirtual 100, 3) := by decide +kernel
theorem dX0_seeSleeperKinds_40 : decode cX0_seeSleeperKinds 40 = .ok (.iinc 4 1, 3) := by decide +kernel
theorem dX0_seeSleeperKinds_43 : decode cX0_seeSleeperKinds 43 = .ok (.goto (-33), 3) := by decide +kernel
theorem dX0_seeSleeperKinds_46 : decode cX0_seeSleeperKinds 46 = .ok (.return_, 1) := by decide +kernel
theorem dX1_init_0 : decode cX1_init 0 = .ok (.aload_n 0, 1) := by decide +kernel
theorem dX1_init_1 : decode cX1_init 1 = .ok (.invokespecial 3, 3) := by decide +kernel
theorem dX1_init_4 : decode cX1_init 4 = .ok (.aload_n 0, 1) := by decide +kernel
theorem dX1_init_5 : decode cX1_init 5 = .ok (.aload_n 1, 1) := by decide +kernel
theorem dX1_init_6 : decode cX1_init 6 = .ok (.putfield 9, 3) := by decide +kernel
theorem dX1_init_9 : decode cX1_init 9 = .ok (.aload_n 0, 1) := by decide +kernel
theorem dX1_init_10 : decode cX1_init 10 = .ok (.new 15, 3) := by decide +kernel
theorem dX1_init_13 : decode cX1_init 13 = .ok (.dup, 1) := by decide +kernel
theorem dX1_init_14 : decode cX1_init 14 = .ok (.invokespecial 17, 3) := by decide +kernel
theorem dX1_init_17 : decode cX1_init 17 = .ok (.putfield 18, 3) := by decide +kernel
theorem dX1_init_20 : decode cX1_init 20 = .ok (.aload_n 0, 1) := by decide +kernel
theorem dX1_init_21 : decode cX1_init 21 = .ok (.bipush 36, 2) := by decide +kernel
theorem dX1_init_23 : decode cX1_init 23 = .ok (.newarray .int, 2) := by decide +kernel
theorem dX1_init_25 : decode cX1_init 25 = .ok (.putfield 21, 3) := by decide +kernel
theorem dX1_init_28 : decode cX1_init 28 = .ok (.aload_n 0, 1) := by decide +kernel
theorem dX1_init_29 : decode cX1_init 29 = .ok (.bipush 64, 2) := by decide +kernel
theorem dX1_init_31 : decode cX1_init 31 = .ok (.newarray .int, 2) := by decide +kernel
theorem dX1_init_33 : decode cX1_init 33 = .ok (.putfield 25, 3) := by decide +kernel
theorem dX1_init_36 : decode cX1_init 36 = .ok (.aload_n 0, 1) := by decide +kernel
theorem dX1_init_37 : decode cX1_init 37 = .ok (.bipush 6, 2) := by decide +kernel
theorem dX1_init_39 : decode cX1_init 39 = .ok (.newarray .int, 2) := by decide +kernel
theorem dX1_init_41 : decode cX1_init 41 = .ok (.putfield 28, 3) := by decide +kernel
theorem dX1_init_44 : decode cX1_init 44 = .ok (.aload_n 0, 1) := by decide +kernel
theorem dX1_init_45 : decode cX1_init 45 = .ok (.bipush 6, 2) := by decide +kernel
theorem dX1_init_47 : decode cX1_init 47 = .ok (.newarray .int, 2) := by decide +kernel
theorem dX1_init_49 : decode cX1_init 49 = .ok (.putfield 31, 3) := by decide +kernel
theorem dX1_init_52 : decode cX1_init 52 = .ok (.return_, 1) := by decide +kernel
theorem dX1_pillowOf_0 : decode cX1_pillowOf 0 = .ok (.aload_n 0, 1) := by decide +kernel
theorem dX1_pillowOf_1 : decode cX1_pillowOf 1 = .ok (.getfield 9, 3) := by decide +kernel
theorem dX1_pillowOf_4 : decode cX1_pillowOf 4 = .ok (.getfield 34, 3) := by decide +kernel
theorem dX1_pillowOf_7 : decode cX1_pillowOf 7 = .ok (.iload_n 1, 1) := by decide +kernel
theorem dX1_pillowOf_8 : decode cX1_pillowOf 8 = .ok (.iconst 1, 1) := by decide +kernel
theorem dX1_pillowOf_9 : decode cX1_pillowOf 9 = .ok (.invokevirtual 38, 3) := by decide +kernel
theorem dX1_pillowOf_12 : decode cX1_pillowOf 12 = .ok (.ireturn, 1) := by decide +kernel
theorem dX1_believedTonight_0 : decode cX1_believedTonight 0 = .ok (.aload_n 0, 1) := by decide +kernel
theorem dX1_believedTonight_1 : decode cX1_believedTonight 1 = .ok (.getfield 9, 3) := by decide +kernel
theorem dX1_believedTonight_4 : decode cX1_believedTonight 4 = .ok (.aload_n 0, 1) := by decide +kernel
theorem dX1_believedTonight_5 : decode cX1_believedTonight 5 = .ok (.iload_n 1, 1) := by decide +kernel
theorem dX1_believedTonight_6 : decode cX1_believedTonight 6 = .ok (.invokevirtual 44, 3) := by decide +kernel
theorem dX1_believedTonight_9 : decode cX1_believedTonight 9 = .ok (.iload_n 1, 1) := by decide +kernel
theorem dX1_believedTonight_10 : decode cX1_believedTonight 10 = .ok (.iconst (-1), 1) := by decide +kernel
theorem dX1_believedTonight_11 : decode cX1_believedTonight 11 = .ok (.aload_n 0, 1) := by decide +kernel
theorem dX1_believedTonight_12 : decode cX1_believedTonight 12 = .ok (.getfield 9, 3) := by decide +kernel
theorem dX1_believedTonight_15 : decode cX1_believedTonight 15 = .ok (.getfield 48, 3) := by decide +kernel
theorem dX1_believedTonight_18 : decode cX1_believedTonight 18 = .ok (.invokevirtual 52, 3) := by decide +kernel
theorem dX1_believedTonight_21 : decode cX1_believedTonight 21 = .ok (.ireturn, 1) := by decide +kernel
theorem dX1_mindBehind_0 : decode cX1_mindBehind 0 = .ok (.aload_n 0, 1) := by decide +kernel
theorem dX1_mindBehind_1 : decode cX1_mindBehind 1 = .ok (.getfield 9, 3) := by decide +kernel
theorem dX1_mindBehind_4 : decode cX1_mindBehind 4 = .ok (.getfield 34, 3) := by decide +kernel
theorem dX1_mindBehind_7 : decode cX1_mindBehind 7 = .ok (.iload_n 1, 1) := by decide +kernel
theorem dX1_mindBehind_8 : decode cX1_mindBehind 8 = .ok (.iconst 3, 1) := by decide +kernel
theorem dX1_mindBehind_9 : decode cX1_mindBehind 9 = .ok (.invokevirtual 38, 3) := by decide +kernel
theorem dX1_mindBehind_12 : decode cX1_mindBehind 12 = .ok (.istore_n 3, 1) := by decide +kernel
theorem dX1_mindBehind_13 : decode cX1_mindBehind 13 = .ok (.iconst 0, 1) := by decide +kernel
theorem dX1_mindBehind_14 : decode cX1_mindBehind 14 = .ok (.istore 4, 2) := by decide +kernel
theorem dX1_mindBehind_16 : decode cX1_mindBehind 16 = .ok (.iload 4, 2) := by decide +kernel
theorem dX1_mindBehind_18 : decode cX1_mindBehind 18 = .ok (.iload_n 2, 1) := by decide +kernel
theorem dX1_mindBehind_19 : decode cX1_mindBehind 19 = .ok (.if_icmp .ge 36, 3) := by decide +kernel
theorem dX1_mindBehind_22 : decode cX1_mindBehind 22 = .ok (.iload_n 3, 1) := by decide +kernel
theorem dX1_mindBehind_23 : decode cX1_mindBehind 23 = .ok (.aload_n 0, 1) := by decide +kernel
theorem dX1_mindBehind_24 : decode cX1_mindBehind 24 = .ok (.getfield 9, 3) := by decide +kernel
theorem dX1_mindBehind_27 : decode cX1_mindBehind 27 = .ok (.aload_n 0, 1) := by decide +kernel
theorem dX1_mindBehind_28 : decode cX1_mindBehind 28 = .ok (.iload_n 1, 1) := by decide +kernel
theorem dX1_mindBehind_29 : decode cX1_mindBehind 29 = .ok (.invokevirtual 44, 3) := by decide +kernel
theorem dX1_mindBehind_32 : decode cX1_mindBehind 32 = .ok (.iload_n 1, 1) := by decide +kernel
theorem dX1_mindBehind_33 : decode cX1_mindBehind 33 = .ok (.iconst (-1), 1) := by decide +kernel
theorem dX1_mindBehind_34 : decode cX1_mindBehind 34 = .ok (.aload_n 0, 1) := by decide +kernel
theorem dX1_mindBehind_35 : decode cX1_mindBehind 35 = .ok (.getfield 9, 3) := by decide +kernel
theorem dX1_mindBehind_38 : decode cX1_mindBehind 38 = .ok (.getfield 48, 3) := by decide +kernel
theorem dX1_mindBehind_41 : decode cX1_mindBehind 41 = .ok (.iload 4, 2) := by decide +kernel
theorem dX1_mindBehind_43 : decode cX1_mindBehind 43 = .ok (.iadd, 1) := by decide +kernel
theorem dX1_mindBehind_44 : decode cX1_mindBehind 44 = .ok (.invokevirtual 52, 3) := by decide +kernel
theorem dX1_mindBehind_47 : decode cX1_mindBehind 47 = .ok (.iadd, 1) := by decide +kernel
theorem dX1_mindBehind_48 : decode cX1_mindBehind 48 = .ok (.istore_n 3, 1) := by decide +kernel
theorem dX1_mindBehind_49 : decode cX1_mindBehind 49 = .ok (.iinc 4 1, 3) := by decide +kernel
theorem dX1_mindBehind_52 : decode cX1_mindBehind 52 = .ok (.goto (-36), 3) := by decide +kernel
theorem dX1_mindBehind_55 : decode cX1_mindBehind 55 = .ok (.sipush 999, 3) := by decide +kernel
theorem dX1_mindBehind_58 : decode cX1_mindBehind 58 = .ok (.iload_n 3, 1) := by decide +kernel
theorem dX1_mindBehind_59 : decode cX1_mindBehind 59 = .ok (.invokestatic 56, 3) := by decide +kernel
theorem dX1_mindBehind_62 : decode cX1_mindBehind 62 = .ok (.ireturn, 1) := by decide +kernel
theorem dX1_nightsTillDone_0 : decode cX1_nightsTillDone 0 = .ok (.aload_n 0, 1) := by decide +kernel
theorem dX1_nightsTillDone_1 : decode cX1_nightsTillDone 1 = .ok (.getfield 9, 3) := by decide +kernel
theorem dX1_nightsTillDone_4 : decode cX1_nightsTillDone 4 = .ok (.getfield 34, 3) := by decide +kernel
theorem dX1_nightsTillDone_7 : decode cX1_nightsTillDone 7 = .ok (.iload_n 1, 1) := by decide +kernel
theorem dX1_nightsTillDone_8 : decode cX1_nightsTillDone 8 = .ok (.iconst 3, 1) := by decide +kernel
theorem dX1_nightsTillDone_9 : decode cX1_nightsTillDone 9 = .ok (.invokevirtual 38, 3) := by decide +kernel
theorem dX1_nightsTillDone_12 : decode cX1_nightsTillDone 12 = .ok (.istore_n 3, 1) := by decide +kernel
theorem dX1_nightsTillDone_13 : decode cX1_nightsTillDone 13 = .ok (.iconst 0, 1) := by decide +kernel
theorem dX1_nightsTillDone_14 : decode cX1_nightsTillDone 14 = .ok (.istore 4, 2) := by decide +kernel
theorem dX1_nightsTillDone_16 : decode cX1_nightsTillDone 16 = .ok (.iload 4, 2) := by decide +kernel
theorem dX1_nightsTillDone_18 : decode cX1_nightsTillDone 18 = .ok (.bipush 60, 2) := by decide +kernel
theorem dX1_nightsTillDone_20 : decode cX1_nightsTillDone 20 = .ok (.if_icmp .gt 45, 3) := by decide +kernel
theorem dX1_nightsTillDone_23 : decode cX1_nightsTillDone 23 = .ok (.iload_n 3, 1) := by decide +kernel
theorem dX1_nightsTillDone_24 : decode cX1_nightsTillDone 24 = .ok (.bipush 20, 2) := by decide +kernel
theorem dX1_nightsTillDone_26 : decode cX1_nightsTillDone 26 = .ok (.if_icmp .lt 6, 3) := by decide +kernel
theorem dX1_nightsTillDone_29 : decode cX1_nightsTillDone 29 = .ok (.iload 4, 2) := by decide +kernel
theorem dX1_nightsTillDone_31 : decode cX1_nightsTillDone 31 = .ok (.ireturn, 1) := by decide +kernel
theorem dX1_nightsTillDone_32 : decode cX1_nightsTillDone 32 = .ok (.iload_n 3, 1) := by decide +kernel
theorem dX1_nightsTillDone_33 : decode cX1_nightsTillDone 33 = .ok (.aload_n 0, 1) := by decide +kernel
theorem dX1_nightsTillDone_34 : decode cX1_nightsTillDone 34 = .ok (.getfield 9, 3) := by decide +kernel
theorem dX1_nightsTillDone_37 : decode cX1_nightsTillDone 37 = .ok (.aload_n 0, 1) := by decide +kernel
theorem dX1_nightsTillDone_38 : decode cX1_nightsTillDone 38 = .ok (.iload_n 1, 1) := by decide +kernel
theorem dX1_nightsTillDone_39 : decode cX1_nightsTillDone 39 = .ok (.invokevirtual 44, 3) := by decide +kernel
theorem dX1_nightsTillDone_42 : decode cX1_nightsTillDone 42 = .ok (.iload_n 1, 1) := by decide +kernel
theorem dX1_nightsTillDone_43 : decode cX1_nightsTillDone 43 = .ok (.iload_n 2, 1) := by decide +kernel
theorem dX1_nightsTillDone_44 : decode cX1_nightsTillDone 44 = .ok (.aload_n 0, 1) := by decide +kernel
theorem dX1_nightsTillDone_45 : decode cX1_nightsTillDone 45 = .ok (.getfield 9, 3) := by decide +kernel
theorem dX1_nightsTillDone_48 : decode cX1_nightsTillDone 48 = .ok (.getfield 48, 3) := by decide +kernel
theorem dX1_nightsTillDone_51 : decode cX1_nightsTillDone 51 = .ok (.iload 4, 2) := by decide +kernel
theorem dX1_nightsTillDone_53 : decode cX1_nightsTillDone 53 = .ok (.iadd, 1) := by decide +kernel
theorem dX1_nightsTillDone_54 : decode cX1_nightsTillDone 54 = .ok (.invokevirtual 52, 3) := by decide +kernel
theorem dX1_nightsTillDone_57 : decode cX1_nightsTillDone 57 = .ok (.iadd, 1) := by decide +kernel
theorem dX1_nightsTillDone_58 : decode cX1_nightsTillDone 58 = .ok (.istore_n 3, 1) := by decide +kernel
theorem dX1_nightsTillDone_59 : decode cX1_nightsTillDone 59 = .ok (.iinc 4 1, 3) := by decide +kernel
theorem dX1_nightsTillDone_62 : decode cX1_nightsTillDone 62 = .ok (.goto (-46), 3) := by decide +kernel
theorem dX1_nightsTillDone_65 : decode cX1_nightsTillDone 65 = .ok (.iconst (-1), 1) := by decide +kernel
theorem dX1_nightsTillDone_66 : decode cX1_nightsTillDone 66 = .ok (.ireturn, 1) := by decide +kernel
theorem dX1_soonestFlower_0 : decode cX1_soonestFlower 0 = .ok (.iconst (-1), 1) := by decide +kernel
theorem dX1_soonestFlower_1 : decode cX1_soonestFlower 1 = .ok (.istore_n 2, 1) := by decide +kernel
theorem dX1_soonestFlower_2 : decode cX1_soonestFlower 2 = .ok (.bipush 61, 2) := by decide +kernel
theorem dX1_soonestFlower_4 : decode cX1_soonestFlower 4 = .ok (.istore_n 3, 1) := by decide +kernel
theorem dX1_soonestFlower_5 : decode cX1_soonestFlower 5 = .ok (.iconst 0, 1) := by decide +kernel
theorem dX1_soonestFlower_6 : decode cX1_soonestFlower 6 = .ok (.istore 4, 2) := by decide +kernel
theorem dX1_soonestFlower_8 : decode cX1_soonestFlower 8 = .ok (.iload 4, 2) := by decide +kernel
theorem dX1_soonestFlower_10 : decode cX1_soonestFlower 10 = .ok (.aload_n 0, 1) := by decide +kernel
theorem dX1_soonestFlower_11 : decode cX1_soonestFlower 11 = .ok (.getfield 9, 3) := by decide +kernel
theorem dX1_soonestFlower_14 : decode cX1_soonestFlower 14 = .ok (.getfield 61, 3) := by decide +kernel
theorem dX1_soonestFlower_17 : decode cX1_soonestFlower 17 = .ok (.invokevirtual 64, 3) := by decide +kernel
theorem dX1_soonestFlower_20 : decode cX1_soonestFlower 20 = .ok (.if_icmp .ge 36, 3) := by decide +kernel
theorem dX1_soonestFlower_23 : decode cX1_soonestFlower 23 = .ok (.aload_n 0, 1) := by decide +kernel
theorem dX1_soonestFlower_24 : decode cX1_soonestFlower 24 = .ok (.iload_n 1, 1) := by decide +kernel
theorem dX1_soonestFlower_25 : decode cX1_soonestFlower 25 = .ok (.iload 4, 2) := by decide +kernel
theorem dX1_soonestFlower_27 : decode cX1_soonestFlower 27 = .ok (.invokevirtual 68, 3) := by decide +kernel
theorem dX1_soonestFlower_30 : decode cX1_soonestFlower 30 = .ok (.istore 5, 2) := by decide +kernel
theorem dX1_soonestFlower_32 : decode cX1_soonestFlower 32 = .ok (.iload 5, 2) := by decide +kernel
theorem dX1_soonestFlower_34 : decode cX1_soonestFlower 34 = .ok (.iconst (-1), 1) := by decide +kernel
theorem dX1_soonestFlower_35 : decode cX1_soonestFlower 35 = .ok (.if_icmp .eq 15, 3) := by decide +kernel
theorem dX1_soonestFlower_38 : decode cX1_soonestFlower 38 = .ok (.iload 5, 2) := by decide +kernel
theorem dX1_soonestFlower_40 : decode cX1_soonestFlower 40 = .ok (.iload_n 3, 1) := by decide +kernel
theorem dX1_soonestFlower_41 : decode cX1_soonestFlower 41 = .ok (.if_icmp .ge 9, 3) := by decide +kernel
theorem dX1_soonestFlower_44 : decode cX1_soonestFlower 44 = .ok (.iload 5, 2) := by decide +kernel
theorem dX1_soonestFlower_46 : decode cX1_soonestFlower 46 = .ok (.istore_n 3, 1) := by decide +kernel
theorem dX1_soonestFlower_47 : decode cX1_soonestFlower 47 = .ok (.iload 4, 2) := by decide +kernel
theorem dX1_soonestFlower_49 : decode cX1_soonestFlower 49 = .ok (.istore_n 2, 1) := by decide +kernel
theorem dX1_soonestFlower_50 : decode cX1_soonestFlower 50 = .ok (.iinc 4 1, 3) := by decide +kernel
theorem dX1_soonestFlower_53 : decode cX1_soonestFlower 53 = .ok (.goto (-45), 3) := by decide +kernel
theorem dX1_soonestFlower_56 : decode cX1_soonestFlower 56 = .ok (.iload_n 2, 1) := by decide +kernel
theorem dX1_soonestFlower_57 : decode cX1_soonestFlower 57 = .ok (.ireturn, 1) := by decide +kernel
theorem dX1_leastWool_0 : decode cX1_leastWool 0 = .ok (.iconst 0, 1) := by decide +kernel
theorem dX1_leastWool_1 : decode cX1_leastWool 1 = .ok (.istore_n 2, 1) := by decide +kernel
theorem dX1_leastWool_2 : decode cX1_leastWool 2 = .ok (.iload_n 2, 1) := by decide +kernel
theorem dX1_leastWool_3 : decode cX1_leastWool 3 = .ok (.bipush 9, 2) := by decide +kernel
theorem dX1_leastWool_5 : decode cX1_leastWool 5 = .ok (.if_icmp .gt 20, 3) := by decide +kernel
theorem dX1_leastWool_8 : decode cX1_leastWool 8 = .ok (.aload_n 0, 1) := by decide +kernel
theorem dX1_leastWool_9 : decode cX1_leastWool 9 = .ok (.iload_n 1, 1) := by decide +kernel
theorem dX1_leastWool_10 : decode cX1_leastWool 10 = .ok (.iload_n 2, 1) := by decide +kernel
theorem dX1_leastWool_11 : decode cX1_leastWool 11 = .ok (.invokevirtual 71, 3) := by decide +kernel
theorem dX1_leastWool_14 : decode cX1_leastWool 14 = .ok (.ifCond .eq 5, 3) := by decide +kernel
theorem dX1_leastWool_17 : decode cX1_leastWool 17 = .ok (.iload_n 2, 1) := by decide +kernel
theorem dX1_leastWool_18 : decode cX1_leastWool 18 = .ok (.ireturn, 1) := by decide +kernel
theorem dX1_leastWool_19 : decode cX1_leastWool 19 = .ok (.iinc 2 1, 3) := by decide +kernel
theorem dX1_leastWool_22 : decode cX1_leastWool 22 = .ok (.goto (-20), 3) := by decide +kernel
theorem dX1_leastWool_25 : decode cX1_leastWool 25 = .ok (.iconst (-1), 1) := by decide +kernel
theorem dX1_leastWool_26 : decode cX1_leastWool 26 = .ok (.ireturn, 1) := by decide +kernel
theorem dX1_believesNothingWith_0 : decode cX1_believesNothingWith 0 = .ok (.aload_n 0, 1) := by decide +kernel
theorem dX1_believesNothingWith_1 : decode cX1_believesNothingWith 1 = .ok (.getfield 9, 3) := by decide +kernel
theorem dX1_believesNothingWith_4 : decode cX1_believesNothingWith 4 = .ok (.getfield 34, 3) := by decide +kernel
theorem dX1_believesNothingWith_7 : decode cX1_believesNothingWith 7 = .ok (.iload_n 1, 1) := by decide +kernel
theorem dX1_believesNothingWith_8 : decode cX1_believesNothingWith 8 = .ok (.iconst 0, 1) := by decide +kernel
theorem dX1_believesNothingWith_9 : decode cX1_believesNothingWith 9 = .ok (.invokevirtual 38, 3) := by decide +kernel
theorem dX1_believesNothingWith_12 : decode cX1_believesNothingWith 12 = .ok (.istore_n 3, 1) := by decide +kernel
theorem dX1_believesNothingWith_13 : decode cX1_believesNothingWith 13 = .ok (.iconst 0, 1) := by decide +kernel
theorem dX1_believesNothingWith_14 : decode cX1_believesNothingWith 14 = .ok (.istore 4, 2) := by decide +kernel
theorem dX1_believesNothingWith_16 : decode cX1_believesNothingWith 16 = .ok (.iload 4, 2) := by decide +kernel
theorem dX1_believesNothingWith_18 : decode cX1_believesNothingWith 18 = .ok (.aload_n 0, 1) := by decide +kernel
theorem dX1_believesNothingWith_19 : decode cX1_believesNothingWith 19 = .ok (.getfield 9, 3) := by decide +kernel
theorem dX1_believesNothingWith_22 : decode cX1_believesNothingWith 22 = .ok (.getfield 61, 3) := by decide +kernel
theorem dX1_believesNothingWith_25 : decode cX1_believesNothingWith 25 = .ok (.invokevirtual 64, 3) := by decide +kernel
theorem dX1_believesNothingWith_28 : decode cX1_believesNothingWith 28 = .ok (.if_icmp .ge 68, 3) := by decide +kernel
theorem dX1_believesNothingWith_31 : decode cX1_believesNothingWith 31 = .ok (.aload_n 0, 1) := by decide +kernel
theorem dX1_believesNothingWith_32 : decode cX1_believesNothingWith 32 = .ok (.getfield 9, 3) := by decide +kernel
theorem dX1_believesNothingWith_35 : decode cX1_believesNothingWith 35 = .ok (.getfield 61, 3) := by decide +kernel
theorem dX1_believesNothingWith_38 : decode cX1_believesNothingWith 38 = .ok (.iload 4, 2) := by decide +kernel
theorem dX1_believesNothingWith_40 : decode cX1_believesNothingWith 40 = .ok (.iconst 2, 1) := by decide +kernel
theorem dX1_believesNothingWith_41 : decode cX1_believesNothingWith 41 = .ok (.invokevirtual 38, 3) := by decide +kernel
theorem dX1_believesNothingWith_44 : decode cX1_believesNothingWith 44 = .ok (.aload_n 0, 1) := by decide +kernel
theorem dX1_believesNothingWith_45 : decode cX1_believesNothingWith 45 = .ok (.iload_n 1, 1) := by decide +kernel
theorem dX1_believesNothingWith_46 : decode cX1_believesNothingWith 46 = .ok (.invokevirtual 44, 3) := by decide +kernel
theorem dX1_believesNothingWith_49 : decode cX1_believesNothingWith 49 = .ok (.if_icmp .ne 7, 3) := by decide +kernel
theorem dX1_believesNothingWith_52 : decode cX1_believesNothingWith 52 = .ok (.iconst 1, 1) := by decide +kernel
theorem dX1_believesNothingWith_53 : decode cX1_believesNothingWith 53 = .ok (.goto 4, 3) := by decide +kernel
theorem dX1_believesNothingWith_56 : decode cX1_believesNothingWith 56 = .ok (.iconst 0, 1) := by decide +kernel
theorem dX1_believesNothingWith_57 : decode cX1_believesNothingWith 57 = .ok (.istore 5, 2) := by decide +kernel
theorem dX1_believesNothingWith_59 : decode cX1_believesNothingWith 59 = .ok (.iload 5, 2) := by decide +kernel
theorem dX1_believesNothingWith_61 : decode cX1_believesNothingWith 61 = .ok (.ifCond .eq 29, 3) := by decide +kernel
theorem dX1_believesNothingWith_64 : decode cX1_believesNothingWith 64 = .ok (.iload_n 3, 1) := by decide +kernel
theorem dX1_believesNothingWith_65 : decode cX1_believesNothingWith 65 = .ok (.aload_n 0, 1) := by decide +kernel
theorem dX1_believesNothingWith_66 : decode cX1_believesNothingWith 66 = .ok (.getfield 9, 3) := by decide +kernel
theorem dX1_believesNothingWith_69 : decode cX1_believesNothingWith 69 = .ok (.iload 4, 2) := by decide +kernel
theorem dX1_believesNothingWith_71 : decode cX1_believesNothingWith 71 = .ok (.aload_n 0, 1) := by decide +kernel
theorem dX1_believesNothingWith_72 : decode cX1_believesNothingWith 72 = .ok (.getfield 9, 3) := by decide +kernel
theorem dX1_believesNothingWith_75 : decode cX1_believesNothingWith 75 = .ok (.getfield 48, 3) := by decide +kernel
theorem dX1_believesNothingWith_78 : decode cX1_believesNothingWith 78 = .ok (.invokevirtual 75, 3) := by decide +kernel
theorem dX1_believesNothingWith_81 : decode cX1_believesNothingWith 81 = .ok (.iload_n 2, 1) := by decide +kernel
theorem dX1_believesNothingWith_82 : decode cX1_believesNothingWith 82 = .ok (.invokestatic 78, 3) := by decide +kernel
theorem dX1_believesNothingWith_85 : decode cX1_believesNothingWith 85 = .ok (.ifCond .eq 5, 3) := by decide +kernel
theorem dX1_believesNothingWith_88 : decode cX1_believesNothingWith 88 = .ok (.iconst 0, 1) := by decide +kernel
theorem dX1_believesNothingWith_89 : decode cX1_believesNothingWith 89 = .ok (.ireturn, 1) := by decide +kernel
theorem dX1_believesNothingWith_90 : decode cX1_believesNothingWith 90 = .ok (.iinc 4 1, 3) := by decide +kernel
theorem dX1_believesNothingWith_93 : decode cX1_believesNothingWith 93 = .ok (.goto (-77), 3) := by decide +kernel
theorem dX1_believesNothingWith_96 : decode cX1_believesNothingWith 96 = .ok (.iconst 1, 1) := by decide +kernel
theorem dX1_believesNothingWith_97 : decode cX1_believesNothingWith 97 = .ok (.ireturn, 1) := by decide +kernel
theorem dX1_bestPlacing_0 : decode cX1_bestPlacing 0 = .ok (.aload_n 0, 1) := by decide +kernel
theorem dX1_bestPlacing_1 : decode cX1_bestPlacing 1 = .ok (.invokevirtual 82, 3) := by decide +kernel
theorem dX1_bestPlacing_4 : decode cX1_bestPlacing 4 = .ok (.bipush 63, 2) := by decide +kernel
theorem dX1_bestPlacing_6 : decode cX1_bestPlacing 6 = .ok (.istore_n 3, 1) := by decide +kernel
theorem dX1_bestPlacing_7 : decode cX1_bestPlacing 7 = .ok (.iload_n 3, 1) := by decide +kernel
theorem dX1_bestPlacing_8 : decode cX1_bestPlacing 8 = .ok (.ifCond .lt 23, 3) := by decide +kernel
theorem dX1_bestPlacing_11 : decode cX1_bestPlacing 11 = .ok (.aload_n 0, 1) := by decide +kernel
theorem dX1_bestPlacing_12 : decode cX1_bestPlacing 12 = .ok (.getfield 25, 3) := by decide +kernel
theorem dX1_bestPlacing_15 : decode cX1_bestPlacing 15 = .ok (.iload_n 3, 1) := by decide +kernel
theorem dX1_bestPlacing_16 : decode cX1_bestPlacing 16 = .ok (.aload_n 0, 1) := by decide +kernel
theorem dX1_bestPlacing_17 : decode cX1_bestPlacing 17 = .ok (.iload_n 3, 1) := by decide +kernel
theorem dX1_bestPlacing_18 : decode cX1_bestPlacing 18 = .ok (.iload_n 1, 1) := by decide +kernel
theorem dX1_bestPlacing_19 : decode cX1_bestPlacing 19 = .ok (.invokevirtual 85, 3) := by decide +kernel
theorem dX1_bestPlacing_22 : decode cX1_bestPlacing 22 = .ok (.invokestatic 89, 3) := by decide +kernel
theorem dX1_bestPlacing_25 : decode cX1_bestPlacing 25 = .ok (.iinc 3 (-1), 3) := by decide +kernel
theorem dX1_bestPlacing_28 : decode cX1_bestPlacing 28 = .ok (.goto (-21), 3) := by decide +kernel
theorem dX1_bestPlacing_31 : decode cX1_bestPlacing 31 = .ok (.iload_n 2, 1) := by decide +kernel
theorem dX1_bestPlacing_32 : decode cX1_bestPlacing 32 = .ok (.iconst (-1), 1) := by decide +kernel
theorem dX1_bestPlacing_33 : decode cX1_bestPlacing 33 = .ok (.if_icmp .ne 14, 3) := by decide +kernel
theorem dX1_bestPlacing_36 : decode cX1_bestPlacing 36 = .ok (.aload_n 0, 1) := by decide +kernel
theorem dX1_bestPlacing_37 : decode cX1_bestPlacing 37 = .ok (.getfield 25, 3) := by decide +kernel
theorem dX1_bestPlacing_40 : decode cX1_bestPlacing 40 = .ok (.iconst 0, 1) := by decide +kernel
theorem dX1_bestPlacing_41 : decode cX1_bestPlacing 41 = .ok (.invokestatic 93, 3) := by decide +kernel
theorem dX1_bestPlacing_44 : decode cX1_bestPlacing 44 = .ok (.goto 8, 3) := by decide +kernel
theorem dX1_bestPlacing_47 : decode cX1_bestPlacing 47 = .ok (.aload_n 0, 1) := by decide +kernel
theorem dX1_bestPlacing_48 : decode cX1_bestPlacing 48 = .ok (.iload_n 2, 1) := by decide +kernel
theorem dX1_bestPlacing_49 : decode cX1_bestPlacing 49 = .ok (.invokevirtual 97, 3) := by decide +kernel
theorem dX1_bestPlacing_52 : decode cX1_bestPlacing 52 = .ok (.ireturn, 1) := by decide +kernel
theorem dX1_fillGains_0 : decode cX1_fillGains 0 = .ok (.iconst 0, 1) := by decide +kernel
theorem dX1_fillGains_1 : decode cX1_fillGains 1 = .ok (.istore_n 1, 1) := by decide +kernel
theorem dX1_fillGains_2 : decode cX1_fillGains 2 = .ok (.iload_n 1, 1) := by decide +kernel
theorem dX1_fillGains_3 : decode cX1_fillGains 3 = .ok (.aload_n 0, 1) := by decide +kernel
theorem dX1_fillGains_4 : decode cX1_fillGains 4 = .ok (.getfield 9, 3) := by decide +kernel
theorem dX1_fillGains_7 : decode cX1_fillGains 7 = .ok (.getfield 34, 3) := by decide +kernel
theorem dX1_fillGains_10 : decode cX1_fillGains 10 = .ok (.invokevirtual 64, 3) := by decide +kernel
theorem dX1_fillGains_13 : decode cX1_fillGains 13 = .ok (.if_icmp .ge 53, 3) := by decide +kernel
theorem dX1_fillGains_16 : decode cX1_fillGains 16 = .ok (.iconst 0, 1) := by decide +kernel
theorem dX1_fillGains_17 : decode cX1_fillGains 17 = .ok (.istore_n 2, 1) := by decide +kernel
theorem dX1_fillGains_18 : decode cX1_fillGains 18 = .ok (.iload_n 2, 1) := by decide +kernel
theorem dX1_fillGains_19 : decode cX1_fillGains 19 = .ok (.bipush 6, 2) := by decide +kernel
theorem dX1_fillGains_21 : decode cX1_fillGains 21 = .ok (.if_icmp .ge 39, 3) := by decide +kernel
theorem dX1_fillGains_24 : decode cX1_fillGains 24 = .ok (.aload_n 0, 1) := by decide +kernel
theorem dX1_fillGains_25 : decode cX1_fillGains 25 = .ok (.getfield 21, 3) := by decide +kernel
theorem dX1_fillGains_28 : decode cX1_fillGains 28 = .ok (.iload_n 1, 1) := by decide +kernel
theorem dX1_fillGains_29 : decode cX1_fillGains 29 = .ok (.bipush 6, 2) := by decide +kernel
theorem dX1_fillGains_31 : decode cX1_fillGains 31 = .ok (.imul, 1) := by decide +kernel
theorem dX1_fillGains_32 : decode cX1_fillGains 32 = .ok (.iload_n 2, 1) := by decide +kernel
theorem dX1_fillGains_33 : decode cX1_fillGains 33 = .ok (.iadd, 1) := by decide +kernel
theorem dX1_fillGains_34 : decode cX1_fillGains 34 = .ok (.aload_n 0, 1) := by decide +kernel
theorem dX1_fillGains_35 : decode cX1_fillGains 35 = .ok (.getfield 9, 3) := by decide +kernel
theorem dX1_fillGains_38 : decode cX1_fillGains 38 = .ok (.iload_n 2, 1) := by decide +kernel
theorem dX1_fillGains_39 : decode cX1_fillGains 39 = .ok (.iload_n 1, 1) := by decide +kernel
theorem dX1_fillGains_40 : decode cX1_fillGains 40 = .ok (.iconst (-1), 1) := by decide +kernel
theorem dX1_fillGains_41 : decode cX1_fillGains 41 = .ok (.aload_n 0, 1) := by decide +kernel
theorem dX1_fillGains_42 : decode cX1_fillGains 42 = .ok (.getfield 9, 3) := by decide +kernel
theorem dX1_fillGains_45 : decode cX1_fillGains 45 = .ok (.getfield 48, 3) := by decide +kernel
theorem dX1_fillGains_48 : decode cX1_fillGains 48 = .ok (.invokevirtual 52, 3) := by decide +kernel
theorem dX1_fillGains_51 : decode cX1_fillGains 51 = .ok (.invokestatic 89, 3) := by decide +kernel
theorem dX1_fillGains_54 : decode cX1_fillGains 54 = .ok (.iinc 2 1, 3) := by decide +kernel
theorem dX1_fillGains_57 : decode cX1_fillGains 57 = .ok (.goto (-39), 3) := by decide +kernel
theorem dX1_fillGains_60 : decode cX1_fillGains 60 = .ok (.iinc 1 1, 3) := by decide +kernel
theorem dX1_fillGains_63 : decode cX1_fillGains 63 = .ok (.goto (-61), 3) := by decide +kernel
theorem dX1_fillGains_66 : decode cX1_fillGains 66 = .ok (.return_, 1) := by decide +kernel
theorem dX1_addedOn_0 : decode cX1_addedOn 0 = .ok (.iload_n 1, 1) := by decide +kernel
theorem dX1_addedOn_1 : decode cX1_addedOn 1 = .ok (.invokestatic 100, 3) := by decide +kernel
theorem dX1_addedOn_4 : decode cX1_addedOn 4 = .ok (.istore_n 3, 1) := by decide +kernel
theorem dX1_addedOn_5 : decode cX1_addedOn 5 = .ok (.aload_n 0, 1) := by decide +kernel
theorem dX1_addedOn_6 : decode cX1_addedOn 6 = .ok (.getfield 21, 3) := by decide +kernel
theorem dX1_addedOn_9 : decode cX1_addedOn 9 = .ok (.iload_n 3, 1) := by decide +kernel
theorem dX1_addedOn_10 : decode cX1_addedOn 10 = .ok (.bipush 6, 2) := by decide +kernel
theorem dX1_addedOn_12 : decode cX1_addedOn 12 = .ok (.imul, 1) := by decide +kernel
theorem dX1_addedOn_13 : decode cX1_addedOn 13 = .ok (.iload_n 2, 1) := by decide +kernel
theorem dX1_addedOn_14 : decode cX1_addedOn 14 = .ok (.iadd, 1) := by decide +kernel
theorem dX1_addedOn_15 : decode cX1_addedOn 15 = .ok (.invokestatic 93, 3) := by decide +kernel
theorem dX1_addedOn_18 : decode cX1_addedOn 18 = .ok (.aload_n 0, 1) := by decide +kernel
theorem dX1_addedOn_19 : decode cX1_addedOn 19 = .ok (.getfield 25, 3) := by decide +kernel
theorem dX1_addedOn_22 : decode cX1_addedOn 22 = .ok (.iload_n 1, 1) := by decide +kernel
theorem dX1_addedOn_23 : decode cX1_addedOn 23 = .ok (.iconst 1, 1) := by decide +kernel
theorem dX1_addedOn_24 : decode cX1_addedOn 24 = .ok (.iload_n 2, 1) := by decide +kernel
theorem dX1_addedOn_25 : decode cX1_addedOn 25 = .ok (.ishl, 1) := by decide +kernel
theorem dX1_addedOn_26 : decode cX1_addedOn 26 = .ok (.ior, 1) := by decide +kernel
theorem dX1_addedOn_27 : decode cX1_addedOn 27 = .ok (.invokestatic 93, 3) := by decide +kernel
theorem dX1_addedOn_30 : decode cX1_addedOn 30 = .ok (.iadd, 1) := by decide +kernel
theorem dX1_addedOn_31 : decode cX1_addedOn 31 = .ok (.ireturn, 1) := by decide +kernel
theorem dX1_bestAdded_0 : decode cX1_bestAdded 0 = .ok (.iload_n 1, 1) := by decide +kernel
theorem dX1_bestAdded_1 : decode cX1_bestAdded 1 = .ok (.invokestatic 100, 3) := by decide +kernel
theorem dX1_bestAdded_4 : decode cX1_bestAdded 4 = .ok (.aload_n 0, 1) := by decide +kernel
theorem dX1_bestAdded_5 : decode cX1_bestAdded 5 = .ok (.getfield 9, 3) := by decide +kernel
theorem dX1_bestAdded_8 : decode cX1_bestAdded 8 = .ok (.getfield 34, 3) := by decide +kernel
theorem dX1_bestAdded_11 : decode cX1_bestAdded 11 = .ok (.invokevirtual 64, 3) := by decide +kernel
theorem dX1_bestAdded_14 : decode cX1_bestAdded 14 = .ok (.if_icmp .lt 5, 3) := by decide +kernel
theorem dX1_bestAdded_17 : decode cX1_bestAdded 17 = .ok (.iconst 0, 1) := by decide +kernel
theorem dX1_bestAdded_18 : decode cX1_bestAdded 18 = .ok (.ireturn, 1) := by decide +kernel
theorem dX1_bestAdded_19 : decode cX1_bestAdded 19 = .ok (.iconst 0, 1) := by decide +kernel
theorem dX1_bestAdded_20 : decode cX1_bestAdded 20 = .ok (.istore_n 3, 1) := by decide +kernel
theorem dX1_bestAdded_21 : decode cX1_bestAdded 21 = .ok (.iconst 0, 1) := by decide +kernel
theorem dX1_bestAdded_22 : decode cX1_bestAdded 22 = .ok (.istore 4, 2) := by decide +kernel
theorem dX1_bestAdded_24 : decode cX1_bestAdded 24 = .ok (.iconst 0, 1) := by decide +kernel
theorem dX1_bestAdded_25 : decode cX1_bestAdded 25 = .ok (.istore 5, 2) := by decide +kernel
theorem dX1_bestAdded_27 : decode cX1_bestAdded 27 = .ok (.iload 5, 2) := by decide +kernel
theorem dX1_bestAdded_29 : decode cX1_bestAdded 29 = .ok (.bipush 6, 2) := by decide +kernel
theorem dX1_bestAdded_31 : decode cX1_bestAdded 31 = .ok (.if_icmp .ge 58, 3) := by decide +kernel
theorem dX1_bestAdded_34 : decode cX1_bestAdded 34 = .ok (.iload_n 1, 1) := by decide +kernel
theorem dX1_bestAdded_35 : decode cX1_bestAdded 35 = .ok (.iload 5, 2) := by decide +kernel
theorem dX1_bestAdded_37 : decode cX1_bestAdded 37 = .ok (.invokestatic 105, 3) := by decide +kernel
theorem dX1_bestAdded_40 : decode cX1_bestAdded 40 = .ok (.ifCond .ne 43, 3) := by decide +kernel
theorem dX1_bestAdded_43 : decode cX1_bestAdded 43 = .ok (.aload_n 0, 1) := by decide +kernel
theorem dX1_bestAdded_44 : decode cX1_bestAdded 44 = .ok (.iload_n 1, 1) := by decide +kernel
theorem dX1_bestAdded_45 : decode cX1_bestAdded 45 = .ok (.iload 5, 2) := by decide +kernel
theorem dX1_bestAdded_47 : decode cX1_bestAdded 47 = .ok (.invokevirtual 108, 3) := by decide +kernel
theorem dX1_bestAdded_50 : decode cX1_bestAdded 50 = .ok (.istore 6, 2) := by decide +kernel
theorem dX1_bestAdded_52 : decode cX1_bestAdded 52 = .ok (.iload_n 3, 1) := by decide +kernel
theorem dX1_bestAdded_53 : decode cX1_bestAdded 53 = .ok (.ifCond .eq 24, 3) := by decide +kernel
theorem dX1_bestAdded_56 : decode cX1_bestAdded 56 = .ok (.iload_n 2, 1) := by decide +kernel
theorem dX1_bestAdded_57 : decode cX1_bestAdded 57 = .ok (.ifCond .eq 13, 3) := by decide +kernel
theorem dX1_bestAdded_60 : decode cX1_bestAdded 60 = .ok (.iload 6, 2) := by decide +kernel
theorem dX1_bestAdded_62 : decode cX1_bestAdded 62 = .ok (.iload 4, 2) := by decide +kernel
theorem dX1_bestAdded_64 : decode cX1_bestAdded 64 = .ok (.if_icmp .le 19, 3) := by decide +kernel
theorem dX1_bestAdded_67 : decode cX1_bestAdded 67 = .ok (.goto 10, 3) := by decide +kernel
theorem dX1_bestAdded_70 : decode cX1_bestAdded 70 = .ok (.iload 6, 2) := by decide +kernel
theorem dX1_bestAdded_72 : decode cX1_bestAdded 72 = .ok (.iload 4, 2) := by decide +kernel
theorem dX1_bestAdded_74 : decode cX1_bestAdded 74 = .ok (.if_icmp .ge 9, 3) := by decide +kernel
theorem dX1_bestAdded_77 : decode cX1_bestAdded 77 = .ok (.iload 6, 2) := by decide +kernel
theorem dX1_bestAdded_79 : decode cX1_bestAdded 79 = .ok (.istore 4, 2) := by decide +kernel
theorem dX1_bestAdded_81 : decode cX1_bestAdded 81 = .ok (.iconst 1, 1) := by decide +kernel
theorem dX1_bestAdded_82 : decode cX1_bestAdded 82 = .ok (.istore_n 3, 1) := by decide +kernel
theorem dX1_bestAdded_83 : decode cX1_bestAdded 83 = .ok (.iinc 5 1, 3) := by decide +kernel
theorem dX1_bestAdded_86 : decode cX1_bestAdded 86 = .ok (.goto (-59), 3) := by decide +kernel
theorem dX1_bestAdded_89 : decode cX1_bestAdded 89 = .ok (.iload 4, 2) := by decide +kernel
theorem dX1_bestAdded_91 : decode cX1_bestAdded 91 = .ok (.ireturn, 1) := by decide +kernel
theorem dX1_firstPillowOf_0 : decode cX1_firstPillowOf 0 = .ok (.iconst 0, 1) := by decide +kernel
theorem dX1_firstPillowOf_1 : decode cX1_firstPillowOf 1 = .ok (.istore_n 2, 1) := by decide +kernel
theorem dX1_firstPillowOf_2 : decode cX1_firstPillowOf 2 = .ok (.iconst (-1), 1) := by decide +kernel
theorem dX1_firstPillowOf_3 : decode cX1_firstPillowOf 3 = .ok (.istore_n 3, 1) := by decide +kernel
theorem dX1_firstPillowOf_4 : decode cX1_firstPillowOf 4 = .ok (.iconst 0, 1) := by decide +kernel
theorem dX1_firstPillowOf_5 : decode cX1_firstPillowOf 5 = .ok (.istore 4, 2) := by decide +kernel
theorem dX1_firstPillowOf_7 : decode cX1_firstPillowOf 7 = .ok (.iload 4, 2) := by decide +kernel
theorem dX1_firstPillowOf_9 : decode cX1_firstPillowOf 9 = .ok (.iload_n 1, 1) := by decide +kernel
theorem dX1_firstPillowOf_10 : decode cX1_firstPillowOf 10 = .ok (.if_icmp .gt 28, 3) := by decide +kernel
theorem dX1_firstPillowOf_13 : decode cX1_firstPillowOf 13 = .ok (.iload 4, 2) := by decide +kernel
theorem dX1_firstPillowOf_15 : decode cX1_firstPillowOf 15 = .ok (.bipush 6, 2) := by decide +kernel
theorem dX1_firstPillowOf_17 : decode cX1_firstPillowOf 17 = .ok (.if_icmp .ge 21, 3) := by decide +kernel
theorem dX1_firstPillowOf_20 : decode cX1_firstPillowOf 20 = .ok (.aload_n 0, 1) := by decide +kernel
theorem dX1_firstPillowOf_21 : decode cX1_firstPillowOf 21 = .ok (.iload_n 2, 1) := by decide +kernel
theorem dX1_firstPillowOf_22 : decode cX1_firstPillowOf 22 = .ok (.invokevirtual 111, 3) := by decide +kernel
theorem dX1_firstPillowOf_25 : decode cX1_firstPillowOf 25 = .ok (.istore_n 3, 1) := by decide +kernel
theorem dX1_firstPillowOf_26 : decode cX1_firstPillowOf 26 = .ok (.iload_n 2, 1) := by decide +kernel
theorem dX1_firstPillowOf_27 : decode cX1_firstPillowOf 27 = .ok (.iconst 1, 1) := by decide +kernel
theorem dX1_firstPillowOf_28 : decode cX1_firstPillowOf 28 = .ok (.iload_n 3, 1) := by decide +kernel
theorem dX1_firstPillowOf_29 : decode cX1_firstPillowOf 29 = .ok (.ishl, 1) := by decide +kernel
theorem dX1_firstPillowOf_30 : decode cX1_firstPillowOf 30 = .ok (.ior, 1) := by decide +kernel
theorem dX1_firstPillowOf_31 : decode cX1_firstPillowOf 31 = .ok (.istore_n 2, 1) := by decide +kernel
theorem dX1_firstPillowOf_32 : decode cX1_firstPillowOf 32 = .ok (.iinc 4 1, 3) := by decide +kernel
theorem dX1_firstPillowOf_35 : decode cX1_firstPillowOf 35 = .ok (.goto (-28), 3) := by decide +kernel
theorem dX1_firstPillowOf_38 : decode cX1_firstPillowOf 38 = .ok (.iload_n 3, 1) := by decide +kernel
theorem dX1_firstPillowOf_39 : decode cX1_firstPillowOf 39 = .ok (.ireturn, 1) := by decide +kernel
theorem dX1_firstBestPillow_0 : decode cX1_firstBestPillow 0 = .ok (.iconst 0, 1) := by decide +kernel
theorem dX1_firstBestPillow_1 : decode cX1_firstBestPillow 1 = .ok (.istore_n 2, 1) := by decide +kernel
theorem dX1_firstBestPillow_2 : decode cX1_firstBestPillow 2 = .ok (.iload_n 2, 1) := by decide +kernel
theorem dX1_firstBestPillow_3 : decode cX1_firstBestPillow 3 = .ok (.iconst 5, 1) := by decide +kernel
theorem dX1_firstBestPillow_4 : decode cX1_firstBestPillow 4 = .ok (.if_icmp .ge 34, 3) := by decide +kernel
theorem dX1_firstBestPillow_7 : decode cX1_firstBestPillow 7 = .ok (.iload_n 1, 1) := by decide +kernel
theorem dX1_firstBestPillow_8 : decode cX1_firstBestPillow 8 = .ok (.iload_n 2, 1) := by decide +kernel
theorem dX1_firstBestPillow_9 : decode cX1_firstBestPillow 9 = .ok (.invokestatic 105, 3) := by decide +kernel
theorem dX1_firstBestPillow_12 : decode cX1_firstBestPillow 12 = .ok (.ifCond .ne 20, 3) := by decide +kernel
theorem dX1_firstBestPillow_15 : decode cX1_firstBestPillow 15 = .ok (.aload_n 0, 1) := by decide +kernel
theorem dX1_firstBestPillow_16 : decode cX1_firstBestPillow 16 = .ok (.iload_n 1, 1) := by decide +kernel
theorem dX1_firstBestPillow_17 : decode cX1_firstBestPillow 17 = .ok (.iload_n 2, 1) := by decide +kernel
theorem dX1_firstBestPillow_18 : decode cX1_firstBestPillow 18 = .ok (.invokevirtual 108, 3) := by decide +kernel
theorem dX1_firstBestPillow_21 : decode cX1_firstBestPillow 21 = .ok (.aload_n 0, 1) := by decide +kernel
theorem dX1_firstBestPillow_22 : decode cX1_firstBestPillow 22 = .ok (.getfield 25, 3) := by decide +kernel
theorem dX1_firstBestPillow_25 : decode cX1_firstBestPillow 25 = .ok (.iload_n 1, 1) := by decide +kernel
theorem dX1_firstBestPillow_26 : decode cX1_firstBestPillow 26 = .ok (.invokestatic 93, 3) := by decide +kernel
theorem dX1_firstBestPillow_29 : decode cX1_firstBestPillow 29 = .ok (.if_icmp .eq 9, 3) := by decide +kernel
theorem dX1_firstBestPillow_32 : decode cX1_firstBestPillow 32 = .ok (.iinc 2 1, 3) := by decide +kernel
theorem dX1_firstBestPillow_35 : decode cX1_firstBestPillow 35 = .ok (.goto (-33), 3) := by decide +kernel
theorem dX1_firstBestPillow_38 : decode cX1_firstBestPillow 38 = .ok (.iload_n 2, 1) := by decide +kernel
theorem dX1_firstBestPillow_39 : decode cX1_firstBestPillow 39 = .ok (.ireturn, 1) := by decide +kernel
theorem dX1_restingPair_0 : decode cX1_restingPair 0 = .ok (.aload_n 0, 1) := by decide +kernel
theorem dX1_restingPair_1 : decode cX1_restingPair 1 = .ok (.aload_n 0, 1) := by decide +kernel
theorem dX1_restingPair_2 : decode cX1_restingPair 2 = .ok (.getfield 28, 3) := by decide +kernel
theorem dX1_restingPair_5 : decode cX1_restingPair 5 = .ok (.iload_n 1, 1) := by decide +kernel
theorem dX1_restingPair_6 : decode cX1_restingPair 6 = .ok (.invokevirtual 114, 3) := by decide +kernel
theorem dX1_restingPair_9 : decode cX1_restingPair 9 = .ok (.aload_n 0, 1) := by decide +kernel
theorem dX1_restingPair_10 : decode cX1_restingPair 10 = .ok (.aload_n 0, 1) := by decide +kernel
theorem dX1_restingPair_11 : decode cX1_restingPair 11 = .ok (.getfield 31, 3) := by decide +kernel
theorem dX1_restingPair_14 : decode cX1_restingPair 14 = .ok (.iload_n 2, 1) := by decide +kernel
theorem dX1_restingPair_15 : decode cX1_restingPair 15 = .ok (.invokevirtual 114, 3) := by decide +kernel
theorem dX1_restingPair_18 : decode cX1_restingPair 18 = .ok (.iconst 0, 1) := by decide +kernel
theorem dX1_restingPair_19 : decode cX1_restingPair 19 = .ok (.istore 4, 2) := by decide +kernel
theorem dX1_restingPair_21 : decode cX1_restingPair 21 = .ok (.iconst 0, 1) := by decide +kernel
theorem dX1_restingPair_22 : decode cX1_restingPair 22 = .ok (.istore 5, 2) := by decide +kernel
theorem dX1_restingPair_24 : decode cX1_restingPair 24 = .ok (.iload 5, 2) := by decide +kernel
theorem dX1_restingPair_26 : decode cX1_restingPair 26 = .ok (.bipush 6, 2) := by decide +kernel
theorem dX1_restingPair_28 : decode cX1_restingPair 28 = .ok (.if_icmp .ge 73, 3) := by decide +kernel
theorem dX1_restingPair_31 : decode cX1_restingPair 31 = .ok (.iconst 0, 1) := by decide +kernel
theorem dX1_restingPair_32 : decode cX1_restingPair 32 = .ok (.istore 6, 2) := by decide +kernel
theorem dX1_restingPair_34 : decode cX1_restingPair 34 = .ok (.iload 6, 2) := by decide +kernel
theorem dX1_restingPair_36 : decode cX1_restingPair 36 = .ok (.bipush 6, 2) := by decide +kernel
theorem dX1_restingPair_38 : decode cX1_restingPair 38 = .ok (.if_icmp .ge 57, 3) := by decide +kernel
theorem dX1_restingPair_41 : decode cX1_restingPair 41 = .ok (.aload_n 0, 1) := by decide +kernel
theorem dX1_restingPair_42 : decode cX1_restingPair 42 = .ok (.aload_n 0, 1) := by decide +kernel
theorem dX1_restingPair_43 : decode cX1_restingPair 43 = .ok (.getfield 28, 3) := by decide +kernel
theorem dX1_restingPair_46 : decode cX1_restingPair 46 = .ok (.iload 5, 2) := by decide +kernel
theorem dX1_restingPair_48 : decode cX1_restingPair 48 = .ok (.iload 6, 2) := by decide +kernel
theorem dX1_restingPair_50 : decode cX1_restingPair 50 = .ok (.invokevirtual 118, 3) := by decide +kernel
theorem dX1_restingPair_53 : decode cX1_restingPair 53 = .ok (.ifCond .eq 36, 3) := by decide +kernel
theorem dX1_restingPair_56 : decode cX1_restingPair 56 = .ok (.aload_n 0, 1) := by decide +kernel
theorem dX1_restingPair_57 : decode cX1_restingPair 57 = .ok (.aload_n 0, 1) := by decide +kernel
theorem dX1_restingPair_58 : decode cX1_restingPair 58 = .ok (.getfield 31, 3) := by decide +kernel
theorem dX1_restingPair_61 : decode cX1_restingPair 61 = .ok (.iload 6, 2) := by decide +kernel
theorem dX1_restingPair_63 : decode cX1_restingPair 63 = .ok (.iload 5, 2) := by decide +kernel
theorem dX1_restingPair_65 : decode cX1_restingPair 65 = .ok (.invokevirtual 118, 3) := by decide +kernel
theorem dX1_restingPair_68 : decode cX1_restingPair 68 = .ok (.ifCond .eq 21, 3) := by decide +kernel
theorem dX1_restingPair_71 : decode cX1_restingPair 71 = .ok (.iload 4, 2) := by decide +kernel
theorem dX1_restingPair_73 : decode cX1_restingPair 73 = .ok (.iload_n 3, 1) := by decide +kernel
theorem dX1_restingPair_74 : decode cX1_restingPair 74 = .ok (.if_icmp .ne 12, 3) := by decide +kernel
theorem dX1_restingPair_77 : decode cX1_restingPair 77 = .ok (.bipush 10, 2) := by decide +kernel
theorem dX1_restingPair_79 : decode cX1_restingPair 79 = .ok (.iload 5, 2) := by decide +kernel
theorem dX1_restingPair_81 : decode cX1_restingPair 81 = .ok (.imul, 1) := by decide +kernel
theorem dX1_restingPair_82 : decode cX1_restingPair 82 = .ok (.iload 6, 2) := by decide +kernel
theorem dX1_restingPair_84 : decode cX1_restingPair 84 = .ok (.iadd, 1) := by decide +kernel
theorem dX1_restingPair_85 : decode cX1_restingPair 85 = .ok (.ireturn, 1) := by decide +kernel
theorem dX1_restingPair_86 : decode cX1_restingPair 86 = .ok (.iinc 4 1, 3) := by decide +kernel
theorem dX1_restingPair_89 : decode cX1_restingPair 89 = .ok (.iinc 6 1, 3) := by decide +kernel
theorem dX1_restingPair_92 : decode cX1_restingPair 92 = .ok (.goto (-58), 3) := by decide +kernel
theorem dX1_restingPair_95 : decode cX1_restingPair 95 = .ok (.iinc 5 1, 3) := by decide +kernel
theorem dX1_restingPair_98 : decode cX1_restingPair 98 = .ok (.goto (-74), 3) := by decide +kernel
theorem dX1_restingPair_101 : decode cX1_restingPair 101 = .ok (.iload_n 3, 1) := by decide +kernel
theorem dX1_restingPair_102 : decode cX1_restingPair 102 = .ok (.iconst (-1), 1) := by decide +kernel
theorem dX1_restingPair_103 : decode cX1_restingPair 103 = .ok (.if_icmp .ne 8, 3) := by decide +kernel
theorem dX1_restingPair_106 : decode cX1_restingPair 106 = .ok (.iload 4, 2) := by decide +kernel
theorem dX1_restingPair_108 : decode cX1_restingPair 108 = .ok (.goto 5, 3) := by decide +kernel
theorem dX1_restingPair_111 : decode cX1_restingPair 111 = .ok (.bipush (-5), 2) := by decide +kernel
theorem dX1_restingPair_113 : decode cX1_restingPair 113 = .ok (.ireturn, 1) := by decide +kernel
theorem dX1_fillGets_0 : decode cX1_fillGets 0 = .ok (.iconst 0, 1) := by decide +kernel
theorem dX1_fillGets_1 : decode cX1_fillGets 1 = .ok (.istore_n 3, 1) := by decide +kernel
theorem dX1_fillGets_2 : decode cX1_fillGets 2 = .ok (.iload_n 3, 1) := by decide +kernel
theorem dX1_fillGets_3 : decode cX1_fillGets 3 = .ok (.bipush 6, 2) := by decide +kernel
theorem dX1_fillGets_5 : decode cX1_fillGets 5 = .ok (.if_icmp .ge 51, 3) := by decide +kernel
theorem dX1_fillGets_8 : decode cX1_fillGets 8 = .ok (.aload_n 0, 1) := by decide +kernel
theorem dX1_fillGets_9 : decode cX1_fillGets 9 = .ok (.getfield 9, 3) := by decide +kernel
theorem dX1_fillGets_12 : decode cX1_fillGets 12 = .ok (.iload_n 3, 1) := by decide +kernel
theorem dX1_fillGets_13 : decode cX1_fillGets 13 = .ok (.invokevirtual 122, 3) := by decide +kernel
theorem dX1_fillGets_16 : decode cX1_fillGets 16 = .ok (.istore 4, 2) := by decide +kernel
theorem dX1_fillGets_18 : decode cX1_fillGets 18 = .ok (.aload_n 1, 1) := by decide +kernel
theorem dX1_fillGets_19 : decode cX1_fillGets 19 = .ok (.iload_n 3, 1) := by decide +kernel
theorem dX1_fillGets_20 : decode cX1_fillGets 20 = .ok (.iload 4, 2) := by decide +kernel
theorem dX1_fillGets_22 : decode cX1_fillGets 22 = .ok (.iconst (-1), 1) := by decide +kernel
theorem dX1_fillGets_23 : decode cX1_fillGets 23 = .ok (.if_icmp .ne 7, 3) := by decide +kernel
theorem dX1_fillGets_26 : decode cX1_fillGets 26 = .ok (.iconst 0, 1) := by decide +kernel
theorem dX1_fillGets_27 : decode cX1_fillGets 27 = .ok (.goto 20, 3) := by decide +kernel
theorem dX1_fillGets_30 : decode cX1_fillGets 30 = .ok (.aload_n 0, 1) := by decide +kernel
theorem dX1_fillGets_31 : decode cX1_fillGets 31 = .ok (.getfield 9, 3) := by decide +kernel
theorem dX1_fillGets_34 : decode cX1_fillGets 34 = .ok (.iload 4, 2) := by decide +kernel
theorem dX1_fillGets_36 : decode cX1_fillGets 36 = .ok (.iload_n 2, 1) := by decide +kernel
theorem dX1_fillGets_37 : decode cX1_fillGets 37 = .ok (.aload_n 0, 1) := by decide +kernel
theorem dX1_fillGets_38 : decode cX1_fillGets 38 = .ok (.getfield 9, 3) := by decide +kernel
theorem dX1_fillGets_41 : decode cX1_fillGets 41 = .ok (.getfield 48, 3) := by decide +kernel
theorem dX1_fillGets_44 : decode cX1_fillGets 44 = .ok (.invokevirtual 125, 3) := by decide +kernel
theorem dX1_fillGets_47 : decode cX1_fillGets 47 = .ok (.invokestatic 89, 3) := by decide +kernel
theorem dX1_fillGets_50 : decode cX1_fillGets 50 = .ok (.iinc 3 1, 3) := by decide +kernel
theorem dX1_fillGets_53 : decode cX1_fillGets 53 = .ok (.goto (-51), 3) := by decide +kernel
theorem dX1_fillGets_56 : decode cX1_fillGets 56 = .ok (.return_, 1) := by decide +kernel
theorem dX1_stays_0 : decode cX1_stays 0 = .ok (.iconst 0, 1) := by decide +kernel
theorem dX1_stays_1 : decode cX1_stays 1 = .ok (.istore 4, 2) := by decide +kernel
theorem dX1_stays_3 : decode cX1_stays 3 = .ok (.iload 4, 2) := by decide +kernel
theorem dX1_stays_5 : decode cX1_stays 5 = .ok (.bipush 6, 2) := by decide +kernel
theorem dX1_stays_7 : decode cX1_stays 7 = .ok (.if_icmp .ge 29, 3) := by decide +kernel
theorem dX1_stays_10 : decode cX1_stays 10 = .ok (.aload_n 0, 1) := by decide +kernel
theorem dX1_stays_11 : decode cX1_stays 11 = .ok (.aload_n 1, 1) := by decide +kernel
theorem dX1_stays_12 : decode cX1_stays 12 = .ok (.iload 4, 2) := by decide +kernel
theorem dX1_stays_14 : decode cX1_stays 14 = .ok (.iload_n 3, 1) := by decide +kernel
theorem dX1_stays_15 : decode cX1_stays 15 = .ok (.invokevirtual 128, 3) := by decide +kernel
theorem dX1_stays_18 : decode cX1_stays 18 = .ok (.aload_n 0, 1) := by decide +kernel
theorem dX1_stays_19 : decode cX1_stays 19 = .ok (.aload_n 1, 1) := by decide +kernel
theorem dX1_stays_20 : decode cX1_stays 20 = .ok (.iload_n 2, 1) := by decide +kernel
theorem dX1_stays_21 : decode cX1_stays 21 = .ok (.iload_n 3, 1) := by decide +kernel
theorem dX1_stays_22 : decode cX1_stays 22 = .ok (.invokevirtual 128, 3) := by decide +kernel
theorem dX1_stays_25 : decode cX1_stays 25 = .ok (.if_icmp .le 5, 3) := by decide +kernel
theorem dX1_stays_28 : decode cX1_stays 28 = .ok (.iconst 0, 1) := by decide +kernel
theorem dX1_stays_29 : decode cX1_stays 29 = .ok (.ireturn, 1) := by decide +kernel
theorem dX1_stays_30 : decode cX1_stays 30 = .ok (.iinc 4 1, 3) := by decide +kernel
theorem dX1_stays_33 : decode cX1_stays 33 = .ok (.goto (-30), 3) := by decide +kernel
theorem dX1_stays_36 : decode cX1_stays 36 = .ok (.iconst 1, 1) := by decide +kernel
theorem dX1_stays_37 : decode cX1_stays 37 = .ok (.ireturn, 1) := by decide +kernel
theorem dX1_getsOn_0 : decode cX1_getsOn 0 = .ok (.iload_n 2, 1) := by decide +kernel
theorem dX1_getsOn_1 : decode cX1_getsOn 1 = .ok (.iload_n 3, 1) := by decide +kernel
theorem dX1_getsOn_2 : decode cX1_getsOn 2 = .ok (.if_icmp .ne 13, 3) := by decide +kernel
theorem dX1_getsOn_5 : decode cX1_getsOn 5 = .ok (.aload_n 1, 1) := by decide +kernel
theorem dX1_getsOn_6 : decode cX1_getsOn 6 = .ok (.iload_n 2, 1) := by decide +kernel
theorem dX1_getsOn_7 : decode cX1_getsOn 7 = .ok (.invokestatic 93, 3) := by decide +kernel
theorem dX1_getsOn_10 : decode cX1_getsOn 10 = .ok (.iconst 2, 1) := by decide +kernel
theorem dX1_getsOn_11 : decode cX1_getsOn 11 = .ok (.isub, 1) := by decide +kernel
theorem dX1_getsOn_12 : decode cX1_getsOn 12 = .ok (.goto 8, 3) := by decide +kernel
theorem dX1_getsOn_15 : decode cX1_getsOn 15 = .ok (.aload_n 1, 1) := by decide +kernel
theorem dX1_getsOn_16 : decode cX1_getsOn 16 = .ok (.iload_n 2, 1) := by decide +kernel
theorem dX1_getsOn_17 : decode cX1_getsOn 17 = .ok (.invokestatic 93, 3) := by decide +kernel
theorem dX1_getsOn_20 : decode cX1_getsOn 20 = .ok (.ireturn, 1) := by decide +kernel
theorem dX1_tenthsBelieved_0 : decode cX1_tenthsBelieved 0 = .ok (.iconst 0, 1) := by decide +kernel
theorem dX1_tenthsBelieved_1 : decode cX1_tenthsBelieved 1 = .ok (.istore_n 3, 1) := by decide +kernel
theorem dX1_tenthsBelieved_2 : decode cX1_tenthsBelieved 2 = .ok (.iconst 0, 1) := by decide +kernel
theorem dX1_tenthsBelieved_3 : decode cX1_tenthsBelieved 3 = .ok (.istore 4, 2) := by decide +kernel
theorem dX1_tenthsBelieved_5 : decode cX1_tenthsBelieved 5 = .ok (.iload 4, 2) := by decide +kernel
theorem dX1_tenthsBelieved_7 : decode cX1_tenthsBelieved 7 = .ok (.aload_n 0, 1) := by decide +kernel
theorem dX1_tenthsBelieved_8 : decode cX1_tenthsBelieved 8 = .ok (.getfield 9, 3) := by decide +kernel
theorem dX1_tenthsBelieved_11 : decode cX1_tenthsBelieved 11 = .ok (.getfield 61, 3) := by decide +kernel
theorem dX1_tenthsBelieved_14 : decode cX1_tenthsBelieved 14 = .ok (.invokevirtual 64, 3) := by decide +kernel
theorem dX1_tenthsBelieved_17 : decode cX1_tenthsBelieved 17 = .ok (.if_icmp .ge 88, 3) := by decide +kernel
theorem dX1_tenthsBelieved_20 : decode cX1_tenthsBelieved 20 = .ok (.aload_n 0, 1) := by decide +kernel
theorem dX1_tenthsBelieved_21 : decode cX1_tenthsBelieved 21 = .ok (.getfield 9, 3) := by decide +kernel
theorem dX1_tenthsBelieved_24 : decode cX1_tenthsBelieved 24 = .ok (.getfield 61, 3) := by decide +kernel
theorem dX1_tenthsBelieved_27 : decode cX1_tenthsBelieved 27 = .ok (.iload 4, 2) := by decide +kernel
theorem dX1_tenthsBelieved_29 : decode cX1_tenthsBelieved 29 = .ok (.iconst 2, 1) := by decide +kernel
theorem dX1_tenthsBelieved_30 : decode cX1_tenthsBelieved 30 = .ok (.invokevirtual 38, 3) := by decide +kernel
theorem dX1_tenthsBelieved_33 : decode cX1_tenthsBelieved 33 = .ok (.istore 5, 2) := by decide +kernel
theorem dX1_tenthsBelieved_35 : decode cX1_tenthsBelieved 35 = .ok (.aload_n 0, 1) := by decide +kernel
theorem dX1_tenthsBelieved_36 : decode cX1_tenthsBelieved 36 = .ok (.getfield 9, 3) := by decide +kernel
theorem dX1_tenthsBelieved_39 : decode cX1_tenthsBelieved 39 = .ok (.iload_n 1, 1) := by decide +kernel
theorem dX1_tenthsBelieved_40 : decode cX1_tenthsBelieved 40 = .ok (.iload 4, 2) := by decide +kernel
theorem dX1_tenthsBelieved_42 : decode cX1_tenthsBelieved 42 = .ok (.aload_n 0, 1) := by decide +kernel
theorem dX1_tenthsBelieved_43 : decode cX1_tenthsBelieved 43 = .ok (.getfield 9, 3) := by decide +kernel
theorem dX1_tenthsBelieved_46 : decode cX1_tenthsBelieved 46 = .ok (.getfield 48, 3) := by decide +kernel
theorem dX1_tenthsBelieved_49 : decode cX1_tenthsBelieved 49 = .ok (.invokevirtual 125, 3) := by decide +kernel
theorem dX1_tenthsBelieved_52 : decode cX1_tenthsBelieved 52 = .ok (.istore 6, 2) := by decide +kernel
theorem dX1_tenthsBelieved_54 : decode cX1_tenthsBelieved 54 = .ok (.iload 5, 2) := by decide +kernel
theorem dX1_tenthsBelieved_56 : decode cX1_tenthsBelieved 56 = .ok (.aload_n 0, 1) := by decide +kernel
theorem dX1_tenthsBelieved_57 : decode cX1_tenthsBelieved 57 = .ok (.iload_n 1, 1) := by decide +kernel
theorem dX1_tenthsBelieved_58 : decode cX1_tenthsBelieved 58 = .ok (.invokevirtual 44, 3) := by decide +kernel
theorem dX1_tenthsBelieved_61 : decode cX1_tenthsBelieved 61 = .ok (.if_icmp .ne 16, 3) := by decide +kernel
theorem dX1_tenthsBelieved_64 : decode cX1_tenthsBelieved 64 = .ok (.iload_n 3, 1) := by decide +kernel
theorem dX1_tenthsBelieved_65 : decode cX1_tenthsBelieved 65 = .ok (.bipush 10, 2) := by decide +kernel
theorem dX1_tenthsBelieved_67 : decode cX1_tenthsBelieved 67 = .ok (.iload_n 2, 1) := by decide +kernel
theorem dX1_tenthsBelieved_68 : decode cX1_tenthsBelieved 68 = .ok (.isub, 1) := by decide +kernel
theorem dX1_tenthsBelieved_69 : decode cX1_tenthsBelieved 69 = .ok (.iload 6, 2) := by decide +kernel
theorem dX1_tenthsBelieved_71 : decode cX1_tenthsBelieved 71 = .ok (.imul, 1) := by decide +kernel
theorem dX1_tenthsBelieved_72 : decode cX1_tenthsBelieved 72 = .ok (.iadd, 1) := by decide +kernel
theorem dX1_tenthsBelieved_73 : decode cX1_tenthsBelieved 73 = .ok (.istore_n 3, 1) := by decide +kernel
theorem dX1_tenthsBelieved_74 : decode cX1_tenthsBelieved 74 = .ok (.goto 25, 3) := by decide +kernel
theorem dX1_tenthsBelieved_77 : decode cX1_tenthsBelieved 77 = .ok (.iload 5, 2) := by decide +kernel
theorem dX1_tenthsBelieved_79 : decode cX1_tenthsBelieved 79 = .ok (.iconst 1, 1) := by decide +kernel
theorem dX1_tenthsBelieved_80 : decode cX1_tenthsBelieved 80 = .ok (.iadd, 1) := by decide +kernel
theorem dX1_tenthsBelieved_81 : decode cX1_tenthsBelieved 81 = .ok (.bipush 6, 2) := by decide +kernel
theorem dX1_tenthsBelieved_83 : decode cX1_tenthsBelieved 83 = .ok (.irem, 1) := by decide +kernel
theorem dX1_tenthsBelieved_84 : decode cX1_tenthsBelieved 84 = .ok (.aload_n 0, 1) := by decide +kernel
theorem dX1_tenthsBelieved_85 : decode cX1_tenthsBelieved 85 = .ok (.iload_n 1, 1) := by decide +kernel
theorem dX1_tenthsBelieved_86 : decode cX1_tenthsBelieved 86 = .ok (.invokevirtual 44, 3) := by decide +kernel
theorem dX1_tenthsBelieved_89 : decode cX1_tenthsBelieved 89 = .ok (.if_icmp .ne 10, 3) := by decide +kernel
theorem dX1_tenthsBelieved_92 : decode cX1_tenthsBelieved 92 = .ok (.iload_n 3, 1) := by decide +kernel
theorem dX1_tenthsBelieved_93 : decode cX1_tenthsBelieved 93 = .ok (.iload_n 2, 1) := by decide +kernel
theorem dX1_tenthsBelieved_94 : decode cX1_tenthsBelieved 94 = .ok (.iload 6, 2) := by decide +kernel
theorem dX1_tenthsBelieved_96 : decode cX1_tenthsBelieved 96 = .ok (.imul, 1) := by decide +kernel
theorem dX1_tenthsBelieved_97 : decode cX1_tenthsBelieved 97 = .ok (.iadd, 1) := by decide +kernel
theorem dX1_tenthsBelieved_98 : decode cX1_tenthsBelieved 98 = .ok (.istore_n 3, 1) := by decide +kernel
theorem dX1_tenthsBelieved_99 : decode cX1_tenthsBelieved 99 = .ok (.iinc 4 1, 3) := by decide +kernel
theorem dX1_tenthsBelieved_102 : decode cX1_tenthsBelieved 102 = .ok (.goto (-97), 3) := by decide +kernel
theorem dX1_tenthsBelieved_105 : decode cX1_tenthsBelieved 105 = .ok (.iload_n 3, 1) := by decide +kernel
theorem dX1_tenthsBelieved_106 : decode cX1_tenthsBelieved 106 = .ok (.ireturn, 1) := by decide +kernel
theorem dX1_doingBehindDecades_0 : decode cX1_doingBehindDecades 0 = .ok (.aload_n 0, 1) := by decide +kernel
theorem dX1_doingBehindDecades_1 : decode cX1_doingBehindDecades 1 = .ok (.getfield 18, 3) := by decide +kernel
theorem dX1_doingBehindDecades_4 : decode cX1_doingBehindDecades 4 = .ok (.aload_n 0, 1) := by decide +kernel
theorem dX1_doingBehindDecades_5 : decode cX1_doingBehindDecades 5 = .ok (.getfield 9, 3) := by decide +kernel
theorem dX1_doingBehindDecades_8 : decode cX1_doingBehindDecades 8 = .ok (.invokevirtual 132, 3) := by decide +kernel
theorem dX1_doingBehindDecades_11 : decode cX1_doingBehindDecades 11 = .ok (.iload_n 1, 1) := by decide +kernel
theorem dX1_doingBehindDecades_12 : decode cX1_doingBehindDecades 12 = .ok (.i2l, 1) := by decide +kernel
theorem dX1_doingBehindDecades_13 : decode cX1_doingBehindDecades 13 = .ok (.lstore_n 3, 1) := by decide +kernel
theorem dX1_doingBehindDecades_14 : decode cX1_doingBehindDecades 14 = .ok (.iconst 0, 1) := by decide +kernel
theorem dX1_doingBehindDecades_15 : decode cX1_doingBehindDecades 15 = .ok (.istore 5, 2) := by decide +kernel
theorem dX1_doingBehindDecades_17 : decode cX1_doingBehindDecades 17 = .ok (.iload 5, 2) := by decide +kernel
theorem dX1_doingBehindDecades_19 : decode cX1_doingBehindDecades 19 = .ok (.iload_n 2, 1) := by decide +kernel
theorem dX1_doingBehindDecades_20 : decode cX1_doingBehindDecades 20 = .ok (.if_icmp .ge 69, 3) := by decide +kernel
theorem dX1_doingBehindDecades_23 : decode cX1_doingBehindDecades 23 = .ok (.lload_n 3, 1) := by decide +kernel
theorem dX1_doingBehindDecades_24 : decode cX1_doingBehindDecades 24 = .ok (.ldc2_w 136, 3) := by decide +kernel
theorem dX1_doingBehindDecades_27 : decode cX1_doingBehindDecades 27 = .ok (.lmul, 1) := by decide +kernel
theorem dX1_doingBehindDecades_28 : decode cX1_doingBehindDecades 28 = .ok (.ldc2_w 138, 3) := by decide +kernel
theorem dX1_doingBehindDecades_31 : decode cX1_doingBehindDecades 31 = .ok (.ladd, 1) := by decide +kernel
theorem dX1_doingBehindDecades_32 : decode cX1_doingBehindDecades 32 = .ok (.ldc2_w 140, 3) := by decide +kernel
theorem dX1_doingBehindDecades_35 : decode cX1_doingBehindDecades 35 = .ok (.lrem, 1) := by decide +kernel
theorem dX1_doingBehindDecades_36 : decode cX1_doingBehindDecades 36 = .ok (.lstore_n 3, 1) := by decide +kernel
theorem dX1_doingBehindDecades_37 : decode cX1_doingBehindDecades 37 = .ok (.lload_n 3, 1) := by decide +kernel
theorem dX1_doingBehindDecades_38 : decode cX1_doingBehindDecades 38 = .ok (.ldc2_w 142, 3) := by decide +kernel
theorem dX1_doingBehindDecades_41 : decode cX1_doingBehindDecades 41 = .ok (.ldiv, 1) := by decide +kernel
theorem dX1_doingBehindDecades_42 : decode cX1_doingBehindDecades 42 = .ok (.ldc2_w 144, 3) := by decide +kernel
theorem dX1_doingBehindDecades_45 : decode cX1_doingBehindDecades 45 = .ok (.lrem, 1) := by decide +kernel
theorem dX1_doingBehindDecades_46 : decode cX1_doingBehindDecades 46 = .ok (.l2i, 1) := by decide +kernel
theorem dX1_doingBehindDecades_47 : decode cX1_doingBehindDecades 47 = .ok (.istore 6, 2) := by decide +kernel
theorem dX1_doingBehindDecades_49 : decode cX1_doingBehindDecades 49 = .ok (.lload_n 3, 1) := by decide +kernel
theorem dX1_doingBehindDecades_50 : decode cX1_doingBehindDecades 50 = .ok (.ldc2_w 146, 3) := by decide +kernel
theorem dX1_doingBehindDecades_53 : decode cX1_doingBehindDecades 53 = .ok (.ldiv, 1) := by decide +kernel
theorem dX1_doingBehindDecades_54 : decode cX1_doingBehindDecades 54 = .ok (.ldc2_w 144, 3) := by decide +kernel
theorem dX1_doingBehindDecades_57 : decode cX1_doingBehindDecades 57 = .ok (.lrem, 1) := by decide +kernel
theorem dX1_doingBehindDecades_58 : decode cX1_doingBehindDecades 58 = .ok (.l2i, 1) := by decide +kernel
theorem dX1_doingBehindDecades_59 : decode cX1_doingBehindDecades 59 = .ok (.istore 7, 2) := by decide +kernel
theorem dX1_doingBehindDecades_61 : decode cX1_doingBehindDecades 61 = .ok (.aload_n 0, 1) := by decide +kernel
theorem dX1_doingBehindDecades_62 : decode cX1_doingBehindDecades 62 = .ok (.getfield 18, 3) := by decide +kernel
theorem dX1_doingBehindDecades_65 : decode cX1_doingBehindDecades 65 = .ok (.getfield 61, 3) := by decide +kernel
theorem dX1_doingBehindDecades_68 : decode cX1_doingBehindDecades 68 = .ok (.iload 6, 2) := by decide +kernel
theorem dX1_doingBehindDecades_70 : decode cX1_doingBehindDecades 70 = .ok (.iconst 2, 1) := by decide +kernel
theorem dX1_doingBehindDecades_71 : decode cX1_doingBehindDecades 71 = .ok (.iload 7, 2) := by decide +kernel
theorem dX1_doingBehindDecades_73 : decode cX1_doingBehindDecades 73 = .ok (.invokevirtual 148, 3) := by decide +kernel
theorem dX1_doingBehindDecades_76 : decode cX1_doingBehindDecades 76 = .ok (.aload_n 0, 1) := by decide +kernel
theorem dX1_doingBehindDecades_77 : decode cX1_doingBehindDecades 77 = .ok (.getfield 18, 3) := by decide +kernel
theorem dX1_doingBehindDecades_80 : decode cX1_doingBehindDecades 80 = .ok (.invokevirtual 152, 3) := by decide +kernel
theorem dX1_doingBehindDecades_83 : decode cX1_doingBehindDecades 83 = .ok (.iinc 5 1, 3) := by decide +kernel
theorem dX1_doingBehindDecades_86 : decode cX1_doingBehindDecades 86 = .ok (.goto (-69), 3) := by decide +kernel
theorem dX1_doingBehindDecades_89 : decode cX1_doingBehindDecades 89 = .ok (.aload_n 0, 1) := by decide +kernel
theorem dX1_doingBehindDecades_90 : decode cX1_doingBehindDecades 90 = .ok (.getfield 18, 3) := by decide +kernel
theorem dX1_doingBehindDecades_93 : decode cX1_doingBehindDecades 93 = .ok (.invokevirtual 155, 3) := by decide +kernel
theorem dX1_doingBehindDecades_96 : decode cX1_doingBehindDecades 96 = .ok (.ireturn, 1) := by decide +kernel
theorem dX2_init_0 : decode cX2_init 0 = .ok (.aload_n 0, 1) := by decide +kernel
theorem dX2_init_1 : decode cX2_init 1 = .ok (.invokespecial 1, 3) := by decide +kernel
theorem dX2_init_4 : decode cX2_init 4 = .ok (.aload_n 0, 1) := by decide +kernel
theorem dX2_init_5 : decode cX2_init 5 = .ok (.new 7, 3) := by decide +kernel
theorem dX2_init_8 : decode cX2_init 8 = .ok (.dup, 1) := by decide +kernel
theorem dX2_init_9 : decode cX2_init 9 = .ok (.invokespecial 9, 3) := by decide +kernel
theorem dX2_init_12 : decode cX2_init 12 = .ok (.putfield 10, 3) := by decide +kernel
theorem dX2_init_15 : decode cX2_init 15 = .ok (.return_, 1) := by decide +kernel
theorem dX2_keep_0 : decode cX2_keep 0 = .ok (.aload_n 0, 1) := by decide +kernel
theorem dX2_keep_1 : decode cX2_keep 1 = .ok (.getfield 10, 3) := by decide +kernel
theorem dX2_keep_4 : decode cX2_keep 4 = .ok (.aload_n 1, 1) := by decide +kernel
theorem dX2_keep_5 : decode cX2_keep 5 = .ok (.invokevirtual 16, 3) := by decide +kernel
theorem dX2_keep_8 : decode cX2_keep 8 = .ok (.aload_n 0, 1) := by decide +kernel
theorem dX2_keep_9 : decode cX2_keep 9 = .ok (.iconst 1, 1) := by decide +kernel
theorem dX2_keep_10 : decode cX2_keep 10 = .ok (.putfield 20, 3) := by decide +kernel
theorem dX2_keep_13 : decode cX2_keep 13 = .ok (.return_, 1) := by decide +kernel
theorem dX3_init_0 : decode cX3_init 0 = .ok (.aload_n 0, 1) := by decide +kernel
theorem dX3_init_1 : decode cX3_init 1 = .ok (.invokespecial 1, 3) := by decide +kernel
theorem dX3_init_4 : decode cX3_init 4 = .ok (.aload_n 0, 1) := by decide +kernel
theorem dX3_init_5 : decode cX3_init 5 = .ok (.iload_n 2, 1) := by decide +kernel
theorem dX3_init_6 : decode cX3_init 6 = .ok (.putfield 7, 3) := by decide +kernel
theorem dX3_init_9 : decode cX3_init 9 = .ok (.aload_n 0, 1) := by decide +kernel
theorem dX3_init_10 : decode cX3_init 10 = .ok (.iload_n 1, 1) := by decide +kernel
theorem dX3_init_11 : decode cX3_init 11 = .ok (.ifCond .le 13, 3) := by decide +kernel
theorem dX3_init_14 : decode cX3_init 14 = .ok (.iload_n 2, 1) := by decide +kernel
theorem dX3_init_15 : decode cX3_init 15 = .ok (.ifCond .le 9, 3) := by decide +kernel
theorem dX3_init_18 : decode cX3_init 18 = .ok (.iload_n 1, 1) := by decide +kernel
theorem dX3_init_19 : decode cX3_init 19 = .ok (.iload_n 2, 1) := by decide +kernel
theorem dX3_init_20 : decode cX3_init 20 = .ok (.imul, 1) := by decide +kernel
theorem dX3_init_21 : decode cX3_init 21 = .ok (.goto 4, 3) := by decide +kernel
theorem dX3_init_24 : decode cX3_init 24 = .ok (.iconst 0, 1) := by decide +kernel
theorem dX3_init_25 : decode cX3_init 25 = .ok (.newarray .int, 2) := by decide +kernel
theorem dX3_init_27 : decode cX3_init 27 = .ok (.putfield 13, 3) := by decide +kernel
theorem dX3_init_30 : decode cX3_init 30 = .ok (.return_, 1) := by decide +kernel
theorem dX3_size_0 : decode cX3_size 0 = .ok (.aload_n 0, 1) := by decide +kernel
theorem dX3_size_1 : decode cX3_size 1 = .ok (.getfield 17, 3) := by decide +kernel
theorem dX3_size_4 : decode cX3_size 4 = .ok (.ireturn, 1) := by decide +kernel
theorem dX3_isFull_0 : decode cX3_isFull 0 = .ok (.aload_n 0, 1) := by decide +kernel
theorem dX3_isFull_1 : decode cX3_isFull 1 = .ok (.getfield 17, 3) := by decide +kernel
theorem dX3_isFull_4 : decode cX3_isFull 4 = .ok (.iconst 1, 1) := by decide +kernel
theorem dX3_isFull_5 : decode cX3_isFull 5 = .ok (.iadd, 1) := by decide +kernel
theorem dX3_isFull_6 : decode cX3_isFull 6 = .ok (.aload_n 0, 1) := by decide +kernel
theorem dX3_isFull_7 : decode cX3_isFull 7 = .ok (.getfield 7, 3) := by decide +kernel
theorem dX3_isFull_10 : decode cX3_isFull 10 = .ok (.imul, 1) := by decide +kernel
theorem dX3_isFull_11 : decode cX3_isFull 11 = .ok (.aload_n 0, 1) := by decide +kernel
theorem dX3_isFull_12 : decode cX3_isFull 12 = .ok (.getfield 13, 3) := by decide +kernel
theorem dX3_isFull_15 : decode cX3_isFull 15 = .ok (.arraylength, 1) := by decide +kernel
theorem dX3_isFull_16 : decode cX3_isFull 16 = .ok (.if_icmp .le 7, 3) := by decide +kernel
theorem dX3_isFull_19 : decode cX3_isFull 19 = .ok (.iconst 1, 1) := by decide +kernel
theorem dX3_isFull_20 : decode cX3_isFull 20 = .ok (.goto 4, 3) := by decide +kernel
theorem dX3_isFull_23 : decode cX3_isFull 23 = .ok (.iconst 0, 1) := by decide +kernel
theorem dX3_isFull_24 : decode cX3_isFull 24 = .ok (.ireturn, 1) := by decide +kernel
theorem dX3_empty_0 : decode cX3_empty 0 = .ok (.aload_n 0, 1) := by decide +kernel
theorem dX3_empty_1 : decode cX3_empty 1 = .ok (.iconst 0, 1) := by decide +kernel
theorem dX3_empty_2 : decode cX3_empty 2 = .ok (.putfield 17, 3) := by decide +kernel
theorem dX3_empty_5 : decode cX3_empty 5 = .ok (.return_, 1) := by decide +kernel
theorem dX3_cell_0 : decode cX3_cell 0 = .ok (.iload_n 1, 1) := by decide +kernel
theorem dX3_cell_1 : decode cX3_cell 1 = .ok (.aload_n 0, 1) := by decide +kernel
theorem dX3_cell_2 : decode cX3_cell 2 = .ok (.getfield 7, 3) := by decide +kernel
theorem dX3_cell_5 : decode cX3_cell 5 = .ok (.imul, 1) := by decide +kernel
theorem dX3_cell_6 : decode cX3_cell 6 = .ok (.iload_n 2, 1) := by decide +kernel
theorem dX3_cell_7 : decode cX3_cell 7 = .ok (.iadd, 1) := by decide +kernel
theorem dX3_cell_8 : decode cX3_cell 8 = .ok (.istore_n 3, 1) := by decide +kernel
theorem dX3_cell_9 : decode cX3_cell 9 = .ok (.iload_n 1, 1) := by decide +kernel
theorem dX3_cell_10 : decode cX3_cell 10 = .ok (.ifCond .lt 27, 3) := by decide +kernel
theorem dX3_cell_13 : decode cX3_cell 13 = .ok (.iload_n 1, 1) := by decide +kernel
theorem dX3_cell_14 : decode cX3_cell 14 = .ok (.aload_n 0, 1) := by decide +kernel
theorem dX3_cell_15 : decode cX3_cell 15 = .ok (.getfield 17, 3) := by decide +kernel
theorem dX3_cell_18 : decode cX3_cell 18 = .ok (.if_icmp .ge 19, 3) := by decide +kernel
theorem dX3_cell_21 : decode cX3_cell 21 = .ok (.iload_n 2, 1) := by decide +kernel
theorem dX3_cell_22 : decode cX3_cell 22 = .ok (.ifCond .lt 15, 3) := by decide +kernel
theorem dX3_cell_25 : decode cX3_cell 25 = .ok (.iload_n 2, 1) := by decide +kernel
theorem dX3_cell_26 : decode cX3_cell 26 = .ok (.aload_n 0, 1) := by decide +kernel
theorem dX3_cell_27 : decode cX3_cell 27 = .ok (.getfield 7, 3) := by decide +kernel
theorem dX3_cell_30 : decode cX3_cell 30 = .ok (.if_icmp .ge 7, 3) := by decide +kernel
theorem dX3_cell_33 : decode cX3_cell 33 = .ok (.iconst 1, 1) := by decide +kernel
theorem dX3_cell_34 : decode cX3_cell 34 = .ok (.goto 4, 3) := by decide +kernel
theorem dX3_cell_37 : decode cX3_cell 37 = .ok (.iconst 0, 1) := by decide +kernel
theorem dX3_cell_38 : decode cX3_cell 38 = .ok (.istore 4, 2) := by decide +kernel
theorem dX3_cell_40 : decode cX3_cell 40 = .ok (.iload 4, 2) := by decide +kernel
theorem dX3_cell_42 : decode cX3_cell 42 = .ok (.ifCond .eq 25, 3) := by decide +kernel
theorem dX3_cell_45 : decode cX3_cell 45 = .ok (.iload_n 3, 1) := by decide +kernel
theorem dX3_cell_46 : decode cX3_cell 46 = .ok (.ifCond .lt 21, 3) := by decide +kernel
theorem dX3_cell_49 : decode cX3_cell 49 = .ok (.iload_n 3, 1) := by decide +kernel
theorem dX3_cell_50 : decode cX3_cell 50 = .ok (.aload_n 0, 1) := by decide +kernel
theorem dX3_cell_51 : decode cX3_cell 51 = .ok (.getfield 13, 3) := by decide +kernel
theorem dX3_cell_54 : decode cX3_cell 54 = .ok (.arraylength, 1) := by decide +kernel
theorem dX3_cell_55 : decode cX3_cell 55 = .ok (.if_icmp .ge 12, 3) := by decide +kernel
theorem dX3_cell_58 : decode cX3_cell 58 = .ok (.aload_n 0, 1) := by decide +kernel
theorem dX3_cell_59 : decode cX3_cell 59 = .ok (.getfield 13, 3) := by decide +kernel
theorem dX3_cell_62 : decode cX3_cell 62 = .ok (.iload_n 3, 1) := by decide +kernel
theorem dX3_cell_63 : decode cX3_cell 63 = .ok (.iaload, 1) := by decide +kernel
theorem dX3_cell_64 : decode cX3_cell 64 = .ok (.goto 4, 3) := by decide +kernel
theorem dX3_cell_67 : decode cX3_cell 67 = .ok (.iconst 0, 1) := by decide +kernel
theorem dX3_cell_68 : decode cX3_cell 68 = .ok (.ireturn, 1) := by decide +kernel
theorem dX3_write_0 : decode cX3_write 0 = .ok (.iload_n 1, 1) := by decide +kernel
theorem dX3_write_1 : decode cX3_write 1 = .ok (.aload_n 0, 1) := by decide +kernel
theorem dX3_write_2 : decode cX3_write 2 = .ok (.getfield 7, 3) := by decide +kernel
theorem dX3_write_5 : decode cX3_write 5 = .ok (.imul, 1) := by decide +kernel
theorem dX3_write_6 : decode cX3_write 6 = .ok (.iload_n 2, 1) := by decide +kernel
theorem dX3_write_7 : decode cX3_write 7 = .ok (.iadd, 1) := by decide +kernel
theorem dX3_write_8 : decode cX3_write 8 = .ok (.istore 4, 2) := by decide +kernel
theorem dX3_write_10 : decode cX3_write 10 = .ok (.iload_n 1, 1) := by decide +kernel
theorem dX3_write_11 : decode cX3_write 11 = .ok (.ifCond .lt 27, 3) := by decide +kernel
theorem dX3_write_14 : decode cX3_write 14 = .ok (.iload_n 1, 1) := by decide +kernel
theorem dX3_write_15 : decode cX3_write 15 = .ok (.aload_n 0, 1) := by decide +kernel
theorem dX3_write_16 : decode cX3_write 16 = .ok (.getfield 17, 3) := by decide +kernel
theorem dX3_write_19 : decode cX3_write 19 = .ok (.if_icmp .ge 19, 3) := by decide +kernel
theorem dX3_write_22 : decode cX3_write 22 = .ok (.iload_n 2, 1) := by decide +kernel
theorem dX3_write_23 : decode cX3_write 23 = .ok (.ifCond .lt 15, 3) := by decide +kernel
theorem dX3_write_26 : decode cX3_write 26 = .ok (.iload_n 2, 1) := by decide +kernel
theorem dX3_write_27 : decode cX3_write 27 = .ok (.aload_n 0, 1) := by decide +kernel
theorem dX3_write_28 : decode cX3_write 28 = .ok (.getfield 7, 3) := by decide +kernel
theorem dX3_write_31 : decode cX3_write 31 = .ok (.if_icmp .ge 7, 3) := by decide +kernel
theorem dX3_write_34 : decode cX3_write 34 = .ok (.iconst 1, 1) := by decide +kernel
theorem dX3_write_35 : decode cX3_write 35 = .ok (.goto 4, 3) := by decide +kernel
theorem dX3_write_38 : decode cX3_write 38 = .ok (.iconst 0, 1) := by decide +kernel
theorem dX3_write_39 : decode cX3_write 39 = .ok (.istore 5, 2) := by decide +kernel
theorem dX3_write_41 : decode cX3_write 41 = .ok (.iload 5, 2) := by decide +kernel
theorem dX3_write_43 : decode cX3_write 43 = .ok (.ifCond .eq 26, 3) := by decide +kernel
theorem dX3_write_46 : decode cX3_write 46 = .ok (.iload 4, 2) := by decide +kernel
theorem dX3_write_48 : decode cX3_write 48 = .ok (.ifCond .lt 21, 3) := by decide +kernel
theorem dX3_write_51 : decode cX3_write 51 = .ok (.iload 4, 2) := by decide +kernel
theorem dX3_write_53 : decode cX3_write 53 = .ok (.aload_n 0, 1) := by decide +kernel
theorem dX3_write_54 : decode cX3_write 54 = .ok (.getfield 13, 3) := by decide +kernel
theorem dX3_write_57 : decode cX3_write 57 = .ok (.arraylength, 1) := by decide +kernel
theorem dX3_write_58 : decode cX3_write 58 = .ok (.if_icmp .ge 11, 3) := by decide +kernel
theorem dX3_write_61 : decode cX3_write 61 = .ok (.aload_n 0, 1) := by decide +kernel
theorem dX3_write_62 : decode cX3_write 62 = .ok (.getfield 13, 3) := by decide +kernel
theorem dX3_write_65 : decode cX3_write 65 = .ok (.iload 4, 2) := by decide +kernel
theorem dX3_write_67 : decode cX3_write 67 = .ok (.iload_n 3, 1) := by decide +kernel
theorem dX3_write_68 : decode cX3_write 68 = .ok (.iastore, 1) := by decide +kernel
theorem dX3_write_69 : decode cX3_write 69 = .ok (.return_, 1) := by decide +kernel
theorem dX3_add_0 : decode cX3_add 0 = .ok (.aload_n 0, 1) := by decide +kernel
theorem dX3_add_1 : decode cX3_add 1 = .ok (.invokevirtual 20, 3) := by decide +kernel
theorem dX3_add_4 : decode cX3_add 4 = .ok (.ifCond .ne 62, 3) := by decide +kernel
theorem dX3_add_7 : decode cX3_add 7 = .ok (.aload_n 0, 1) := by decide +kernel
theorem dX3_add_8 : decode cX3_add 8 = .ok (.dup, 1) := by decide +kernel
theorem dX3_add_9 : decode cX3_add 9 = .ok (.getfield 17, 3) := by decide +kernel
theorem dX3_add_12 : decode cX3_add 12 = .ok (.iconst 1, 1) := by decide +kernel
theorem dX3_add_13 : decode cX3_add 13 = .ok (.iadd, 1) := by decide +kernel
theorem dX3_add_14 : decode cX3_add 14 = .ok (.putfield 17, 3) := by decide +kernel
theorem dX3_add_17 : decode cX3_add 17 = .ok (.aload_n 0, 1) := by decide +kernel
theorem dX3_add_18 : decode cX3_add 18 = .ok (.aload_n 0, 1) := by decide +kernel
theorem dX3_add_19 : decode cX3_add 19 = .ok (.getfield 17, 3) := by decide +kernel
theorem dX3_add_22 : decode cX3_add 22 = .ok (.iconst 1, 1) := by decide +kernel
theorem dX3_add_23 : decode cX3_add 23 = .ok (.isub, 1) := by decide +kernel
theorem dX3_add_24 : decode cX3_add 24 = .ok (.iconst 0, 1) := by decide +kernel
theorem dX3_add_25 : decode cX3_add 25 = .ok (.iload_n 1, 1) := by decide +kernel
theorem dX3_add_26 : decode cX3_add 26 = .ok (.invokevirtual 24, 3) := by decide +kernel
theorem dX3_add_29 : decode cX3_add 29 = .ok (.aload_n 0, 1) := by decide +kernel
theorem dX3_add_30 : decode cX3_add 30 = .ok (.aload_n 0, 1) := by decide +kernel
theorem dX3_add_31 : decode cX3_add 31 = .ok (.getfield 17, 3) := by decide +kernel
theorem dX3_add_34 : decode cX3_add 34 = .ok (.iconst 1, 1) := by decide +kernel
theorem dX3_add_35 : decode cX3_add 35 = .ok (.isub, 1) := by decide +kernel
theorem dX3_add_36 : decode cX3_add 36 = .ok (.iconst 1, 1) := by decide +kernel
theorem dX3_add_37 : decode cX3_add 37 = .ok (.iload_n 2, 1) := by decide +kernel
theorem dX3_add_38 : decode cX3_add 38 = .ok (.invokevirtual 24, 3) := by decide +kernel
theorem dX3_add_41 : decode cX3_add 41 = .ok (.aload_n 0, 1) := by decide +kernel
theorem dX3_add_42 : decode cX3_add 42 = .ok (.aload_n 0, 1) := by decide +kernel
theorem dX3_add_43 : decode cX3_add 43 = .ok (.getfield 17, 3) := by decide +kernel
theorem dX3_add_46 : decode cX3_add 46 = .ok (.iconst 1, 1) := by decide +kernel
theorem dX3_add_47 : decode cX3_add 47 = .ok (.isub, 1) := by decide +kernel
theorem dX3_add_48 : decode cX3_add 48 = .ok (.iconst 2, 1) := by decide +kernel
theorem dX3_add_49 : decode cX3_add 49 = .ok (.iload_n 3, 1) := by decide +kernel
theorem dX3_add_50 : decode cX3_add 50 = .ok (.invokevirtual 24, 3) := by decide +kernel
theorem dX3_add_53 : decode cX3_add 53 = .ok (.aload_n 0, 1) := by decide +kernel
theorem dX3_add_54 : decode cX3_add 54 = .ok (.aload_n 0, 1) := by decide +kernel
theorem dX3_add_55 : decode cX3_add 55 = .ok (.getfield 17, 3) := by decide +kernel
theorem dX3_add_58 : decode cX3_add 58 = .ok (.iconst 1, 1) := by decide +kernel
theorem dX3_add_59 : decode cX3_add 59 = .ok (.isub, 1) := by decide +kernel
theorem dX3_add_60 : decode cX3_add 60 = .ok (.iconst 3, 1) := by decide +kernel
theorem dX3_add_61 : decode cX3_add 61 = .ok (.iload 4, 2) := by decide +kernel
theorem dX3_add_63 : decode cX3_add 63 = .ok (.invokevirtual 24, 3) := by decide +kernel
theorem dX3_add_66 : decode cX3_add 66 = .ok (.return_, 1) := by decide +kernel
theorem dX3_dropFirst_0 : decode cX3_dropFirst 0 = .ok (.aload_n 0, 1) := by decide +kernel
theorem dX3_dropFirst_1 : decode cX3_dropFirst 1 = .ok (.getfield 7, 3) := by decide +kernel
theorem dX3_dropFirst_4 : decode cX3_dropFirst 4 = .ok (.istore_n 1, 1) := by decide +kernel
theorem dX3_dropFirst_5 : decode cX3_dropFirst 5 = .ok (.iload_n 1, 1) := by decide +kernel
theorem dX3_dropFirst_6 : decode cX3_dropFirst 6 = .ok (.aload_n 0, 1) := by decide +kernel
theorem dX3_dropFirst_7 : decode cX3_dropFirst 7 = .ok (.getfield 17, 3) := by decide +kernel
theorem dX3_dropFirst_10 : decode cX3_dropFirst 10 = .ok (.aload_n 0, 1) := by decide +kernel
theorem dX3_dropFirst_11 : decode cX3_dropFirst 11 = .ok (.getfield 7, 3) := by decide +kernel
theorem dX3_dropFirst_14 : decode cX3_dropFirst 14 = .ok (.imul, 1) := by decide +kernel
theorem dX3_dropFirst_15 : decode cX3_dropFirst 15 = .ok (.if_icmp .ge 30, 3) := by decide +kernel
theorem dX3_dropFirst_18 : decode cX3_dropFirst 18 = .ok (.aload_n 0, 1) := by decide +kernel
theorem dX3_dropFirst_19 : decode cX3_dropFirst 19 = .ok (.getfield 13, 3) := by decide +kernel
theorem dX3_dropFirst_22 : decode cX3_dropFirst 22 = .ok (.iload_n 1, 1) := by decide +kernel
theorem dX3_dropFirst_23 : decode cX3_dropFirst 23 = .ok (.aload_n 0, 1) := by decide +kernel
theorem dX3_dropFirst_24 : decode cX3_dropFirst 24 = .ok (.getfield 7, 3) := by decide +kernel
theorem dX3_dropFirst_27 : decode cX3_dropFirst 27 = .ok (.isub, 1) := by decide +kernel
theorem dX3_dropFirst_28 : decode cX3_dropFirst 28 = .ok (.aload_n 0, 1) := by decide +kernel
theorem dX3_dropFirst_29 : decode cX3_dropFirst 29 = .ok (.getfield 13, 3) := by decide +kernel
theorem dX3_dropFirst_32 : decode cX3_dropFirst 32 = .ok (.iload_n 1, 1) := by decide +kernel
theorem dX3_dropFirst_33 : decode cX3_dropFirst 33 = .ok (.invokestatic 28, 3) := by decide +kernel
theorem dX3_dropFirst_36 : decode cX3_dropFirst 36 = .ok (.invokestatic 34, 3) := by decide +kernel
theorem dX3_dropFirst_39 : decode cX3_dropFirst 39 = .ok (.iinc 1 1, 3) := by decide +kernel
theorem dX3_dropFirst_42 : decode cX3_dropFirst 42 = .ok (.goto (-37), 3) := by decide +kernel
theorem dX3_dropFirst_45 : decode cX3_dropFirst 45 = .ok (.aload_n 0, 1) := by decide +kernel
theorem dX3_dropFirst_46 : decode cX3_dropFirst 46 = .ok (.invokevirtual 38, 3) := by decide +kernel
theorem dX3_dropFirst_49 : decode cX3_dropFirst 49 = .ok (.return_, 1) := by decide +kernel
theorem dX3_dropLast_0 : decode cX3_dropLast 0 = .ok (.aload_n 0, 1) := by decide +kernel
theorem dX3_dropLast_1 : decode cX3_dropLast 1 = .ok (.getfield 17, 3) := by decide +kernel
theorem dX3_dropLast_4 : decode cX3_dropLast 4 = .ok (.ifCond .le 13, 3) := by decide +kernel
theorem dX3_dropLast_7 : decode cX3_dropLast 7 = .ok (.aload_n 0, 1) := by decide +kernel
theorem dX3_dropLast_8 : decode cX3_dropLast 8 = .ok (.dup, 1) := by decide +kernel
theorem dX3_dropLast_9 : decode cX3_dropLast 9 = .ok (.getfield 17, 3) := by decide +kernel
theorem dX3_dropLast_12 : decode cX3_dropLast 12 = .ok (.iconst 1, 1) := by decide +kernel
theorem dX3_dropLast_13 : decode cX3_dropLast 13 = .ok (.isub, 1) := by decide +kernel
theorem dX3_dropLast_14 : decode cX3_dropLast 14 = .ok (.putfield 17, 3) := by decide +kernel
theorem dX3_dropLast_17 : decode cX3_dropLast 17 = .ok (.return_, 1) := by decide +kernel
theorem dX3_takeFrom_0 : decode cX3_takeFrom 0 = .ok (.aload_n 0, 1) := by decide +kernel
theorem dX3_takeFrom_1 : decode cX3_takeFrom 1 = .ok (.aload_n 1, 1) := by decide +kernel
theorem dX3_takeFrom_2 : decode cX3_takeFrom 2 = .ok (.getfield 17, 3) := by decide +kernel
theorem dX3_takeFrom_5 : decode cX3_takeFrom 5 = .ok (.putfield 17, 3) := by decide +kernel
theorem dX3_takeFrom_8 : decode cX3_takeFrom 8 = .ok (.iconst 0, 1) := by decide +kernel
theorem dX3_takeFrom_9 : decode cX3_takeFrom 9 = .ok (.istore_n 2, 1) := by decide +kernel
theorem dX3_takeFrom_10 : decode cX3_takeFrom 10 = .ok (.iload_n 2, 1) := by decide +kernel
theorem dX3_takeFrom_11 : decode cX3_takeFrom 11 = .ok (.aload_n 0, 1) := by decide +kernel
theorem dX3_takeFrom_12 : decode cX3_takeFrom 12 = .ok (.getfield 17, 3) := by decide +kernel
theorem dX3_takeFrom_15 : decode cX3_takeFrom 15 = .ok (.aload_n 0, 1) := by decide +kernel
theorem dX3_takeFrom_16 : decode cX3_takeFrom 16 = .ok (.getfield 7, 3) := by decide +kernel
theorem dX3_takeFrom_19 : decode cX3_takeFrom 19 = .ok (.imul, 1) := by decide +kernel
theorem dX3_takeFrom_20 : decode cX3_takeFrom 20 = .ok (.if_icmp .ge 25, 3) := by decide +kernel
theorem dX3_takeFrom_23 : decode cX3_takeFrom 23 = .ok (.aload_n 0, 1) := by decide +kernel
theorem dX3_takeFrom_24 : decode cX3_takeFrom 24 = .ok (.getfield 13, 3) := by decide +kernel
theorem dX3_takeFrom_27 : decode cX3_takeFrom 27 = .ok (.iload_n 2, 1) := by decide +kernel
theorem dX3_takeFrom_28 : decode cX3_takeFrom 28 = .ok (.aload_n 1, 1) := by decide +kernel
theorem dX3_takeFrom_29 : decode cX3_takeFrom 29 = .ok (.getfield 13, 3) := by decide +kernel
theorem dX3_takeFrom_32 : decode cX3_takeFrom 32 = .ok (.iload_n 2, 1) := by decide +kernel
theorem dX3_takeFrom_33 : decode cX3_takeFrom 33 = .ok (.invokestatic 28, 3) := by decide +kernel
theorem dX3_takeFrom_36 : decode cX3_takeFrom 36 = .ok (.invokestatic 34, 3) := by decide +kernel
theorem dX3_takeFrom_39 : decode cX3_takeFrom 39 = .ok (.iinc 2 1, 3) := by decide +kernel
theorem dX3_takeFrom_42 : decode cX3_takeFrom 42 = .ok (.goto (-32), 3) := by decide +kernel
theorem dX3_takeFrom_45 : decode cX3_takeFrom 45 = .ok (.return_, 1) := by decide +kernel
theorem dX3_mixedInto_0 : decode cX3_mixedInto 0 = .ok (.lload_n 1, 1) := by decide +kernel
theorem dX3_mixedInto_1 : decode cX3_mixedInto 1 = .ok (.lstore_n 3, 1) := by decide +kernel
theorem dX3_mixedInto_2 : decode cX3_mixedInto 2 = .ok (.iconst 0, 1) := by decide +kernel
theorem dX3_mixedInto_3 : decode cX3_mixedInto 3 = .ok (.istore 5, 2) := by decide +kernel
theorem dX3_mixedInto_5 : decode cX3_mixedInto 5 = .ok (.iload 5, 2) := by decide +kernel
theorem dX3_mixedInto_7 : decode cX3_mixedInto 7 = .ok (.aload_n 0, 1) := by decide +kernel
theorem dX3_mixedInto_8 : decode cX3_mixedInto 8 = .ok (.getfield 17, 3) := by decide +kernel
theorem dX3_mixedInto_11 : decode cX3_mixedInto 11 = .ok (.aload_n 0, 1) := by decide +kernel
theorem dX3_mixedInto_12 : decode cX3_mixedInto 12 = .ok (.getfield 7, 3) := by decide +kernel
theorem dX3_mixedInto_15 : decode cX3_mixedInto 15 = .ok (.imul, 1) := by decide +kernel
theorem dX3_mixedInto_16 : decode cX3_mixedInto 16 = .ok (.if_icmp .ge 26, 3) := by decide +kernel
theorem dX3_mixedInto_19 : decode cX3_mixedInto 19 = .ok (.ldc2_w 41, 3) := by decide +kernel
theorem dX3_mixedInto_22 : decode cX3_mixedInto 22 = .ok (.lload_n 3, 1) := by decide +kernel
theorem dX3_mixedInto_23 : decode cX3_mixedInto 23 = .ok (.lmul, 1) := by decide +kernel
theorem dX3_mixedInto_24 : decode cX3_mixedInto 24 = .ok (.aload_n 0, 1) := by decide +kernel
theorem dX3_mixedInto_25 : decode cX3_mixedInto 25 = .ok (.getfield 13, 3) := by decide +kernel
theorem dX3_mixedInto_28 : decode cX3_mixedInto 28 = .ok (.iload 5, 2) := by decide +kernel
theorem dX3_mixedInto_30 : decode cX3_mixedInto 30 = .ok (.invokestatic 28, 3) := by decide +kernel
theorem dX3_mixedInto_33 : decode cX3_mixedInto 33 = .ok (.i2l, 1) := by decide +kernel
theorem dX3_mixedInto_34 : decode cX3_mixedInto 34 = .ok (.ladd, 1) := by decide +kernel
theorem dX3_mixedInto_35 : decode cX3_mixedInto 35 = .ok (.lstore_n 3, 1) := by decide +kernel
theorem dX3_mixedInto_36 : decode cX3_mixedInto 36 = .ok (.iinc 5 1, 3) := by decide +kernel
theorem dX3_mixedInto_39 : decode cX3_mixedInto 39 = .ok (.goto (-34), 3) := by decide +kernel
theorem dX3_mixedInto_42 : decode cX3_mixedInto 42 = .ok (.lload_n 3, 1) := by decide +kernel
theorem dX3_mixedInto_43 : decode cX3_mixedInto 43 = .ok (.lreturn, 1) := by decide +kernel
theorem dX4_init_0 : decode cX4_init 0 = .ok (.aload_n 0, 1) := by decide +kernel
theorem dX4_init_1 : decode cX4_init 1 = .ok (.invokespecial 3, 3) := by decide +kernel
theorem dX4_init_4 : decode cX4_init 4 = .ok (.aload_n 0, 1) := by decide +kernel
theorem dX4_init_5 : decode cX4_init 5 = .ok (.new 9, 3) := by decide +kernel
theorem dX4_init_8 : decode cX4_init 8 = .ok (.dup, 1) := by decide +kernel
theorem dX4_init_9 : decode cX4_init 9 = .ok (.bipush 6, 2) := by decide +kernel
theorem dX4_init_11 : decode cX4_init 11 = .ok (.iconst 4, 1) := by decide +kernel
theorem dX4_init_12 : decode cX4_init 12 = .ok (.invokespecial 11, 3) := by decide +kernel
theorem dX4_init_15 : decode cX4_init 15 = .ok (.putfield 14, 3) := by decide +kernel
theorem dX4_init_18 : decode cX4_init 18 = .ok (.aload_n 0, 1) := by decide +kernel
theorem dX4_init_19 : decode cX4_init 19 = .ok (.new 9, 3) := by decide +kernel
theorem dX4_init_22 : decode cX4_init 22 = .ok (.dup, 1) := by decide +kernel
theorem dX4_init_23 : decode cX4_init 23 = .ok (.bipush 6, 2) := by decide +kernel
theorem dX4_init_25 : decode cX4_init 25 = .ok (.iconst 3, 1) := by decide +kernel
theorem dX4_init_26 : decode cX4_init 26 = .ok (.invokespecial 11, 3) := by decide +kernel
theorem dX4_init_29 : decode cX4_init 29 = .ok (.putfield 20, 3) := by decide +kernel
theorem dX4_init_32 : decode cX4_init 32 = .ok (.aload_n 0, 1) := by decide +kernel
theorem dX4_init_33 : decode cX4_init 33 = .ok (.new 9, 3) := by decide +kernel
theorem dX4_init_36 : decode cX4_init 36 = .ok (.dup, 1) := by decide +kernel
theorem dX4_init_37 : decode cX4_init 37 = .ok (.iconst 5, 1) := by decide +kernel
theorem dX4_init_38 : decode cX4_init 38 = .ok (.iconst 3, 1) := by decide +kernel
theorem dX4_init_39 : decode cX4_init 39 = .ok (.invokespecial 11, 3) := by decide +kernel
theorem dX4_init_42 : decode cX4_init 42 = .ok (.putfield 23, 3) := by decide +kernel
theorem dX4_init_45 : decode cX4_init 45 = .ok (.aload_n 0, 1) := by decide +kernel
theorem dX4_init_46 : decode cX4_init 46 = .ok (.new 9, 3) := by decide +kernel
theorem dX4_init_49 : decode cX4_init 49 = .ok (.dup, 1) := by decide +kernel
theorem dX4_init_50 : decode cX4_init 50 = .ok (.bipush 6, 2) := by decide +kernel
theorem dX4_init_52 : decode cX4_init 52 = .ok (.iconst 4, 1) := by decide +kernel
theorem dX4_init_53 : decode cX4_init 53 = .ok (.invokespecial 11, 3) := by decide +kernel
theorem dX4_init_56 : decode cX4_init 56 = .ok (.putfield 26, 3) := by decide +kernel
theorem dX4_init_59 : decode cX4_init 59 = .ok (.aload_n 0, 1) := by decide +kernel
theorem dX4_init_60 : decode cX4_init 60 = .ok (.new 9, 3) := by decide +kernel
theorem dX4_init_63 : decode cX4_init 63 = .ok (.dup, 1) := by decide +kernel
theorem dX4_init_64 : decode cX4_init 64 = .ok (.bipush 6, 2) := by decide +kernel
theorem dX4_init_66 : decode cX4_init 66 = .ok (.iconst 4, 1) := by decide +kernel
theorem dX4_init_67 : decode cX4_init 67 = .ok (.invokespecial 11, 3) := by decide +kernel
theorem dX4_init_70 : decode cX4_init 70 = .ok (.putfield 29, 3) := by decide +kernel
theorem dX4_init_73 : decode cX4_init 73 = .ok (.aload_n 0, 1) := by decide +kernel
theorem dX4_init_74 : decode cX4_init 74 = .ok (.new 9, 3) := by decide +kernel
theorem dX4_init_77 : decode cX4_init 77 = .ok (.dup, 1) := by decide +kernel
theorem dX4_init_78 : decode cX4_init 78 = .ok (.bipush 8, 2) := by decide +kernel
theorem dX4_init_80 : decode cX4_init 80 = .ok (.bipush 25, 2) := by decide +kernel
theorem dX4_init_82 : decode cX4_init 82 = .ok (.invokespecial 11, 3) := by decide +kernel
theorem dX4_init_85 : decode cX4_init 85 = .ok (.putfield 32, 3) := by decide +kernel
theorem dX4_init_88 : decode cX4_init 88 = .ok (.return_, 1) := by decide +kernel
theorem dX4_startAnew_0 : decode cX4_startAnew 0 = .ok (.aload_n 0, 1) := by decide +kernel
theorem dX4_startAnew_1 : decode cX4_startAnew 1 = .ok (.getfield 14, 3) := by decide +kernel
theorem dX4_startAnew_4 : decode cX4_startAnew 4 = .ok (.invokevirtual 35, 3) := by decide +kernel
theorem dX4_startAnew_7 : decode cX4_startAnew 7 = .ok (.aload_n 0, 1) := by decide +kernel
theorem dX4_startAnew_8 : decode cX4_startAnew 8 = .ok (.getfield 20, 3) := by decide +kernel
theorem dX4_startAnew_11 : decode cX4_startAnew 11 = .ok (.invokevirtual 35, 3) := by decide +kernel
theorem dX4_startAnew_14 : decode cX4_startAnew 14 = .ok (.aload_n 0, 1) := by decide +kernel
theorem dX4_startAnew_15 : decode cX4_startAnew 15 = .ok (.getfield 23, 3) := by decide +kernel
theorem dX4_startAnew_18 : decode cX4_startAnew 18 = .ok (.invokevirtual 35, 3) := by decide +kernel
theorem dX4_startAnew_21 : decode cX4_startAnew 21 = .ok (.aload_n 0, 1) := by decide +kernel
theorem dX4_startAnew_22 : decode cX4_startAnew 22 = .ok (.getfield 26, 3) := by decide +kernel
theorem dX4_startAnew_25 : decode cX4_startAnew 25 = .ok (.invokevirtual 35, 3) := by decide +kernel
theorem dX4_startAnew_28 : decode cX4_startAnew 28 = .ok (.aload_n 0, 1) := by decide +kernel
theorem dX4_startAnew_29 : decode cX4_startAnew 29 = .ok (.getfield 29, 3) := by decide +kernel
theorem dX4_startAnew_32 : decode cX4_startAnew 32 = .ok (.invokevirtual 35, 3) := by decide +kernel
theorem dX4_startAnew_35 : decode cX4_startAnew 35 = .ok (.aload_n 0, 1) := by decide +kernel
theorem dX4_startAnew_36 : decode cX4_startAnew 36 = .ok (.getfield 32, 3) := by decide +kernel
theorem dX4_startAnew_39 : decode cX4_startAnew 39 = .ok (.invokevirtual 35, 3) := by decide +kernel
theorem dX4_startAnew_42 : decode cX4_startAnew 42 = .ok (.aload_n 0, 1) := by decide +kernel
theorem dX4_startAnew_43 : decode cX4_startAnew 43 = .ok (.iconst 0, 1) := by decide +kernel
theorem dX4_startAnew_44 : decode cX4_startAnew 44 = .ok (.putfield 38, 3) := by decide +kernel
theorem dX4_startAnew_47 : decode cX4_startAnew 47 = .ok (.return_, 1) := by decide +kernel
theorem dX4_takeFrom_0 : decode cX4_takeFrom 0 = .ok (.aload_n 0, 1) := by decide +kernel
theorem dX4_takeFrom_1 : decode cX4_takeFrom 1 = .ok (.getfield 14, 3) := by decide +kernel
theorem dX4_takeFrom_4 : decode cX4_takeFrom 4 = .ok (.aload_n 1, 1) := by decide +kernel
theorem dX4_takeFrom_5 : decode cX4_takeFrom 5 = .ok (.getfield 14, 3) := by decide +kernel
theorem dX4_takeFrom_8 : decode cX4_takeFrom 8 = .ok (.invokevirtual 42, 3) := by decide +kernel
theorem dX4_takeFrom_11 : decode cX4_takeFrom 11 = .ok (.aload_n 0, 1) := by decide +kernel
theorem dX4_takeFrom_12 : decode cX4_takeFrom 12 = .ok (.getfield 20, 3) := by decide +kernel
theorem dX4_takeFrom_15 : decode cX4_takeFrom 15 = .ok (.aload_n 1, 1) := by decide +kernel
theorem dX4_takeFrom_16 : decode cX4_takeFrom 16 = .ok (.getfield 20, 3) := by decide +kernel
theorem dX4_takeFrom_19 : decode cX4_takeFrom 19 = .ok (.invokevirtual 42, 3) := by decide +kernel
theorem dX4_takeFrom_22 : decode cX4_takeFrom 22 = .ok (.aload_n 0, 1) := by decide +kernel
theorem dX4_takeFrom_23 : decode cX4_takeFrom 23 = .ok (.getfield 23, 3) := by decide +kernel
theorem dX4_takeFrom_26 : decode cX4_takeFrom 26 = .ok (.aload_n 1, 1) := by decide +kernel
theorem dX4_takeFrom_27 : decode cX4_takeFrom 27 = .ok (.getfield 23, 3) := by decide +kernel
theorem dX4_takeFrom_30 : decode cX4_takeFrom 30 = .ok (.invokevirtual 42, 3) := by decide +kernel
theorem dX4_takeFrom_33 : decode cX4_takeFrom 33 = .ok (.aload_n 0, 1) := by decide +kernel
theorem dX4_takeFrom_34 : decode cX4_takeFrom 34 = .ok (.getfield 26, 3) := by decide +kernel
theorem dX4_takeFrom_37 : decode cX4_takeFrom 37 = .ok (.aload_n 1, 1) := by decide +kernel
theorem dX4_takeFrom_38 : decode cX4_takeFrom 38 = .ok (.getfield 26, 3) := by decide +kernel
theorem dX4_takeFrom_41 : decode cX4_takeFrom 41 = .ok (.invokevirtual 42, 3) := by decide +kernel
theorem dX4_takeFrom_44 : decode cX4_takeFrom 44 = .ok (.aload_n 0, 1) := by decide +kernel
theorem dX4_takeFrom_45 : decode cX4_takeFrom 45 = .ok (.getfield 29, 3) := by decide +kernel
theorem dX4_takeFrom_48 : decode cX4_takeFrom 48 = .ok (.aload_n 1, 1) := by decide +kernel
theorem dX4_takeFrom_49 : decode cX4_takeFrom 49 = .ok (.getfield 29, 3) := by decide +kernel
theorem dX4_takeFrom_52 : decode cX4_takeFrom 52 = .ok (.invokevirtual 42, 3) := by decide +kernel
theorem dX4_takeFrom_55 : decode cX4_takeFrom 55 = .ok (.aload_n 0, 1) := by decide +kernel
theorem dX4_takeFrom_56 : decode cX4_takeFrom 56 = .ok (.getfield 32, 3) := by decide +kernel
theorem dX4_takeFrom_59 : decode cX4_takeFrom 59 = .ok (.aload_n 1, 1) := by decide +kernel
theorem dX4_takeFrom_60 : decode cX4_takeFrom 60 = .ok (.getfield 32, 3) := by decide +kernel
theorem dX4_takeFrom_63 : decode cX4_takeFrom 63 = .ok (.invokevirtual 42, 3) := by decide +kernel
theorem dX4_takeFrom_66 : decode cX4_takeFrom 66 = .ok (.aload_n 0, 1) := by decide +kernel
theorem dX4_takeFrom_67 : decode cX4_takeFrom 67 = .ok (.aload_n 1, 1) := by decide +kernel
theorem dX4_takeFrom_68 : decode cX4_takeFrom 68 = .ok (.getfield 38, 3) := by decide +kernel
theorem dX4_takeFrom_71 : decode cX4_takeFrom 71 = .ok (.putfield 38, 3) := by decide +kernel
theorem dX4_takeFrom_74 : decode cX4_takeFrom 74 = .ok (.return_, 1) := by decide +kernel
theorem dX4_addSleeper_0 : decode cX4_addSleeper 0 = .ok (.iconst 0, 1) := by decide +kernel
theorem dX4_addSleeper_1 : decode cX4_addSleeper 1 = .ok (.istore_n 3, 1) := by decide +kernel
theorem dX4_addSleeper_2 : decode cX4_addSleeper 2 = .ok (.iload_n 3, 1) := by decide +kernel
theorem dX4_addSleeper_3 : decode cX4_addSleeper 3 = .ok (.iconst 5, 1) := by decide +kernel
theorem dX4_addSleeper_4 : decode cX4_addSleeper 4 = .ok (.if_icmp .ge 18, 3) := by decide +kernel
theorem dX4_addSleeper_7 : decode cX4_addSleeper 7 = .ok (.aload_n 0, 1) := by decide +kernel
theorem dX4_addSleeper_8 : decode cX4_addSleeper 8 = .ok (.iload_n 3, 1) := by decide +kernel
theorem dX4_addSleeper_9 : decode cX4_addSleeper 9 = .ok (.invokevirtual 46, 3) := by decide +kernel
theorem dX4_addSleeper_12 : decode cX4_addSleeper 12 = .ok (.iconst (-1), 1) := by decide +kernel
theorem dX4_addSleeper_13 : decode cX4_addSleeper 13 = .ok (.if_icmp .eq 9, 3) := by decide +kernel
theorem dX4_addSleeper_16 : decode cX4_addSleeper 16 = .ok (.iinc 3 1, 3) := by decide +kernel
theorem dX4_addSleeper_19 : decode cX4_addSleeper 19 = .ok (.goto (-17), 3) := by decide +kernel
theorem dX4_addSleeper_22 : decode cX4_addSleeper 22 = .ok (.aload_n 0, 1) := by decide +kernel
theorem dX4_addSleeper_23 : decode cX4_addSleeper 23 = .ok (.getfield 14, 3) := by decide +kernel
theorem dX4_addSleeper_26 : decode cX4_addSleeper 26 = .ok (.iload_n 1, 1) := by decide +kernel
theorem dX4_addSleeper_27 : decode cX4_addSleeper 27 = .ok (.iload_n 3, 1) := by decide +kernel
theorem dX4_addSleeper_28 : decode cX4_addSleeper 28 = .ok (.iload_n 2, 1) := by decide +kernel
theorem dX4_addSleeper_29 : decode cX4_addSleeper 29 = .ok (.iconst 0, 1) := by decide +kernel
theorem dX4_addSleeper_30 : decode cX4_addSleeper 30 = .ok (.invokevirtual 50, 3) := by decide +kernel
theorem dX4_addSleeper_33 : decode cX4_addSleeper 33 = .ok (.aload_n 0, 1) := by decide +kernel
theorem dX4_addSleeper_34 : decode cX4_addSleeper 34 = .ok (.getfield 32, 3) := by decide +kernel
theorem dX4_addSleeper_37 : decode cX4_addSleeper 37 = .ok (.invokevirtual 35, 3) := by decide +kernel
theorem dX4_addSleeper_40 : decode cX4_addSleeper 40 = .ok (.return_, 1) := by decide +kernel
theorem dX4_addFlower_0 : decode cX4_addFlower 0 = .ok (.aload_n 0, 1) := by decide +kernel
theorem dX4_addFlower_1 : decode cX4_addFlower 1 = .ok (.getfield 20, 3) := by decide +kernel
theorem dX4_addFlower_4 : decode cX4_addFlower 4 = .ok (.iload_n 1, 1) := by decide +kernel
theorem dX4_addFlower_5 : decode cX4_addFlower 5 = .ok (.iload_n 2, 1) := by decide +kernel
theorem dX4_addFlower_6 : decode cX4_addFlower 6 = .ok (.iload_n 3, 1) := by decide +kernel
theorem dX4_addFlower_7 : decode cX4_addFlower 7 = .ok (.iconst 0, 1) := by decide +kernel
theorem dX4_addFlower_8 : decode cX4_addFlower 8 = .ok (.invokevirtual 50, 3) := by decide +kernel
theorem dX4_addFlower_11 : decode cX4_addFlower 11 = .ok (.aload_n 0, 1) := by decide +kernel
theorem dX4_addFlower_12 : decode cX4_addFlower 12 = .ok (.getfield 32, 3) := by decide +kernel
theorem dX4_addFlower_15 : decode cX4_addFlower 15 = .ok (.invokevirtual 35, 3) := by decide +kernel
theorem dX4_addFlower_18 : decode cX4_addFlower 18 = .ok (.return_, 1) := by decide +kernel
theorem dX4_sleeperOn_0 : decode cX4_sleeperOn 0 = .ok (.iconst 0, 1) := by decide +kernel
theorem dX4_sleeperOn_1 : decode cX4_sleeperOn 1 = .ok (.istore_n 2, 1) := by decide +kernel
theorem dX4_sleeperOn_2 : decode cX4_sleeperOn 2 = .ok (.iload_n 2, 1) := by decide +kernel
theorem dX4_sleeperOn_3 : decode cX4_sleeperOn 3 = .ok (.aload_n 0, 1) := by decide +kernel
theorem dX4_sleeperOn_4 : decode cX4_sleeperOn 4 = .ok (.getfield 14, 3) := by decide +kernel
theorem dX4_sleeperOn_7 : decode cX4_sleeperOn 7 = .ok (.invokevirtual 54, 3) := by decide +kernel
theorem dX4_sleeperOn_10 : decode cX4_sleeperOn 10 = .ok (.if_icmp .ge 24, 3) := by decide +kernel
theorem dX4_sleeperOn_13 : decode cX4_sleeperOn 13 = .ok (.aload_n 0, 1) := by decide +kernel
theorem dX4_sleeperOn_14 : decode cX4_sleeperOn 14 = .ok (.getfield 14, 3) := by decide +kernel
theorem dX4_sleeperOn_17 : decode cX4_sleeperOn 17 = .ok (.iload_n 2, 1) := by decide +kernel
theorem dX4_sleeperOn_18 : decode cX4_sleeperOn 18 = .ok (.iconst 1, 1) := by decide +kernel
theorem dX4_sleeperOn_19 : decode cX4_sleeperOn 19 = .ok (.invokevirtual 58, 3) := by decide +kernel
theorem dX4_sleeperOn_22 : decode cX4_sleeperOn 22 = .ok (.iload_n 1, 1) := by decide +kernel
theorem dX4_sleeperOn_23 : decode cX4_sleeperOn 23 = .ok (.if_icmp .ne 5, 3) := by decide +kernel
theorem dX4_sleeperOn_26 : decode cX4_sleeperOn 26 = .ok (.iload_n 2, 1) := by decide +kernel
theorem dX4_sleeperOn_27 : decode cX4_sleeperOn 27 = .ok (.ireturn, 1) := by decide +kernel
theorem dX4_sleeperOn_28 : decode cX4_sleeperOn 28 = .ok (.iinc 2 1, 3) := by decide +kernel
theorem dX4_sleeperOn_31 : decode cX4_sleeperOn 31 = .ok (.goto (-29), 3) := by decide +kernel
theorem dX4_sleeperOn_34 : decode cX4_sleeperOn 34 = .ok (.iconst (-1), 1) := by decide +kernel
theorem dX4_sleeperOn_35 : decode cX4_sleeperOn 35 = .ok (.ireturn, 1) := by decide +kernel
theorem dX4_changePillows_0 : decode cX4_changePillows 0 = .ok (.aload_n 0, 1) := by decide +kernel
theorem dX4_changePillows_1 : decode cX4_changePillows 1 = .ok (.iload_n 1, 1) := by decide +kernel
theorem dX4_changePillows_2 : decode cX4_changePillows 2 = .ok (.invokevirtual 46, 3) := by decide +kernel
theorem dX4_changePillows_5 : decode cX4_changePillows 5 = .ok (.istore_n 3, 1) := by decide +kernel
theorem dX4_changePillows_6 : decode cX4_changePillows 6 = .ok (.aload_n 0, 1) := by decide +kernel
theorem dX4_changePillows_7 : decode cX4_changePillows 7 = .ok (.iload_n 2, 1) := by decide +kernel
theorem dX4_changePillows_8 : decode cX4_changePillows 8 = .ok (.invokevirtual 46, 3) := by decide +kernel
theorem dX4_changePillows_11 : decode cX4_changePillows 11 = .ok (.istore 4, 2) := by decide +kernel
theorem dX4_changePillows_13 : decode cX4_changePillows 13 = .ok (.aload_n 0, 1) := by decide +kernel
theorem dX4_changePillows_14 : decode cX4_changePillows 14 = .ok (.getfield 14, 3) := by decide +kernel
theorem dX4_changePillows_17 : decode cX4_changePillows 17 = .ok (.iload_n 3, 1) := by decide +kernel
theorem dX4_changePillows_18 : decode cX4_changePillows 18 = .ok (.iconst 1, 1) := by decide +kernel
theorem dX4_changePillows_19 : decode cX4_changePillows 19 = .ok (.iload_n 2, 1) := by decide +kernel
theorem dX4_changePillows_20 : decode cX4_changePillows 20 = .ok (.invokevirtual 62, 3) := by decide +kernel
theorem dX4_changePillows_23 : decode cX4_changePillows 23 = .ok (.aload_n 0, 1) := by decide +kernel
theorem dX4_changePillows_24 : decode cX4_changePillows 24 = .ok (.getfield 14, 3) := by decide +kernel
theorem dX4_changePillows_27 : decode cX4_changePillows 27 = .ok (.iload 4, 2) := by decide +kernel
theorem dX4_changePillows_29 : decode cX4_changePillows 29 = .ok (.iconst 1, 1) := by decide +kernel
theorem dX4_changePillows_30 : decode cX4_changePillows 30 = .ok (.iload_n 1, 1) := by decide +kernel
theorem dX4_changePillows_31 : decode cX4_changePillows 31 = .ok (.invokevirtual 62, 3) := by decide +kernel
theorem dX4_changePillows_34 : decode cX4_changePillows 34 = .ok (.return_, 1) := by decide +kernel
theorem dX4_passNights_0 : decode cX4_passNights 0 = .ok (.iconst 0, 1) := by decide +kernel
theorem dX4_passNights_1 : decode cX4_passNights 1 = .ok (.istore_n 2, 1) := by decide +kernel
theorem dX4_passNights_2 : decode cX4_passNights 2 = .ok (.iload_n 2, 1) := by decide +kernel
theorem dX4_passNights_3 : decode cX4_passNights 3 = .ok (.iload_n 1, 1) := by decide +kernel
theorem dX4_passNights_4 : decode cX4_passNights 4 = .ok (.if_icmp .ge 23, 3) := by decide +kernel
theorem dX4_passNights_7 : decode cX4_passNights 7 = .ok (.aload_n 0, 1) := by decide +kernel
theorem dX4_passNights_8 : decode cX4_passNights 8 = .ok (.getfield 38, 3) := by decide +kernel
theorem dX4_passNights_11 : decode cX4_passNights 11 = .ok (.sipush 999, 3) := by decide +kernel
theorem dX4_passNights_14 : decode cX4_passNights 14 = .ok (.if_icmp .ge 13, 3) := by decide +kernel
theorem dX4_passNights_17 : decode cX4_passNights 17 = .ok (.aload_n 0, 1) := by decide +kernel
theorem dX4_passNights_18 : decode cX4_passNights 18 = .ok (.invokevirtual 66, 3) := by decide +kernel
theorem dX4_passNights_21 : decode cX4_passNights 21 = .ok (.iinc 2 1, 3) := by decide +kernel
theorem dX4_passNights_24 : decode cX4_passNights 24 = .ok (.goto (-22), 3) := by decide +kernel
theorem dX4_passNights_27 : decode cX4_passNights 27 = .ok (.return_, 1) := by decide +kernel
theorem dX4_passNight_0 : decode cX4_passNight 0 = .ok (.iconst 0, 1) := by decide +kernel
theorem dX4_passNight_1 : decode cX4_passNight 1 = .ok (.istore_n 1, 1) := by decide +kernel
theorem dX4_passNight_2 : decode cX4_passNight 2 = .ok (.iload_n 1, 1) := by decide +kernel
theorem dX4_passNight_3 : decode cX4_passNight 3 = .ok (.aload_n 0, 1) := by decide +kernel
theorem dX4_passNight_4 : decode cX4_passNight 4 = .ok (.getfield 14, 3) := by decide +kernel
theorem dX4_passNight_7 : decode cX4_passNight 7 = .ok (.invokevirtual 54, 3) := by decide +kernel
theorem dX4_passNight_10 : decode cX4_passNight 10 = .ok (.if_icmp .ge 55, 3) := by decide +kernel
theorem dX4_passNight_13 : decode cX4_passNight 13 = .ok (.aload_n 0, 1) := by decide +kernel
theorem dX4_passNight_14 : decode cX4_passNight 14 = .ok (.getfield 14, 3) := by decide +kernel
theorem dX4_passNight_17 : decode cX4_passNight 17 = .ok (.iload_n 1, 1) := by decide +kernel
theorem dX4_passNight_18 : decode cX4_passNight 18 = .ok (.iconst 3, 1) := by decide +kernel
theorem dX4_passNight_19 : decode cX4_passNight 19 = .ok (.invokevirtual 58, 3) := by decide +kernel
theorem dX4_passNight_22 : decode cX4_passNight 22 = .ok (.aload_n 0, 1) := by decide +kernel
theorem dX4_passNight_23 : decode cX4_passNight 23 = .ok (.aload_n 0, 1) := by decide +kernel
theorem dX4_passNight_24 : decode cX4_passNight 24 = .ok (.getfield 14, 3) := by decide +kernel
theorem dX4_passNight_27 : decode cX4_passNight 27 = .ok (.iload_n 1, 1) := by decide +kernel
theorem dX4_passNight_28 : decode cX4_passNight 28 = .ok (.iconst 1, 1) := by decide +kernel
theorem dX4_passNight_29 : decode cX4_passNight 29 = .ok (.invokevirtual 58, 3) := by decide +kernel
theorem dX4_passNight_32 : decode cX4_passNight 32 = .ok (.iload_n 1, 1) := by decide +kernel
theorem dX4_passNight_33 : decode cX4_passNight 33 = .ok (.iconst (-1), 1) := by decide +kernel
theorem dX4_passNight_34 : decode cX4_passNight 34 = .ok (.aload_n 0, 1) := by decide +kernel
theorem dX4_passNight_35 : decode cX4_passNight 35 = .ok (.getfield 38, 3) := by decide +kernel
theorem dX4_passNight_38 : decode cX4_passNight 38 = .ok (.invokevirtual 69, 3) := by decide +kernel
theorem dX4_passNight_41 : decode cX4_passNight 41 = .ok (.iadd, 1) := by decide +kernel
theorem dX4_passNight_42 : decode cX4_passNight 42 = .ok (.istore_n 2, 1) := by decide +kernel
theorem dX4_passNight_43 : decode cX4_passNight 43 = .ok (.aload_n 0, 1) := by decide +kernel
theorem dX4_passNight_44 : decode cX4_passNight 44 = .ok (.getfield 14, 3) := by decide +kernel
theorem dX4_passNight_47 : decode cX4_passNight 47 = .ok (.iload_n 1, 1) := by decide +kernel
theorem dX4_passNight_48 : decode cX4_passNight 48 = .ok (.iconst 3, 1) := by decide +kernel
theorem dX4_passNight_49 : decode cX4_passNight 49 = .ok (.sipush 999, 3) := by decide +kernel
theorem dX4_passNight_52 : decode cX4_passNight 52 = .ok (.iload_n 2, 1) := by decide +kernel
theorem dX4_passNight_53 : decode cX4_passNight 53 = .ok (.invokestatic 73, 3) := by decide +kernel
theorem dX4_passNight_56 : decode cX4_passNight 56 = .ok (.invokevirtual 62, 3) := by decide +kernel
theorem dX4_passNight_59 : decode cX4_passNight 59 = .ok (.iinc 1 1, 3) := by decide +kernel
theorem dX4_passNight_62 : decode cX4_passNight 62 = .ok (.goto (-60), 3) := by decide +kernel
theorem dX4_passNight_65 : decode cX4_passNight 65 = .ok (.aload_n 0, 1) := by decide +kernel
theorem dX4_passNight_66 : decode cX4_passNight 66 = .ok (.dup, 1) := by decide +kernel
theorem dX4_passNight_67 : decode cX4_passNight 67 = .ok (.getfield 38, 3) := by decide +kernel
theorem dX4_passNight_70 : decode cX4_passNight 70 = .ok (.iconst 1, 1) := by decide +kernel
theorem dX4_passNight_71 : decode cX4_passNight 71 = .ok (.iadd, 1) := by decide +kernel
theorem dX4_passNight_72 : decode cX4_passNight 72 = .ok (.putfield 38, 3) := by decide +kernel
theorem dX4_passNight_75 : decode cX4_passNight 75 = .ok (.return_, 1) := by decide +kernel
theorem dX4_doing_0 : decode cX4_doing 0 = .ok (.iconst 0, 1) := by decide +kernel
theorem dX4_doing_1 : decode cX4_doing 1 = .ok (.istore_n 1, 1) := by decide +kernel
theorem dX4_doing_2 : decode cX4_doing 2 = .ok (.iconst 0, 1) := by decide +kernel
theorem dX4_doing_3 : decode cX4_doing 3 = .ok (.istore_n 2, 1) := by decide +kernel
theorem dX4_doing_4 : decode cX4_doing 4 = .ok (.iload_n 2, 1) := by decide +kernel
theorem dX4_doing_5 : decode cX4_doing 5 = .ok (.aload_n 0, 1) := by decide +kernel
theorem dX4_doing_6 : decode cX4_doing 6 = .ok (.getfield 14, 3) := by decide +kernel
theorem dX4_doing_9 : decode cX4_doing 9 = .ok (.invokevirtual 54, 3) := by decide +kernel
theorem dX4_doing_12 : decode cX4_doing 12 = .ok (.if_icmp .ge 26, 3) := by decide +kernel
theorem dX4_doing_15 : decode cX4_doing 15 = .ok (.aload_n 0, 1) := by decide +kernel
theorem dX4_doing_16 : decode cX4_doing 16 = .ok (.getfield 14, 3) := by decide +kernel
theorem dX4_doing_19 : decode cX4_doing 19 = .ok (.iload_n 2, 1) := by decide +kernel
theorem dX4_doing_20 : decode cX4_doing 20 = .ok (.iconst 3, 1) := by decide +kernel
theorem dX4_doing_21 : decode cX4_doing 21 = .ok (.invokevirtual 58, 3) := by decide +kernel
theorem dX4_doing_24 : decode cX4_doing 24 = .ok (.bipush 20, 2) := by decide +kernel
theorem dX4_doing_26 : decode cX4_doing 26 = .ok (.if_icmp .lt 6, 3) := by decide +kernel
theorem dX4_doing_29 : decode cX4_doing 29 = .ok (.iinc 1 1, 3) := by decide +kernel
theorem dX4_doing_32 : decode cX4_doing 32 = .ok (.iinc 2 1, 3) := by decide +kernel
theorem dX4_doing_35 : decode cX4_doing 35 = .ok (.goto (-31), 3) := by decide +kernel
theorem dX4_doing_38 : decode cX4_doing 38 = .ok (.iload_n 1, 1) := by decide +kernel
theorem dX4_doing_39 : decode cX4_doing 39 = .ok (.ireturn, 1) := by decide +kernel
theorem dX4_mindsTogether_0 : decode cX4_mindsTogether 0 = .ok (.iconst 0, 1) := by decide +kernel
theorem dX4_mindsTogether_1 : decode cX4_mindsTogether 1 = .ok (.istore_n 1, 1) := by decide +kernel
theorem dX4_mindsTogether_2 : decode cX4_mindsTogether 2 = .ok (.iconst 0, 1) := by decide +kernel
theorem dX4_mindsTogether_3 : decode cX4_mindsTogether 3 = .ok (.istore_n 2, 1) := by decide +kernel
theorem dX4_mindsTogether_4 : decode cX4_mindsTogether 4 = .ok (.iload_n 2, 1) := by decide +kernel
theorem dX4_mindsTogether_5 : decode cX4_mindsTogether 5 = .ok (.aload_n 0, 1) := by decide +kernel
theorem dX4_mindsTogether_6 : decode cX4_mindsTogether 6 = .ok (.getfield 14, 3) := by decide +kernel
theorem dX4_mindsTogether_9 : decode cX4_mindsTogether 9 = .ok (.invokevirtual 54, 3) := by decide +kernel
theorem dX4_mindsTogether_12 : decode cX4_mindsTogether 12 = .ok (.if_icmp .ge 21, 3) := by decide +kernel
theorem dX4_mindsTogether_15 : decode cX4_mindsTogether 15 = .ok (.iload_n 1, 1) := by decide +kernel
theorem dX4_mindsTogether_16 : decode cX4_mindsTogether 16 = .ok (.aload_n 0, 1) := by decide +kernel
theorem dX4_mindsTogether_17 : decode cX4_mindsTogether 17 = .ok (.getfield 14, 3) := by decide +kernel
theorem dX4_mindsTogether_20 : decode cX4_mindsTogether 20 = .ok (.iload_n 2, 1) := by decide +kernel
theorem dX4_mindsTogether_21 : decode cX4_mindsTogether 21 = .ok (.iconst 3, 1) := by decide +kernel
theorem dX4_mindsTogether_22 : decode cX4_mindsTogether 22 = .ok (.invokevirtual 58, 3) := by decide +kernel
theorem dX4_mindsTogether_25 : decode cX4_mindsTogether 25 = .ok (.iadd, 1) := by decide +kernel
theorem dX4_mindsTogether_26 : decode cX4_mindsTogether 26 = .ok (.istore_n 1, 1) := by decide +kernel
theorem dX4_mindsTogether_27 : decode cX4_mindsTogether 27 = .ok (.iinc 2 1, 3) := by decide +kernel
theorem dX4_mindsTogether_30 : decode cX4_mindsTogether 30 = .ok (.goto (-26), 3) := by decide +kernel
theorem dX4_mindsTogether_33 : decode cX4_mindsTogether 33 = .ok (.iload_n 1, 1) := by decide +kernel
theorem dX4_mindsTogether_34 : decode cX4_mindsTogether 34 = .ok (.ireturn, 1) := by decide +kernel
theorem dX4_toldBy_0 : decode cX4_toldBy 0 = .ok (.aload_n 0, 1) := by decide +kernel
theorem dX4_toldBy_1 : decode cX4_toldBy 1 = .ok (.getfield 20, 3) := by decide +kernel
theorem dX4_toldBy_4 : decode cX4_toldBy 4 = .ok (.iload_n 1, 1) := by decide +kernel
theorem dX4_toldBy_5 : decode cX4_toldBy 5 = .ok (.iconst 0, 1) := by decide +kernel
theorem dX4_toldBy_6 : decode cX4_toldBy 6 = .ok (.invokevirtual 58, 3) := by decide +kernel
theorem dX4_toldBy_9 : decode cX4_toldBy 9 = .ok (.aload_n 0, 1) := by decide +kernel
theorem dX4_toldBy_10 : decode cX4_toldBy 10 = .ok (.getfield 20, 3) := by decide +kernel
theorem dX4_toldBy_13 : decode cX4_toldBy 13 = .ok (.iload_n 1, 1) := by decide +kernel
theorem dX4_toldBy_14 : decode cX4_toldBy 14 = .ok (.iconst 1, 1) := by decide +kernel
theorem dX4_toldBy_15 : decode cX4_toldBy 15 = .ok (.invokevirtual 58, 3) := by decide +kernel
theorem dX4_toldBy_18 : decode cX4_toldBy 18 = .ok (.iload_n 2, 1) := by decide +kernel
theorem dX4_toldBy_19 : decode cX4_toldBy 19 = .ok (.invokestatic 78, 3) := by decide +kernel
theorem dX4_toldBy_22 : decode cX4_toldBy 22 = .ok (.ireturn, 1) := by decide +kernel
theorem dX4_believedOf_0 : decode cX4_believedOf 0 = .ok (.aload_n 0, 1) := by decide +kernel
theorem dX4_believedOf_1 : decode cX4_believedOf 1 = .ok (.getfield 14, 3) := by decide +kernel
theorem dX4_believedOf_4 : decode cX4_believedOf 4 = .ok (.iload_n 1, 1) := by decide +kernel
theorem dX4_believedOf_5 : decode cX4_believedOf 5 = .ok (.iconst 0, 1) := by decide +kernel
theorem dX4_believedOf_6 : decode cX4_believedOf 6 = .ok (.invokevirtual 58, 3) := by decide +kernel
theorem dX4_believedOf_9 : decode cX4_believedOf 9 = .ok (.aload_n 0, 1) := by decide +kernel
theorem dX4_believedOf_10 : decode cX4_believedOf 10 = .ok (.iload_n 2, 1) := by decide +kernel
theorem dX4_believedOf_11 : decode cX4_believedOf 11 = .ok (.iload_n 3, 1) := by decide +kernel
theorem dX4_believedOf_12 : decode cX4_believedOf 12 = .ok (.invokevirtual 82, 3) := by decide +kernel
theorem dX4_believedOf_15 : decode cX4_believedOf 15 = .ok (.aload_n 0, 1) := by decide +kernel
theorem dX4_believedOf_16 : decode cX4_believedOf 16 = .ok (.getfield 14, 3) := by decide +kernel
theorem dX4_believedOf_19 : decode cX4_believedOf 19 = .ok (.iload_n 1, 1) := by decide +kernel
theorem dX4_believedOf_20 : decode cX4_believedOf 20 = .ok (.iconst 2, 1) := by decide +kernel
theorem dX4_believedOf_21 : decode cX4_believedOf 21 = .ok (.invokevirtual 58, 3) := by decide +kernel
theorem dX4_believedOf_24 : decode cX4_believedOf 24 = .ok (.invokestatic 85, 3) := by decide +kernel
theorem dX4_believedOf_27 : decode cX4_believedOf 27 = .ok (.ireturn, 1) := by decide +kernel
theorem dX4_believedOn_0 : decode cX4_believedOn 0 = .ok (.aload_n 0, 1) := by decide +kernel
theorem dX4_believedOn_1 : decode cX4_believedOn 1 = .ok (.getfield 14, 3) := by decide +kernel
theorem dX4_believedOn_4 : decode cX4_believedOn 4 = .ok (.iload_n 2, 1) := by decide +kernel
theorem dX4_believedOn_5 : decode cX4_believedOn 5 = .ok (.iconst 0, 1) := by decide +kernel
theorem dX4_believedOn_6 : decode cX4_believedOn 6 = .ok (.invokevirtual 58, 3) := by decide +kernel
theorem dX4_believedOn_9 : decode cX4_believedOn 9 = .ok (.istore 5, 2) := by decide +kernel
theorem dX4_believedOn_11 : decode cX4_believedOn 11 = .ok (.aload_n 0, 1) := by decide +kernel
theorem dX4_believedOn_12 : decode cX4_believedOn 12 = .ok (.getfield 14, 3) := by decide +kernel
theorem dX4_believedOn_15 : decode cX4_believedOn 15 = .ok (.iload_n 2, 1) := by decide +kernel
theorem dX4_believedOn_16 : decode cX4_believedOn 16 = .ok (.iconst 2, 1) := by decide +kernel
theorem dX4_believedOn_17 : decode cX4_believedOn 17 = .ok (.invokevirtual 58, 3) := by decide +kernel
theorem dX4_believedOn_20 : decode cX4_believedOn 20 = .ok (.istore 6, 2) := by decide +kernel
theorem dX4_believedOn_22 : decode cX4_believedOn 22 = .ok (.iconst 0, 1) := by decide +kernel
theorem dX4_believedOn_23 : decode cX4_believedOn 23 = .ok (.istore 7, 2) := by decide +kernel
theorem dX4_believedOn_25 : decode cX4_believedOn 25 = .ok (.iconst 0, 1) := by decide +kernel
theorem dX4_believedOn_26 : decode cX4_believedOn 26 = .ok (.istore 8, 2) := by decide +kernel
theorem dX4_believedOn_28 : decode cX4_believedOn 28 = .ok (.iload 8, 2) := by decide +kernel
theorem dX4_believedOn_30 : decode cX4_believedOn 30 = .ok (.aload_n 0, 1) := by decide +kernel
theorem dX4_believedOn_31 : decode cX4_believedOn 31 = .ok (.getfield 20, 3) := by decide +kernel
theorem dX4_believedOn_34 : decode cX4_believedOn 34 = .ok (.invokevirtual 54, 3) := by decide +kernel
theorem dX4_believedOn_37 : decode cX4_believedOn 37 = .ok (.if_icmp .ge 49, 3) := by decide +kernel
theorem dX4_believedOn_40 : decode cX4_believedOn 40 = .ok (.aload_n 0, 1) := by decide +kernel
theorem dX4_believedOn_41 : decode cX4_believedOn 41 = .ok (.getfield 20, 3) := by decide +kernel
theorem dX4_believedOn_44 : decode cX4_believedOn 44 = .ok (.iload 8, 2) := by decide +kernel
theorem dX4_believedOn_46 : decode cX4_believedOn 46 = .ok (.iconst 2, 1) := by decide +kernel
theorem dX4_believedOn_47 : decode cX4_believedOn 47 = .ok (.invokevirtual 58, 3) := by decide +kernel
theorem dX4_believedOn_50 : decode cX4_believedOn 50 = .ok (.iload_n 1, 1) := by decide +kernel
theorem dX4_believedOn_51 : decode cX4_believedOn 51 = .ok (.if_icmp .eq 9, 3) := by decide +kernel
theorem dX4_believedOn_54 : decode cX4_believedOn 54 = .ok (.iload 8, 2) := by decide +kernel
theorem dX4_believedOn_56 : decode cX4_believedOn 56 = .ok (.iload_n 3, 1) := by decide +kernel
theorem dX4_believedOn_57 : decode cX4_believedOn 57 = .ok (.if_icmp .ne 23, 3) := by decide +kernel
theorem dX4_believedOn_60 : decode cX4_believedOn 60 = .ok (.iload 7, 2) := by decide +kernel
theorem dX4_believedOn_62 : decode cX4_believedOn 62 = .ok (.iload 5, 2) := by decide +kernel
theorem dX4_believedOn_64 : decode cX4_believedOn 64 = .ok (.aload_n 0, 1) := by decide +kernel
theorem dX4_believedOn_65 : decode cX4_believedOn 65 = .ok (.iload 8, 2) := by decide +kernel
theorem dX4_believedOn_67 : decode cX4_believedOn 67 = .ok (.iload 4, 2) := by decide +kernel
theorem dX4_believedOn_69 : decode cX4_believedOn 69 = .ok (.invokevirtual 82, 3) := by decide +kernel
theorem dX4_believedOn_72 : decode cX4_believedOn 72 = .ok (.iload 6, 2) := by decide +kernel
theorem dX4_believedOn_74 : decode cX4_believedOn 74 = .ok (.invokestatic 85, 3) := by decide +kernel
theorem dX4_believedOn_77 : decode cX4_believedOn 77 = .ok (.iadd, 1) := by decide +kernel
theorem dX4_believedOn_78 : decode cX4_believedOn 78 = .ok (.istore 7, 2) := by decide +kernel
theorem dX4_believedOn_80 : decode cX4_believedOn 80 = .ok (.iinc 8 1, 3) := by decide +kernel
theorem dX4_believedOn_83 : decode cX4_believedOn 83 = .ok (.goto (-55), 3) := by decide +kernel
theorem dX4_believedOn_86 : decode cX4_believedOn 86 = .ok (.iload 7, 2) := by decide +kernel
theorem dX4_believedOn_88 : decode cX4_believedOn 88 = .ok (.ireturn, 1) := by decide +kernel
theorem dX4_remember_0 : decode cX4_remember 0 = .ok (.aload_n 0, 1) := by decide +kernel
theorem dX4_remember_1 : decode cX4_remember 1 = .ok (.getfield 32, 3) := by decide +kernel
theorem dX4_remember_4 : decode cX4_remember 4 = .ok (.invokevirtual 88, 3) := by decide +kernel
theorem dX4_remember_7 : decode cX4_remember 7 = .ok (.ifCond .eq 10, 3) := by decide +kernel
theorem dX4_remember_10 : decode cX4_remember 10 = .ok (.aload_n 0, 1) := by decide +kernel
theorem dX4_remember_11 : decode cX4_remember 11 = .ok (.getfield 32, 3) := by decide +kernel
theorem dX4_remember_14 : decode cX4_remember 14 = .ok (.invokevirtual 92, 3) := by decide +kernel
theorem dX4_remember_17 : decode cX4_remember 17 = .ok (.aload_n 0, 1) := by decide +kernel
theorem dX4_remember_18 : decode cX4_remember 18 = .ok (.getfield 32, 3) := by decide +kernel
theorem dX4_remember_21 : decode cX4_remember 21 = .ok (.iconst 0, 1) := by decide +kernel
theorem dX4_remember_22 : decode cX4_remember 22 = .ok (.iconst 0, 1) := by decide +kernel
theorem dX4_remember_23 : decode cX4_remember 23 = .ok (.iconst 0, 1) := by decide +kernel
theorem dX4_remember_24 : decode cX4_remember 24 = .ok (.iconst 0, 1) := by decide +kernel
theorem dX4_remember_25 : decode cX4_remember 25 = .ok (.invokevirtual 50, 3) := by decide +kernel
theorem dX4_remember_28 : decode cX4_remember 28 = .ok (.aload_n 0, 1) := by decide +kernel
theorem dX4_remember_29 : decode cX4_remember 29 = .ok (.getfield 32, 3) := by decide +kernel
theorem dX4_remember_32 : decode cX4_remember 32 = .ok (.invokevirtual 54, 3) := by decide +kernel
theorem dX4_remember_35 : decode cX4_remember 35 = .ok (.iconst 1, 1) := by decide +kernel
theorem dX4_remember_36 : decode cX4_remember 36 = .ok (.isub, 1) := by decide +kernel
theorem dX4_remember_37 : decode cX4_remember 37 = .ok (.istore_n 1, 1) := by decide +kernel
theorem dX4_remember_38 : decode cX4_remember 38 = .ok (.iconst 0, 1) := by decide +kernel
theorem dX4_remember_39 : decode cX4_remember 39 = .ok (.istore_n 2, 1) := by decide +kernel
theorem dX4_remember_40 : decode cX4_remember 40 = .ok (.iload_n 2, 1) := by decide +kernel
theorem dX4_remember_41 : decode cX4_remember 41 = .ok (.aload_n 0, 1) := by decide +kernel
theorem dX4_remember_42 : decode cX4_remember 42 = .ok (.getfield 14, 3) := by decide +kernel
theorem dX4_remember_45 : decode cX4_remember 45 = .ok (.invokevirtual 54, 3) := by decide +kernel
theorem dX4_remember_48 : decode cX4_remember 48 = .ok (.if_icmp .ge 71, 3) := by decide +kernel
theorem dX4_remember_51 : decode cX4_remember 51 = .ok (.aload_n 0, 1) := by decide +kernel
theorem dX4_remember_52 : decode cX4_remember 52 = .ok (.getfield 32, 3) := by decide +kernel
theorem dX4_remember_55 : decode cX4_remember 55 = .ok (.iload_n 1, 1) := by decide +kernel
theorem dX4_remember_56 : decode cX4_remember 56 = .ok (.iconst 0, 1) := by decide +kernel
theorem dX4_remember_57 : decode cX4_remember 57 = .ok (.iload_n 2, 1) := by decide +kernel
theorem dX4_remember_58 : decode cX4_remember 58 = .ok (.iadd, 1) := by decide +kernel
theorem dX4_remember_59 : decode cX4_remember 59 = .ok (.aload_n 0, 1) := by decide +kernel
theorem dX4_remember_60 : decode cX4_remember 60 = .ok (.getfield 14, 3) := by decide +kernel
theorem dX4_remember_63 : decode cX4_remember 63 = .ok (.iload_n 2, 1) := by decide +kernel
theorem dX4_remember_64 : decode cX4_remember 64 = .ok (.iconst 1, 1) := by decide +kernel
theorem dX4_remember_65 : decode cX4_remember 65 = .ok (.invokevirtual 58, 3) := by decide +kernel
theorem dX4_remember_68 : decode cX4_remember 68 = .ok (.invokevirtual 62, 3) := by decide +kernel
theorem dX4_remember_71 : decode cX4_remember 71 = .ok (.aload_n 0, 1) := by decide +kernel
theorem dX4_remember_72 : decode cX4_remember 72 = .ok (.getfield 32, 3) := by decide +kernel
theorem dX4_remember_75 : decode cX4_remember 75 = .ok (.iload_n 1, 1) := by decide +kernel
theorem dX4_remember_76 : decode cX4_remember 76 = .ok (.bipush 6, 2) := by decide +kernel
theorem dX4_remember_78 : decode cX4_remember 78 = .ok (.iload_n 2, 1) := by decide +kernel
theorem dX4_remember_79 : decode cX4_remember 79 = .ok (.iadd, 1) := by decide +kernel
theorem dX4_remember_80 : decode cX4_remember 80 = .ok (.aload_n 0, 1) := by decide +kernel
theorem dX4_remember_81 : decode cX4_remember 81 = .ok (.getfield 14, 3) := by decide +kernel
theorem dX4_remember_84 : decode cX4_remember 84 = .ok (.iload_n 2, 1) := by decide +kernel
theorem dX4_remember_85 : decode cX4_remember 85 = .ok (.iconst 2, 1) := by decide +kernel
theorem dX4_remember_86 : decode cX4_remember 86 = .ok (.invokevirtual 58, 3) := by decide +kernel
theorem dX4_remember_89 : decode cX4_remember 89 = .ok (.invokevirtual 62, 3) := by decide +kernel
theorem dX4_remember_92 : decode cX4_remember 92 = .ok (.aload_n 0, 1) := by decide +kernel
theorem dX4_remember_93 : decode cX4_remember 93 = .ok (.getfield 32, 3) := by decide +kernel
theorem dX4_remember_96 : decode cX4_remember 96 = .ok (.iload_n 1, 1) := by decide +kernel
theorem dX4_remember_97 : decode cX4_remember 97 = .ok (.bipush 12, 2) := by decide +kernel
theorem dX4_remember_99 : decode cX4_remember 99 = .ok (.iload_n 2, 1) := by decide +kernel
theorem dX4_remember_100 : decode cX4_remember 100 = .ok (.iadd, 1) := by decide +kernel
theorem dX4_remember_101 : decode cX4_remember 101 = .ok (.aload_n 0, 1) := by decide +kernel
theorem dX4_remember_102 : decode cX4_remember 102 = .ok (.getfield 14, 3) := by decide +kernel
theorem dX4_remember_105 : decode cX4_remember 105 = .ok (.iload_n 2, 1) := by decide +kernel
theorem dX4_remember_106 : decode cX4_remember 106 = .ok (.iconst 3, 1) := by decide +kernel
theorem dX4_remember_107 : decode cX4_remember 107 = .ok (.invokevirtual 58, 3) := by decide +kernel
theorem dX4_remember_110 : decode cX4_remember 110 = .ok (.invokevirtual 62, 3) := by decide +kernel
theorem dX4_remember_113 : decode cX4_remember 113 = .ok (.iinc 2 1, 3) := by decide +kernel
theorem dX4_remember_116 : decode cX4_remember 116 = .ok (.goto (-76), 3) := by decide +kernel
theorem dX4_remember_119 : decode cX4_remember 119 = .ok (.iconst 0, 1) := by decide +kernel
theorem dX4_remember_120 : decode cX4_remember 120 = .ok (.istore_n 2, 1) := by decide +kernel
theorem dX4_remember_121 : decode cX4_remember 121 = .ok (.iload_n 2, 1) := by decide +kernel
theorem dX4_remember_122 : decode cX4_remember 122 = .ok (.aload_n 0, 1) := by decide +kernel
theorem dX4_remember_123 : decode cX4_remember 123 = .ok (.getfield 20, 3) := by decide +kernel
theorem dX4_remember_126 : decode cX4_remember 126 = .ok (.invokevirtual 54, 3) := by decide +kernel
theorem dX4_remember_129 : decode cX4_remember 129 = .ok (.if_icmp .ge 30, 3) := by decide +kernel
theorem dX4_remember_132 : decode cX4_remember 132 = .ok (.aload_n 0, 1) := by decide +kernel
theorem dX4_remember_133 : decode cX4_remember 133 = .ok (.getfield 32, 3) := by decide +kernel
theorem dX4_remember_136 : decode cX4_remember 136 = .ok (.iload_n 1, 1) := by decide +kernel
theorem dX4_remember_137 : decode cX4_remember 137 = .ok (.bipush 18, 2) := by decide +kernel
theorem dX4_remember_139 : decode cX4_remember 139 = .ok (.iload_n 2, 1) := by decide +kernel
theorem dX4_remember_140 : decode cX4_remember 140 = .ok (.iadd, 1) := by decide +kernel
theorem dX4_remember_141 : decode cX4_remember 141 = .ok (.aload_n 0, 1) := by decide +kernel
theorem dX4_remember_142 : decode cX4_remember 142 = .ok (.getfield 20, 3) := by decide +kernel
theorem dX4_remember_145 : decode cX4_remember 145 = .ok (.iload_n 2, 1) := by decide +kernel
theorem dX4_remember_146 : decode cX4_remember 146 = .ok (.iconst 2, 1) := by decide +kernel
theorem dX4_remember_147 : decode cX4_remember 147 = .ok (.invokevirtual 58, 3) := by decide +kernel
theorem dX4_remember_150 : decode cX4_remember 150 = .ok (.invokevirtual 62, 3) := by decide +kernel
theorem dX4_remember_153 : decode cX4_remember 153 = .ok (.iinc 2 1, 3) := by decide +kernel
theorem dX4_remember_156 : decode cX4_remember 156 = .ok (.goto (-35), 3) := by decide +kernel
theorem dX4_remember_159 : decode cX4_remember 159 = .ok (.aload_n 0, 1) := by decide +kernel
theorem dX4_remember_160 : decode cX4_remember 160 = .ok (.getfield 32, 3) := by decide +kernel
theorem dX4_remember_163 : decode cX4_remember 163 = .ok (.iload_n 1, 1) := by decide +kernel
theorem dX4_remember_164 : decode cX4_remember 164 = .ok (.bipush 24, 2) := by decide +kernel
theorem dX4_remember_166 : decode cX4_remember 166 = .ok (.aload_n 0, 1) := by decide +kernel
theorem dX4_remember_167 : decode cX4_remember 167 = .ok (.getfield 38, 3) := by decide +kernel
theorem dX4_remember_170 : decode cX4_remember 170 = .ok (.invokevirtual 62, 3) := by decide +kernel
theorem dX4_remember_173 : decode cX4_remember 173 = .ok (.return_, 1) := by decide +kernel
theorem dX4_goBack_0 : decode cX4_goBack 0 = .ok (.aload_n 0, 1) := by decide +kernel
theorem dX4_goBack_1 : decode cX4_goBack 1 = .ok (.getfield 32, 3) := by decide +kernel
theorem dX4_goBack_4 : decode cX4_goBack 4 = .ok (.invokevirtual 54, 3) := by decide +kernel
theorem dX4_goBack_7 : decode cX4_goBack 7 = .ok (.iconst 1, 1) := by decide +kernel
theorem dX4_goBack_8 : decode cX4_goBack 8 = .ok (.isub, 1) := by decide +kernel
theorem dX4_goBack_9 : decode cX4_goBack 9 = .ok (.istore_n 1, 1) := by decide +kernel
theorem dX4_goBack_10 : decode cX4_goBack 10 = .ok (.iconst 0, 1) := by decide +kernel
theorem dX4_goBack_11 : decode cX4_goBack 11 = .ok (.istore_n 2, 1) := by decide +kernel
theorem dX4_goBack_12 : decode cX4_goBack 12 = .ok (.iload_n 2, 1) := by decide +kernel
theorem dX4_goBack_13 : decode cX4_goBack 13 = .ok (.aload_n 0, 1) := by decide +kernel
theorem dX4_goBack_14 : decode cX4_goBack 14 = .ok (.getfield 14, 3) := by decide +kernel
theorem dX4_goBack_17 : decode cX4_goBack 17 = .ok (.invokevirtual 54, 3) := by decide +kernel
theorem dX4_goBack_20 : decode cX4_goBack 20 = .ok (.if_icmp .ge 71, 3) := by decide +kernel
theorem dX4_goBack_23 : decode cX4_goBack 23 = .ok (.aload_n 0, 1) := by decide +kernel
theorem dX4_goBack_24 : decode cX4_goBack 24 = .ok (.getfield 14, 3) := by decide +kernel
theorem dX4_goBack_27 : decode cX4_goBack 27 = .ok (.iload_n 2, 1) := by decide +kernel
theorem dX4_goBack_28 : decode cX4_goBack 28 = .ok (.iconst 1, 1) := by decide +kernel
theorem dX4_goBack_29 : decode cX4_goBack 29 = .ok (.aload_n 0, 1) := by decide +kernel
theorem dX4_goBack_30 : decode cX4_goBack 30 = .ok (.getfield 32, 3) := by decide +kernel
theorem dX4_goBack_33 : decode cX4_goBack 33 = .ok (.iload_n 1, 1) := by decide +kernel
theorem dX4_goBack_34 : decode cX4_goBack 34 = .ok (.iconst 0, 1) := by decide +kernel
theorem dX4_goBack_35 : decode cX4_goBack 35 = .ok (.iload_n 2, 1) := by decide +kernel
theorem dX4_goBack_36 : decode cX4_goBack 36 = .ok (.iadd, 1) := by decide +kernel
theorem dX4_goBack_37 : decode cX4_goBack 37 = .ok (.invokevirtual 58, 3) := by decide +kernel
theorem dX4_goBack_40 : decode cX4_goBack 40 = .ok (.invokevirtual 62, 3) := by decide +kernel
theorem dX4_goBack_43 : decode cX4_goBack 43 = .ok (.aload_n 0, 1) := by decide +kernel
theorem dX4_goBack_44 : decode cX4_goBack 44 = .ok (.getfield 14, 3) := by decide +kernel
theorem dX4_goBack_47 : decode cX4_goBack 47 = .ok (.iload_n 2, 1) := by decide +kernel
theorem dX4_goBack_48 : decode cX4_goBack 48 = .ok (.iconst 2, 1) := by decide +kernel
theorem dX4_goBack_49 : decode cX4_goBack 49 = .ok (.aload_n 0, 1) := by decide +kernel
theorem dX4_goBack_50 : decode cX4_goBack 50 = .ok (.getfield 32, 3) := by decide +kernel
theorem dX4_goBack_53 : decode cX4_goBack 53 = .ok (.iload_n 1, 1) := by decide +kernel
theorem dX4_goBack_54 : decode cX4_goBack 54 = .ok (.bipush 6, 2) := by decide +kernel
theorem dX4_goBack_56 : decode cX4_goBack 56 = .ok (.iload_n 2, 1) := by decide +kernel
theorem dX4_goBack_57 : decode cX4_goBack 57 = .ok (.iadd, 1) := by decide +kernel
theorem dX4_goBack_58 : decode cX4_goBack 58 = .ok (.invokevirtual 58, 3) := by decide +kernel
theorem dX4_goBack_61 : decode cX4_goBack 61 = .ok (.invokevirtual 62, 3) := by decide +kernel
theorem dX4_goBack_64 : decode cX4_goBack 64 = .ok (.aload_n 0, 1) := by decide +kernel
theorem dX4_goBack_65 : decode cX4_goBack 65 = .ok (.getfield 14, 3) := by decide +kernel
theorem dX4_goBack_68 : decode cX4_goBack 68 = .ok (.iload_n 2, 1) := by decide +kernel
theorem dX4_goBack_69 : decode cX4_goBack 69 = .ok (.iconst 3, 1) := by decide +kernel
theorem dX4_goBack_70 : decode cX4_goBack 70 = .ok (.aload_n 0, 1) := by decide +kernel
theorem dX4_goBack_71 : decode cX4_goBack 71 = .ok (.getfield 32, 3) := by decide +kernel
theorem dX4_goBack_74 : decode cX4_goBack 74 = .ok (.iload_n 1, 1) := by decide +kernel
theorem dX4_goBack_75 : decode cX4_goBack 75 = .ok (.bipush 12, 2) := by decide +kernel
theorem dX4_goBack_77 : decode cX4_goBack 77 = .ok (.iload_n 2, 1) := by decide +kernel
theorem dX4_goBack_78 : decode cX4_goBack 78 = .ok (.iadd, 1) := by decide +kernel
theorem dX4_goBack_79 : decode cX4_goBack 79 = .ok (.invokevirtual 58, 3) := by decide +kernel
theorem dX4_goBack_82 : decode cX4_goBack 82 = .ok (.invokevirtual 62, 3) := by decide +kernel
theorem dX4_goBack_85 : decode cX4_goBack 85 = .ok (.iinc 2 1, 3) := by decide +kernel
theorem dX4_goBack_88 : decode cX4_goBack 88 = .ok (.goto (-76), 3) := by decide +kernel
theorem dX4_goBack_91 : decode cX4_goBack 91 = .ok (.iconst 0, 1) := by decide +kernel
theorem dX4_goBack_92 : decode cX4_goBack 92 = .ok (.istore_n 2, 1) := by decide +kernel
theorem dX4_goBack_93 : decode cX4_goBack 93 = .ok (.iload_n 2, 1) := by decide +kernel
theorem dX4_goBack_94 : decode cX4_goBack 94 = .ok (.aload_n 0, 1) := by decide +kernel
theorem dX4_goBack_95 : decode cX4_goBack 95 = .ok (.getfield 20, 3) := by decide +kernel
theorem dX4_goBack_98 : decode cX4_goBack 98 = .ok (.invokevirtual 54, 3) := by decide +kernel
theorem dX4_goBack_101 : decode cX4_goBack 101 = .ok (.if_icmp .ge 30, 3) := by decide +kernel
theorem dX4_goBack_104 : decode cX4_goBack 104 = .ok (.aload_n 0, 1) := by decide +kernel
theorem dX4_goBack_105 : decode cX4_goBack 105 = .ok (.getfield 20, 3) := by decide +kernel
theorem dX4_goBack_108 : decode cX4_goBack 108 = .ok (.iload_n 2, 1) := by decide +kernel
theorem dX4_goBack_109 : decode cX4_goBack 109 = .ok (.iconst 2, 1) := by decide +kernel
theorem dX4_goBack_110 : decode cX4_goBack 110 = .ok (.aload_n 0, 1) := by decide +kernel
theorem dX4_goBack_111 : decode cX4_goBack 111 = .ok (.getfield 32, 3) := by decide +kernel
theorem dX4_goBack_114 : decode cX4_goBack 114 = .ok (.iload_n 1, 1) := by decide +kernel
theorem dX4_goBack_115 : decode cX4_goBack 115 = .ok (.bipush 18, 2) := by decide +kernel
theorem dX4_goBack_117 : decode cX4_goBack 117 = .ok (.iload_n 2, 1) := by decide +kernel
theorem dX4_goBack_118 : decode cX4_goBack 118 = .ok (.iadd, 1) := by decide +kernel
theorem dX4_goBack_119 : decode cX4_goBack 119 = .ok (.invokevirtual 58, 3) := by decide +kernel
theorem dX4_goBack_122 : decode cX4_goBack 122 = .ok (.invokevirtual 62, 3) := by decide +kernel
theorem dX4_goBack_125 : decode cX4_goBack 125 = .ok (.iinc 2 1, 3) := by decide +kernel
theorem dX4_goBack_128 : decode cX4_goBack 128 = .ok (.goto (-35), 3) := by decide +kernel
theorem dX4_goBack_131 : decode cX4_goBack 131 = .ok (.aload_n 0, 1) := by decide +kernel
theorem dX4_goBack_132 : decode cX4_goBack 132 = .ok (.aload_n 0, 1) := by decide +kernel
theorem dX4_goBack_133 : decode cX4_goBack 133 = .ok (.getfield 32, 3) := by decide +kernel
theorem dX4_goBack_136 : decode cX4_goBack 136 = .ok (.iload_n 1, 1) := by decide +kernel
theorem dX4_goBack_137 : decode cX4_goBack 137 = .ok (.bipush 24, 2) := by decide +kernel
theorem dX4_goBack_139 : decode cX4_goBack 139 = .ok (.invokevirtual 58, 3) := by decide +kernel
theorem dX4_goBack_142 : decode cX4_goBack 142 = .ok (.putfield 38, 3) := by decide +kernel
theorem dX4_goBack_145 : decode cX4_goBack 145 = .ok (.aload_n 0, 1) := by decide +kernel
theorem dX4_goBack_146 : decode cX4_goBack 146 = .ok (.getfield 32, 3) := by decide +kernel
theorem dX4_goBack_149 : decode cX4_goBack 149 = .ok (.invokevirtual 95, 3) := by decide +kernel
theorem dX4_goBack_152 : decode cX4_goBack 152 = .ok (.return_, 1) := by decide +kernel
theorem dX5_init_0 : decode cX5_init 0 = .ok (.aload_n 0, 1) := by decide +kernel
theorem dX5_init_1 : decode cX5_init 1 = .ok (.invokespecial 3, 3) := by decide +kernel
theorem dX5_init_4 : decode cX5_init 4 = .ok (.aload_n 0, 1) := by decide +kernel
theorem dX5_init_5 : decode cX5_init 5 = .ok (.aload_n 1, 1) := by decide +kernel
theorem dX5_init_6 : decode cX5_init 6 = .ok (.putfield 9, 3) := by decide +kernel
theorem dX5_init_9 : decode cX5_init 9 = .ok (.aload_n 0, 1) := by decide +kernel
theorem dX5_init_10 : decode cX5_init 10 = .ok (.new 15, 3) := by decide +kernel
theorem dX5_init_13 : decode cX5_init 13 = .ok (.dup, 1) := by decide +kernel
theorem dX5_init_14 : decode cX5_init 14 = .ok (.sipush 151, 3) := by decide +kernel
theorem dX5_init_17 : decode cX5_init 17 = .ok (.iconst 3, 1) := by decide +kernel
theorem dX5_init_18 : decode cX5_init 18 = .ok (.invokespecial 17, 3) := by decide +kernel
theorem dX5_init_21 : decode cX5_init 21 = .ok (.putfield 20, 3) := by decide +kernel
theorem dX5_init_24 : decode cX5_init 24 = .ok (.aload_n 0, 1) := by decide +kernel
theorem dX5_init_25 : decode cX5_init 25 = .ok (.new 15, 3) := by decide +kernel
theorem dX5_init_28 : decode cX5_init 28 = .ok (.dup, 1) := by decide +kernel
theorem dX5_init_29 : decode cX5_init 29 = .ok (.bipush 19, 2) := by decide +kernel
theorem dX5_init_31 : decode cX5_init 31 = .ok (.iconst 4, 1) := by decide +kernel
theorem dX5_init_32 : decode cX5_init 32 = .ok (.invokespecial 17, 3) := by decide +kernel
theorem dX5_init_35 : decode cX5_init 35 = .ok (.putfield 23, 3) := by decide +kernel
theorem dX5_init_38 : decode cX5_init 38 = .ok (.return_, 1) := by decide +kernel
theorem dX5_fault_0 : decode cX5_fault 0 = .ok (.aload_n 0, 1) := by decide +kernel
theorem dX5_fault_1 : decode cX5_fault 1 = .ok (.getfield 20, 3) := by decide +kernel
theorem dX5_fault_4 : decode cX5_fault 4 = .ok (.aload_n 0, 1) := by decide +kernel
theorem dX5_fault_5 : decode cX5_fault 5 = .ok (.getfield 26, 3) := by decide +kernel
theorem dX5_fault_8 : decode cX5_fault 8 = .ok (.iconst 1, 1) := by decide +kernel
theorem dX5_fault_9 : decode cX5_fault 9 = .ok (.invokevirtual 30, 3) := by decide +kernel
theorem dX5_fault_12 : decode cX5_fault 12 = .ok (.ireturn, 1) := by decide +kernel
theorem dX5_readItems_0 : decode cX5_readItems 0 = .ok (.aload_n 0, 1) := by decide +kernel
theorem dX5_readItems_1 : decode cX5_readItems 1 = .ok (.invokevirtual 34, 3) := by decide +kernel
theorem dX5_readItems_4 : decode cX5_readItems 4 = .ok (.aload_n 0, 1) := by decide +kernel
theorem dX5_readItems_5 : decode cX5_readItems 5 = .ok (.getfield 23, 3) := by decide +kernel
theorem dX5_readItems_8 : decode cX5_readItems 8 = .ok (.invokevirtual 37, 3) := by decide +kernel
theorem dX5_readItems_11 : decode cX5_readItems 11 = .ok (.aload_n 0, 1) := by decide +kernel
theorem dX5_readItems_12 : decode cX5_readItems 12 = .ok (.iconst 0, 1) := by decide +kernel
theorem dX5_readItems_13 : decode cX5_readItems 13 = .ok (.putfield 40, 3) := by decide +kernel
theorem dX5_readItems_16 : decode cX5_readItems 16 = .ok (.aload_n 0, 1) := by decide +kernel
theorem dX5_readItems_17 : decode cX5_readItems 17 = .ok (.iconst 0, 1) := by decide +kernel
theorem dX5_readItems_18 : decode cX5_readItems 18 = .ok (.putfield 43, 3) := by decide +kernel
theorem dX5_readItems_21 : decode cX5_readItems 21 = .ok (.aload_n 0, 1) := by decide +kernel
theorem dX5_readItems_22 : decode cX5_readItems 22 = .ok (.iconst 0, 1) := by decide +kernel
theorem dX5_readItems_23 : decode cX5_readItems 23 = .ok (.putfield 26, 3) := by decide +kernel
theorem dX5_readItems_26 : decode cX5_readItems 26 = .ok (.aload_n 0, 1) := by decide +kernel
theorem dX5_readItems_27 : decode cX5_readItems 27 = .ok (.invokevirtual 46, 3) := by decide +kernel
theorem dX5_readItems_30 : decode cX5_readItems 30 = .ok (.iconst 4, 1) := by decide +kernel
theorem dX5_readItems_31 : decode cX5_readItems 31 = .ok (.if_icmp .ne 10, 3) := by decide +kernel
theorem dX5_readItems_34 : decode cX5_readItems 34 = .ok (.aload_n 0, 1) := by decide +kernel
theorem dX5_readItems_35 : decode cX5_readItems 35 = .ok (.invokevirtual 50, 3) := by decide +kernel
theorem dX5_readItems_38 : decode cX5_readItems 38 = .ok (.ifCond .ne 5, 3) := by decide +kernel
theorem dX5_readItems_41 : decode cX5_readItems 41 = .ok (.iconst (-1), 1) := by decide +kernel
theorem dX5_readItems_42 : decode cX5_readItems 42 = .ok (.ireturn, 1) := by decide +kernel
theorem dX5_readItems_43 : decode cX5_readItems 43 = .ok (.aload_n 0, 1) := by decide +kernel
theorem dX5_readItems_44 : decode cX5_readItems 44 = .ok (.dup, 1) := by decide +kernel
theorem dX5_readItems_45 : decode cX5_readItems 45 = .ok (.getfield 26, 3) := by decide +kernel
theorem dX5_readItems_48 : decode cX5_readItems 48 = .ok (.iconst 1, 1) := by decide +kernel
theorem dX5_readItems_49 : decode cX5_readItems 49 = .ok (.iadd, 1) := by decide +kernel
theorem dX5_readItems_50 : decode cX5_readItems 50 = .ok (.putfield 26, 3) := by decide +kernel
theorem dX5_readItems_53 : decode cX5_readItems 53 = .ok (.aload_n 0, 1) := by decide +kernel
theorem dX5_readItems_54 : decode cX5_readItems 54 = .ok (.getfield 26, 3) := by decide +kernel
theorem dX5_readItems_57 : decode cX5_readItems 57 = .ok (.aload_n 0, 1) := by decide +kernel
theorem dX5_readItems_58 : decode cX5_readItems 58 = .ok (.getfield 20, 3) := by decide +kernel
theorem dX5_readItems_61 : decode cX5_readItems 61 = .ok (.invokevirtual 54, 3) := by decide +kernel
theorem dX5_readItems_64 : decode cX5_readItems 64 = .ok (.if_icmp .ge 32, 3) := by decide +kernel
theorem dX5_readItems_67 : decode cX5_readItems 67 = .ok (.aload_n 0, 1) := by decide +kernel
theorem dX5_readItems_68 : decode cX5_readItems 68 = .ok (.invokevirtual 46, 3) := by decide +kernel
theorem dX5_readItems_71 : decode cX5_readItems 71 = .ok (.ifCond .eq 25, 3) := by decide +kernel
theorem dX5_readItems_74 : decode cX5_readItems 74 = .ok (.aload_n 0, 1) := by decide +kernel
theorem dX5_readItems_75 : decode cX5_readItems 75 = .ok (.invokevirtual 57, 3) := by decide +kernel
theorem dX5_readItems_78 : decode cX5_readItems 78 = .ok (.ifCond .ne 5, 3) := by decide +kernel
theorem dX5_readItems_81 : decode cX5_readItems 81 = .ok (.iconst (-1), 1) := by decide +kernel
theorem dX5_readItems_82 : decode cX5_readItems 82 = .ok (.ireturn, 1) := by decide +kernel
theorem dX5_readItems_83 : decode cX5_readItems 83 = .ok (.aload_n 0, 1) := by decide +kernel
theorem dX5_readItems_84 : decode cX5_readItems 84 = .ok (.dup, 1) := by decide +kernel
theorem dX5_readItems_85 : decode cX5_readItems 85 = .ok (.getfield 26, 3) := by decide +kernel
theorem dX5_readItems_88 : decode cX5_readItems 88 = .ok (.iconst 1, 1) := by decide +kernel
theorem dX5_readItems_89 : decode cX5_readItems 89 = .ok (.iadd, 1) := by decide +kernel
theorem dX5_readItems_90 : decode cX5_readItems 90 = .ok (.putfield 26, 3) := by decide +kernel
theorem dX5_readItems_93 : decode cX5_readItems 93 = .ok (.goto (-40), 3) := by decide +kernel
theorem dX5_readItems_96 : decode cX5_readItems 96 = .ok (.aload_n 0, 1) := by decide +kernel
theorem dX5_readItems_97 : decode cX5_readItems 97 = .ok (.getfield 23, 3) := by decide +kernel
theorem dX5_readItems_100 : decode cX5_readItems 100 = .ok (.invokevirtual 54, 3) := by decide +kernel
theorem dX5_readItems_103 : decode cX5_readItems 103 = .ok (.iconst 1, 1) := by decide +kernel
theorem dX5_readItems_104 : decode cX5_readItems 104 = .ok (.iadd, 1) := by decide +kernel
theorem dX5_readItems_105 : decode cX5_readItems 105 = .ok (.ireturn, 1) := by decide +kernel
theorem dX5_doItems_0 : decode cX5_doItems 0 = .ok (.aload_n 1, 1) := by decide +kernel
theorem dX5_doItems_1 : decode cX5_doItems 1 = .ok (.invokevirtual 60, 3) := by decide +kernel
theorem dX5_doItems_4 : decode cX5_doItems 4 = .ok (.iconst 0, 1) := by decide +kernel
theorem dX5_doItems_5 : decode cX5_doItems 5 = .ok (.istore_n 2, 1) := by decide +kernel
theorem dX5_doItems_6 : decode cX5_doItems 6 = .ok (.iload_n 2, 1) := by decide +kernel
theorem dX5_doItems_7 : decode cX5_doItems 7 = .ok (.aload_n 0, 1) := by decide +kernel
theorem dX5_doItems_8 : decode cX5_doItems 8 = .ok (.getfield 23, 3) := by decide +kernel
theorem dX5_doItems_11 : decode cX5_doItems 11 = .ok (.invokevirtual 54, 3) := by decide +kernel
theorem dX5_doItems_14 : decode cX5_doItems 14 = .ok (.if_icmp .ge 141, 3) := by decide +kernel
theorem dX5_doItems_17 : decode cX5_doItems 17 = .ok (.aload_n 0, 1) := by decide +kernel
theorem dX5_doItems_18 : decode cX5_doItems 18 = .ok (.getfield 23, 3) := by decide +kernel
theorem dX5_doItems_21 : decode cX5_doItems 21 = .ok (.iload_n 2, 1) := by decide +kernel
theorem dX5_doItems_22 : decode cX5_doItems 22 = .ok (.iconst 0, 1) := by decide +kernel
theorem dX5_doItems_23 : decode cX5_doItems 23 = .ok (.invokevirtual 30, 3) := by decide +kernel
theorem dX5_doItems_26 : decode cX5_doItems 26 = .ok (.tableswitch 110 5 7 #[26, 51, 85], 26) := by decide +kernel
theorem dX5_doItems_52 : decode cX5_doItems 52 = .ok (.aload_n 1, 1) := by decide +kernel
theorem dX5_doItems_53 : decode cX5_doItems 53 = .ok (.aload_n 0, 1) := by decide +kernel
theorem dX5_doItems_54 : decode cX5_doItems 54 = .ok (.getfield 23, 3) := by decide +kernel
theorem dX5_doItems_57 : decode cX5_doItems 57 = .ok (.iload_n 2, 1) := by decide +kernel
theorem dX5_doItems_58 : decode cX5_doItems 58 = .ok (.iconst 1, 1) := by decide +kernel
theorem dX5_doItems_59 : decode cX5_doItems 59 = .ok (.invokevirtual 30, 3) := by decide +kernel
theorem dX5_doItems_62 : decode cX5_doItems 62 = .ok (.aload_n 0, 1) := by decide +kernel
theorem dX5_doItems_63 : decode cX5_doItems 63 = .ok (.getfield 23, 3) := by decide +kernel
theorem dX5_doItems_66 : decode cX5_doItems 66 = .ok (.iload_n 2, 1) := by decide +kernel
theorem dX5_doItems_67 : decode cX5_doItems 67 = .ok (.iconst 2, 1) := by decide +kernel
theorem dX5_doItems_68 : decode cX5_doItems 68 = .ok (.invokevirtual 30, 3) := by decide +kernel
theorem dX5_doItems_71 : decode cX5_doItems 71 = .ok (.invokevirtual 65, 3) := by decide +kernel
theorem dX5_doItems_74 : decode cX5_doItems 74 = .ok (.goto 75, 3) := by decide +kernel
theorem dX5_doItems_77 : decode cX5_doItems 77 = .ok (.aload_n 1, 1) := by decide +kernel
theorem dX5_doItems_78 : decode cX5_doItems 78 = .ok (.aload_n 0, 1) := by decide +kernel
theorem dX5_doItems_79 : decode cX5_doItems 79 = .ok (.getfield 23, 3) := by decide +kernel
theorem dX5_doItems_82 : decode cX5_doItems 82 = .ok (.iload_n 2, 1) := by decide +kernel
theorem dX5_doItems_83 : decode cX5_doItems 83 = .ok (.iconst 1, 1) := by decide +kernel
theorem dX5_doItems_84 : decode cX5_doItems 84 = .ok (.invokevirtual 30, 3) := by decide +kernel
theorem dX5_doItems_87 : decode cX5_doItems 87 = .ok (.aload_n 0, 1) := by decide +kernel
theorem dX5_doItems_88 : decode cX5_doItems 88 = .ok (.getfield 23, 3) := by decide +kernel
theorem dX5_doItems_91 : decode cX5_doItems 91 = .ok (.iload_n 2, 1) := by decide +kernel
theorem dX5_doItems_92 : decode cX5_doItems 92 = .ok (.iconst 2, 1) := by decide +kernel
theorem dX5_doItems_93 : decode cX5_doItems 93 = .ok (.invokevirtual 30, 3) := by decide +kernel
theorem dX5_doItems_96 : decode cX5_doItems 96 = .ok (.aload_n 0, 1) := by decide +kernel
theorem dX5_doItems_97 : decode cX5_doItems 97 = .ok (.getfield 23, 3) := by decide +kernel
theorem dX5_doItems_100 : decode cX5_doItems 100 = .ok (.iload_n 2, 1) := by decide +kernel
theorem dX5_doItems_101 : decode cX5_doItems 101 = .ok (.iconst 3, 1) := by decide +kernel
theorem dX5_doItems_102 : decode cX5_doItems 102 = .ok (.invokevirtual 30, 3) := by decide +kernel
theorem dX5_doItems_105 : decode cX5_doItems 105 = .ok (.invokevirtual 68, 3) := by decide +kernel
theorem dX5_doItems_108 : decode cX5_doItems 108 = .ok (.goto 41, 3) := by decide +kernel
theorem dX5_doItems_111 : decode cX5_doItems 111 = .ok (.aload_n 1, 1) := by decide +kernel
theorem dX5_doItems_112 : decode cX5_doItems 112 = .ok (.aload_n 0, 1) := by decide +kernel
theorem dX5_doItems_113 : decode cX5_doItems 113 = .ok (.getfield 23, 3) := by decide +kernel
theorem dX5_doItems_116 : decode cX5_doItems 116 = .ok (.iload_n 2, 1) := by decide +kernel
theorem dX5_doItems_117 : decode cX5_doItems 117 = .ok (.iconst 1, 1) := by decide +kernel
theorem dX5_doItems_118 : decode cX5_doItems 118 = .ok (.invokevirtual 30, 3) := by decide +kernel
theorem dX5_doItems_121 : decode cX5_doItems 121 = .ok (.aload_n 0, 1) := by decide +kernel
theorem dX5_doItems_122 : decode cX5_doItems 122 = .ok (.getfield 23, 3) := by decide +kernel
theorem dX5_doItems_125 : decode cX5_doItems 125 = .ok (.iload_n 2, 1) := by decide +kernel
theorem dX5_doItems_126 : decode cX5_doItems 126 = .ok (.iconst 2, 1) := by decide +kernel
theorem dX5_doItems_127 : decode cX5_doItems 127 = .ok (.invokevirtual 30, 3) := by decide +kernel
theorem dX5_doItems_130 : decode cX5_doItems 130 = .ok (.invokevirtual 72, 3) := by decide +kernel
theorem dX5_doItems_133 : decode cX5_doItems 133 = .ok (.goto 16, 3) := by decide +kernel
theorem dX5_doItems_136 : decode cX5_doItems 136 = .ok (.aload_n 1, 1) := by decide +kernel
theorem dX5_doItems_137 : decode cX5_doItems 137 = .ok (.aload_n 0, 1) := by decide +kernel
theorem dX5_doItems_138 : decode cX5_doItems 138 = .ok (.getfield 23, 3) := by decide +kernel
theorem dX5_doItems_141 : decode cX5_doItems 141 = .ok (.iload_n 2, 1) := by decide +kernel
theorem dX5_doItems_142 : decode cX5_doItems 142 = .ok (.iconst 1, 1) := by decide +kernel
theorem dX5_doItems_143 : decode cX5_doItems 143 = .ok (.invokevirtual 30, 3) := by decide +kernel
theorem dX5_doItems_146 : decode cX5_doItems 146 = .ok (.invokevirtual 75, 3) := by decide +kernel
theorem dX5_doItems_149 : decode cX5_doItems 149 = .ok (.iinc 2 1, 3) := by decide +kernel
theorem dX5_doItems_152 : decode cX5_doItems 152 = .ok (.goto (-146), 3) := by decide +kernel
theorem dX5_doItems_155 : decode cX5_doItems 155 = .ok (.return_, 1) := by decide +kernel
theorem dX5_readItem_0 : decode cX5_readItem 0 = .ok (.aload_n 0, 1) := by decide +kernel
theorem dX5_readItem_1 : decode cX5_readItem 1 = .ok (.invokevirtual 46, 3) := by decide +kernel
theorem dX5_readItem_4 : decode cX5_readItem 4 = .ok (.tableswitch 106 5 8 #[32, 64, 96, 101], 32) := by decide +kernel
theorem dX5_readItem_36 : decode cX5_readItem 36 = .ok (.aload_n 0, 1) := by decide +kernel
theorem dX5_readItem_37 : decode cX5_readItem 37 = .ok (.dup, 1) := by decide +kernel
theorem dX5_readItem_38 : decode cX5_readItem 38 = .ok (.getfield 40, 3) := by decide +kernel
theorem dX5_readItem_41 : decode cX5_readItem 41 = .ok (.iconst 1, 1) := by decide +kernel
theorem dX5_readItem_42 : decode cX5_readItem 42 = .ok (.iadd, 1) := by decide +kernel
theorem dX5_readItem_43 : decode cX5_readItem 43 = .ok (.putfield 40, 3) := by decide +kernel
theorem dX5_readItem_46 : decode cX5_readItem 46 = .ok (.aload_n 0, 1) := by decide +kernel
theorem dX5_readItem_47 : decode cX5_readItem 47 = .ok (.getfield 40, 3) := by decide +kernel
theorem dX5_readItem_50 : decode cX5_readItem 50 = .ok (.bipush 6, 2) := by decide +kernel
theorem dX5_readItem_52 : decode cX5_readItem 52 = .ok (.if_icmp .gt 14, 3) := by decide +kernel
theorem dX5_readItem_55 : decode cX5_readItem 55 = .ok (.aload_n 0, 1) := by decide +kernel
theorem dX5_readItem_56 : decode cX5_readItem 56 = .ok (.invokevirtual 79, 3) := by decide +kernel
theorem dX5_readItem_59 : decode cX5_readItem 59 = .ok (.ifCond .eq 7, 3) := by decide +kernel
theorem dX5_readItem_62 : decode cX5_readItem 62 = .ok (.iconst 1, 1) := by decide +kernel
theorem dX5_readItem_63 : decode cX5_readItem 63 = .ok (.goto 4, 3) := by decide +kernel
theorem dX5_readItem_66 : decode cX5_readItem 66 = .ok (.iconst 0, 1) := by decide +kernel
theorem dX5_readItem_67 : decode cX5_readItem 67 = .ok (.ireturn, 1) := by decide +kernel
theorem dX5_readItem_68 : decode cX5_readItem 68 = .ok (.aload_n 0, 1) := by decide +kernel
theorem dX5_readItem_69 : decode cX5_readItem 69 = .ok (.dup, 1) := by decide +kernel
theorem dX5_readItem_70 : decode cX5_readItem 70 = .ok (.getfield 43, 3) := by decide +kernel
theorem dX5_readItem_73 : decode cX5_readItem 73 = .ok (.iconst 1, 1) := by decide +kernel
theorem dX5_readItem_74 : decode cX5_readItem 74 = .ok (.iadd, 1) := by decide +kernel
theorem dX5_readItem_75 : decode cX5_readItem 75 = .ok (.putfield 43, 3) := by decide +kernel
theorem dX5_readItem_78 : decode cX5_readItem 78 = .ok (.aload_n 0, 1) := by decide +kernel
theorem dX5_readItem_79 : decode cX5_readItem 79 = .ok (.getfield 43, 3) := by decide +kernel
theorem dX5_readItem_82 : decode cX5_readItem 82 = .ok (.bipush 6, 2) := by decide +kernel
theorem dX5_readItem_84 : decode cX5_readItem 84 = .ok (.if_icmp .gt 14, 3) := by decide +kernel
theorem dX5_readItem_87 : decode cX5_readItem 87 = .ok (.aload_n 0, 1) := by decide +kernel
theorem dX5_readItem_88 : decode cX5_readItem 88 = .ok (.invokevirtual 82, 3) := by decide +kernel
theorem dX5_readItem_91 : decode cX5_readItem 91 = .ok (.ifCond .eq 7, 3) := by decide +kernel
theorem dX5_readItem_94 : decode cX5_readItem 94 = .ok (.iconst 1, 1) := by decide +kernel
theorem dX5_readItem_95 : decode cX5_readItem 95 = .ok (.goto 4, 3) := by decide +kernel
theorem dX5_readItem_98 : decode cX5_readItem 98 = .ok (.iconst 0, 1) := by decide +kernel
theorem dX5_readItem_99 : decode cX5_readItem 99 = .ok (.ireturn, 1) := by decide +kernel
theorem dX5_readItem_100 : decode cX5_readItem 100 = .ok (.aload_n 0, 1) := by decide +kernel
theorem dX5_readItem_101 : decode cX5_readItem 101 = .ok (.invokevirtual 85, 3) := by decide +kernel
theorem dX5_readItem_104 : decode cX5_readItem 104 = .ok (.ireturn, 1) := by decide +kernel
theorem dX5_readItem_105 : decode cX5_readItem 105 = .ok (.aload_n 0, 1) := by decide +kernel
theorem dX5_readItem_106 : decode cX5_readItem 106 = .ok (.invokevirtual 88, 3) := by decide +kernel
theorem dX5_readItem_109 : decode cX5_readItem 109 = .ok (.ireturn, 1) := by decide +kernel
theorem dX5_readItem_110 : decode cX5_readItem 110 = .ok (.iconst 0, 1) := by decide +kernel
theorem dX5_readItem_111 : decode cX5_readItem 111 = .ok (.ireturn, 1) := by decide +kernel
theorem dX5_readSleeper_0 : decode cX5_readSleeper 0 = .ok (.aload_n 0, 1) := by decide +kernel
theorem dX5_readSleeper_1 : decode cX5_readSleeper 1 = .ok (.iconst 0, 1) := by decide +kernel
theorem dX5_readSleeper_2 : decode cX5_readSleeper 2 = .ok (.iconst 5, 1) := by decide +kernel
theorem dX5_readSleeper_3 : decode cX5_readSleeper 3 = .ok (.invokevirtual 91, 3) := by decide +kernel
theorem dX5_readSleeper_6 : decode cX5_readSleeper 6 = .ok (.ifCond .eq 20, 3) := by decide +kernel
theorem dX5_readSleeper_9 : decode cX5_readSleeper 9 = .ok (.aload_n 0, 1) := by decide +kernel
theorem dX5_readSleeper_10 : decode cX5_readSleeper 10 = .ok (.iconst 0, 1) := by decide +kernel
theorem dX5_readSleeper_11 : decode cX5_readSleeper 11 = .ok (.bipush 9, 2) := by decide +kernel
theorem dX5_readSleeper_13 : decode cX5_readSleeper 13 = .ok (.invokevirtual 91, 3) := by decide +kernel
theorem dX5_readSleeper_16 : decode cX5_readSleeper 16 = .ok (.ifCond .eq 10, 3) := by decide +kernel
theorem dX5_readSleeper_19 : decode cX5_readSleeper 19 = .ok (.aload_n 0, 1) := by decide +kernel
theorem dX5_readSleeper_20 : decode cX5_readSleeper 20 = .ok (.invokevirtual 50, 3) := by decide +kernel
theorem dX5_readSleeper_23 : decode cX5_readSleeper 23 = .ok (.ifCond .ne 5, 3) := by decide +kernel
theorem dX5_readSleeper_26 : decode cX5_readSleeper 26 = .ok (.iconst 0, 1) := by decide +kernel
theorem dX5_readSleeper_27 : decode cX5_readSleeper 27 = .ok (.ireturn, 1) := by decide +kernel
theorem dX5_readSleeper_28 : decode cX5_readSleeper 28 = .ok (.aload_n 0, 1) := by decide +kernel
theorem dX5_readSleeper_29 : decode cX5_readSleeper 29 = .ok (.getfield 23, 3) := by decide +kernel
theorem dX5_readSleeper_32 : decode cX5_readSleeper 32 = .ok (.iconst 5, 1) := by decide +kernel
theorem dX5_readSleeper_33 : decode cX5_readSleeper 33 = .ok (.aload_n 0, 1) := by decide +kernel
theorem dX5_readSleeper_34 : decode cX5_readSleeper 34 = .ok (.iconst 2, 1) := by decide +kernel
theorem dX5_readSleeper_35 : decode cX5_readSleeper 35 = .ok (.invokevirtual 95, 3) := by decide +kernel
theorem dX5_readSleeper_38 : decode cX5_readSleeper 38 = .ok (.aload_n 0, 1) := by decide +kernel
theorem dX5_readSleeper_39 : decode cX5_readSleeper 39 = .ok (.iconst 1, 1) := by decide +kernel
theorem dX5_readSleeper_40 : decode cX5_readSleeper 40 = .ok (.invokevirtual 95, 3) := by decide +kernel
theorem dX5_readSleeper_43 : decode cX5_readSleeper 43 = .ok (.iconst 0, 1) := by decide +kernel
theorem dX5_readSleeper_44 : decode cX5_readSleeper 44 = .ok (.invokevirtual 99, 3) := by decide +kernel
theorem dX5_readSleeper_47 : decode cX5_readSleeper 47 = .ok (.iconst 1, 1) := by decide +kernel
theorem dX5_readSleeper_48 : decode cX5_readSleeper 48 = .ok (.ireturn, 1) := by decide +kernel
theorem dX5_readFlower_0 : decode cX5_readFlower 0 = .ok (.aload_n 0, 1) := by decide +kernel
theorem dX5_readFlower_1 : decode cX5_readFlower 1 = .ok (.iconst 0, 1) := by decide +kernel
theorem dX5_readFlower_2 : decode cX5_readFlower 2 = .ok (.iconst 5, 1) := by decide +kernel
theorem dX5_readFlower_3 : decode cX5_readFlower 3 = .ok (.invokevirtual 91, 3) := by decide +kernel
theorem dX5_readFlower_6 : decode cX5_readFlower 6 = .ok (.ifCond .eq 29, 3) := by decide +kernel
theorem dX5_readFlower_9 : decode cX5_readFlower 9 = .ok (.aload_n 0, 1) := by decide +kernel
theorem dX5_readFlower_10 : decode cX5_readFlower 10 = .ok (.iconst 1, 1) := by decide +kernel
theorem dX5_readFlower_11 : decode cX5_readFlower 11 = .ok (.bipush 9, 2) := by decide +kernel
theorem dX5_readFlower_13 : decode cX5_readFlower 13 = .ok (.invokevirtual 91, 3) := by decide +kernel
theorem dX5_readFlower_16 : decode cX5_readFlower 16 = .ok (.ifCond .eq 19, 3) := by decide +kernel
theorem dX5_readFlower_19 : decode cX5_readFlower 19 = .ok (.aload_n 0, 1) := by decide +kernel
theorem dX5_readFlower_20 : decode cX5_readFlower 20 = .ok (.iconst 0, 1) := by decide +kernel
theorem dX5_readFlower_21 : decode cX5_readFlower 21 = .ok (.iconst 5, 1) := by decide +kernel
theorem dX5_readFlower_22 : decode cX5_readFlower 22 = .ok (.invokevirtual 91, 3) := by decide +kernel
theorem dX5_readFlower_25 : decode cX5_readFlower 25 = .ok (.ifCond .eq 10, 3) := by decide +kernel
theorem dX5_readFlower_28 : decode cX5_readFlower 28 = .ok (.aload_n 0, 1) := by decide +kernel
theorem dX5_readFlower_29 : decode cX5_readFlower 29 = .ok (.invokevirtual 50, 3) := by decide +kernel
theorem dX5_readFlower_32 : decode cX5_readFlower 32 = .ok (.ifCond .ne 5, 3) := by decide +kernel
theorem dX5_readFlower_35 : decode cX5_readFlower 35 = .ok (.iconst 0, 1) := by decide +kernel
theorem dX5_readFlower_36 : decode cX5_readFlower 36 = .ok (.ireturn, 1) := by decide +kernel
theorem dX5_readFlower_37 : decode cX5_readFlower 37 = .ok (.aload_n 0, 1) := by decide +kernel
theorem dX5_readFlower_38 : decode cX5_readFlower 38 = .ok (.getfield 23, 3) := by decide +kernel
theorem dX5_readFlower_41 : decode cX5_readFlower 41 = .ok (.bipush 6, 2) := by decide +kernel
theorem dX5_readFlower_43 : decode cX5_readFlower 43 = .ok (.aload_n 0, 1) := by decide +kernel
theorem dX5_readFlower_44 : decode cX5_readFlower 44 = .ok (.iconst 3, 1) := by decide +kernel
theorem dX5_readFlower_45 : decode cX5_readFlower 45 = .ok (.invokevirtual 95, 3) := by decide +kernel
theorem dX5_readFlower_48 : decode cX5_readFlower 48 = .ok (.aload_n 0, 1) := by decide +kernel
theorem dX5_readFlower_49 : decode cX5_readFlower 49 = .ok (.iconst 2, 1) := by decide +kernel
theorem dX5_readFlower_50 : decode cX5_readFlower 50 = .ok (.invokevirtual 95, 3) := by decide +kernel
theorem dX5_readFlower_53 : decode cX5_readFlower 53 = .ok (.aload_n 0, 1) := by decide +kernel
theorem dX5_readFlower_54 : decode cX5_readFlower 54 = .ok (.iconst 1, 1) := by decide +kernel
theorem dX5_readFlower_55 : decode cX5_readFlower 55 = .ok (.invokevirtual 95, 3) := by decide +kernel
theorem dX5_readFlower_58 : decode cX5_readFlower 58 = .ok (.invokevirtual 99, 3) := by decide +kernel
theorem dX5_readFlower_61 : decode cX5_readFlower 61 = .ok (.iconst 1, 1) := by decide +kernel
theorem dX5_readFlower_62 : decode cX5_readFlower 62 = .ok (.ireturn, 1) := by decide +kernel
theorem dX5_readSwap_0 : decode cX5_readSwap 0 = .ok (.aload_n 0, 1) := by decide +kernel
theorem dX5_readSwap_1 : decode cX5_readSwap 1 = .ok (.iconst 0, 1) := by decide +kernel
theorem dX5_readSwap_2 : decode cX5_readSwap 2 = .ok (.iconst 5, 1) := by decide +kernel
theorem dX5_readSwap_3 : decode cX5_readSwap 3 = .ok (.invokevirtual 91, 3) := by decide +kernel
theorem dX5_readSwap_6 : decode cX5_readSwap 6 = .ok (.ifCond .eq 12, 3) := by decide +kernel
theorem dX5_readSwap_9 : decode cX5_readSwap 9 = .ok (.aload_n 0, 1) := by decide +kernel
theorem dX5_readSwap_10 : decode cX5_readSwap 10 = .ok (.iconst 0, 1) := by decide +kernel
theorem dX5_readSwap_11 : decode cX5_readSwap 11 = .ok (.iconst 5, 1) := by decide +kernel
theorem dX5_readSwap_12 : decode cX5_readSwap 12 = .ok (.invokevirtual 91, 3) := by decide +kernel
theorem dX5_readSwap_15 : decode cX5_readSwap 15 = .ok (.ifCond .ne 5, 3) := by decide +kernel
theorem dX5_readSwap_18 : decode cX5_readSwap 18 = .ok (.iconst 0, 1) := by decide +kernel
theorem dX5_readSwap_19 : decode cX5_readSwap 19 = .ok (.ireturn, 1) := by decide +kernel
theorem dX5_readSwap_20 : decode cX5_readSwap 20 = .ok (.aload_n 0, 1) := by decide +kernel
theorem dX5_readSwap_21 : decode cX5_readSwap 21 = .ok (.iconst 1, 1) := by decide +kernel
theorem dX5_readSwap_22 : decode cX5_readSwap 22 = .ok (.invokevirtual 95, 3) := by decide +kernel
theorem dX5_readSwap_25 : decode cX5_readSwap 25 = .ok (.istore_n 1, 1) := by decide +kernel
theorem dX5_readSwap_26 : decode cX5_readSwap 26 = .ok (.aload_n 0, 1) := by decide +kernel
theorem dX5_readSwap_27 : decode cX5_readSwap 27 = .ok (.iconst 0, 1) := by decide +kernel
theorem dX5_readSwap_28 : decode cX5_readSwap 28 = .ok (.invokevirtual 95, 3) := by decide +kernel
theorem dX5_readSwap_31 : decode cX5_readSwap 31 = .ok (.istore_n 2, 1) := by decide +kernel
theorem dX5_readSwap_32 : decode cX5_readSwap 32 = .ok (.iload_n 1, 1) := by decide +kernel
theorem dX5_readSwap_33 : decode cX5_readSwap 33 = .ok (.iload_n 2, 1) := by decide +kernel
theorem dX5_readSwap_34 : decode cX5_readSwap 34 = .ok (.if_icmp .eq 10, 3) := by decide +kernel
theorem dX5_readSwap_37 : decode cX5_readSwap 37 = .ok (.aload_n 0, 1) := by decide +kernel
theorem dX5_readSwap_38 : decode cX5_readSwap 38 = .ok (.invokevirtual 50, 3) := by decide +kernel
theorem dX5_readSwap_41 : decode cX5_readSwap 41 = .ok (.ifCond .ne 5, 3) := by decide +kernel
theorem dX5_readSwap_44 : decode cX5_readSwap 44 = .ok (.iconst 0, 1) := by decide +kernel
theorem dX5_readSwap_45 : decode cX5_readSwap 45 = .ok (.ireturn, 1) := by decide +kernel
theorem dX5_readSwap_46 : decode cX5_readSwap 46 = .ok (.aload_n 0, 1) := by decide +kernel
theorem dX5_readSwap_47 : decode cX5_readSwap 47 = .ok (.getfield 23, 3) := by decide +kernel
theorem dX5_readSwap_50 : decode cX5_readSwap 50 = .ok (.bipush 7, 2) := by decide +kernel
theorem dX5_readSwap_52 : decode cX5_readSwap 52 = .ok (.iload_n 1, 1) := by decide +kernel
theorem dX5_readSwap_53 : decode cX5_readSwap 53 = .ok (.iload_n 2, 1) := by decide +kernel
theorem dX5_readSwap_54 : decode cX5_readSwap 54 = .ok (.iconst 0, 1) := by decide +kernel
theorem dX5_readSwap_55 : decode cX5_readSwap 55 = .ok (.invokevirtual 99, 3) := by decide +kernel
theorem dX5_readSwap_58 : decode cX5_readSwap 58 = .ok (.iconst 1, 1) := by decide +kernel
theorem dX5_readSwap_59 : decode cX5_readSwap 59 = .ok (.ireturn, 1) := by decide +kernel
theorem dX5_readNights_0 : decode cX5_readNights 0 = .ok (.aload_n 0, 1) := by decide +kernel
theorem dX5_readNights_1 : decode cX5_readNights 1 = .ok (.iconst 1, 1) := by decide +kernel
theorem dX5_readNights_2 : decode cX5_readNights 2 = .ok (.bipush 99, 2) := by decide +kernel
theorem dX5_readNights_4 : decode cX5_readNights 4 = .ok (.invokevirtual 91, 3) := by decide +kernel
theorem dX5_readNights_7 : decode cX5_readNights 7 = .ok (.ifCond .eq 10, 3) := by decide +kernel
theorem dX5_readNights_10 : decode cX5_readNights 10 = .ok (.aload_n 0, 1) := by decide +kernel
theorem dX5_readNights_11 : decode cX5_readNights 11 = .ok (.invokevirtual 50, 3) := by decide +kernel
theorem dX5_readNights_14 : decode cX5_readNights 14 = .ok (.ifCond .ne 5, 3) := by decide +kernel
theorem dX5_readNights_17 : decode cX5_readNights 17 = .ok (.iconst 0, 1) := by decide +kernel
theorem dX5_readNights_18 : decode cX5_readNights 18 = .ok (.ireturn, 1) := by decide +kernel
theorem dX5_readNights_19 : decode cX5_readNights 19 = .ok (.aload_n 0, 1) := by decide +kernel
theorem dX5_readNights_20 : decode cX5_readNights 20 = .ok (.getfield 23, 3) := by decide +kernel
theorem dX5_readNights_23 : decode cX5_readNights 23 = .ok (.bipush 8, 2) := by decide +kernel
theorem dX5_readNights_25 : decode cX5_readNights 25 = .ok (.aload_n 0, 1) := by decide +kernel
theorem dX5_readNights_26 : decode cX5_readNights 26 = .ok (.iconst 1, 1) := by decide +kernel
theorem dX5_readNights_27 : decode cX5_readNights 27 = .ok (.invokevirtual 95, 3) := by decide +kernel
theorem dX5_readNights_30 : decode cX5_readNights 30 = .ok (.iconst 0, 1) := by decide +kernel
theorem dX5_readNights_31 : decode cX5_readNights 31 = .ok (.iconst 0, 1) := by decide +kernel
theorem dX5_readNights_32 : decode cX5_readNights 32 = .ok (.invokevirtual 99, 3) := by decide +kernel
theorem dX5_readNights_35 : decode cX5_readNights 35 = .ok (.iconst 1, 1) := by decide +kernel
theorem dX5_readNights_36 : decode cX5_readNights 36 = .ok (.ireturn, 1) := by decide +kernel
theorem dX5_token_0 : decode cX5_token 0 = .ok (.aload_n 0, 1) := by decide +kernel
theorem dX5_token_1 : decode cX5_token 1 = .ok (.getfield 20, 3) := by decide +kernel
theorem dX5_token_4 : decode cX5_token 4 = .ok (.aload_n 0, 1) := by decide +kernel
theorem dX5_token_5 : decode cX5_token 5 = .ok (.getfield 26, 3) := by decide +kernel
theorem dX5_token_8 : decode cX5_token 8 = .ok (.iconst 0, 1) := by decide +kernel
theorem dX5_token_9 : decode cX5_token 9 = .ok (.invokevirtual 30, 3) := by decide +kernel
theorem dX5_token_12 : decode cX5_token 12 = .ok (.ireturn, 1) := by decide +kernel
theorem dX5_numberBack_0 : decode cX5_numberBack 0 = .ok (.aload_n 0, 1) := by decide +kernel
theorem dX5_numberBack_1 : decode cX5_numberBack 1 = .ok (.getfield 20, 3) := by decide +kernel
theorem dX5_numberBack_4 : decode cX5_numberBack 4 = .ok (.aload_n 0, 1) := by decide +kernel
theorem dX5_numberBack_5 : decode cX5_numberBack 5 = .ok (.getfield 26, 3) := by decide +kernel
theorem dX5_numberBack_8 : decode cX5_numberBack 8 = .ok (.iload_n 1, 1) := by decide +kernel
theorem dX5_numberBack_9 : decode cX5_numberBack 9 = .ok (.isub, 1) := by decide +kernel
theorem dX5_numberBack_10 : decode cX5_numberBack 10 = .ok (.iconst 2, 1) := by decide +kernel
theorem dX5_numberBack_11 : decode cX5_numberBack 11 = .ok (.invokevirtual 30, 3) := by decide +kernel
theorem dX5_numberBack_14 : decode cX5_numberBack 14 = .ok (.ireturn, 1) := by decide +kernel
theorem dX5_numbered_0 : decode cX5_numbered 0 = .ok (.aload_n 0, 1) := by decide +kernel
theorem dX5_numbered_1 : decode cX5_numbered 1 = .ok (.dup, 1) := by decide +kernel
theorem dX5_numbered_2 : decode cX5_numbered 2 = .ok (.getfield 26, 3) := by decide +kernel
theorem dX5_numbered_5 : decode cX5_numbered 5 = .ok (.iconst 1, 1) := by decide +kernel
theorem dX5_numbered_6 : decode cX5_numbered 6 = .ok (.iadd, 1) := by decide +kernel
theorem dX5_numbered_7 : decode cX5_numbered 7 = .ok (.putfield 26, 3) := by decide +kernel
theorem dX5_numbered_10 : decode cX5_numbered 10 = .ok (.aload_n 0, 1) := by decide +kernel
theorem dX5_numbered_11 : decode cX5_numbered 11 = .ok (.invokevirtual 46, 3) := by decide +kernel
theorem dX5_numbered_14 : decode cX5_numbered 14 = .ok (.iconst 2, 1) := by decide +kernel
theorem dX5_numbered_15 : decode cX5_numbered 15 = .ok (.if_icmp .ne 20, 3) := by decide +kernel
theorem dX5_numbered_18 : decode cX5_numbered 18 = .ok (.aload_n 0, 1) := by decide +kernel
theorem dX5_numbered_19 : decode cX5_numbered 19 = .ok (.iconst 0, 1) := by decide +kernel
theorem dX5_numbered_20 : decode cX5_numbered 20 = .ok (.invokevirtual 95, 3) := by decide +kernel
theorem dX5_numbered_23 : decode cX5_numbered 23 = .ok (.iload_n 1, 1) := by decide +kernel
theorem dX5_numbered_24 : decode cX5_numbered 24 = .ok (.iload_n 2, 1) := by decide +kernel
theorem dX5_numbered_25 : decode cX5_numbered 25 = .ok (.invokestatic 103, 3) := by decide +kernel
theorem dX5_numbered_28 : decode cX5_numbered 28 = .ok (.ifCond .eq 7, 3) := by decide +kernel
theorem dX5_numbered_31 : decode cX5_numbered 31 = .ok (.iconst 1, 1) := by decide +kernel
theorem dX5_numbered_32 : decode cX5_numbered 32 = .ok (.goto 4, 3) := by decide +kernel
theorem dX5_numbered_35 : decode cX5_numbered 35 = .ok (.iconst 0, 1) := by decide +kernel
theorem dX5_numbered_36 : decode cX5_numbered 36 = .ok (.ireturn, 1) := by decide +kernel
theorem dX5_ends_0 : decode cX5_ends 0 = .ok (.aload_n 0, 1) := by decide +kernel
theorem dX5_ends_1 : decode cX5_ends 1 = .ok (.dup, 1) := by decide +kernel
theorem dX5_ends_2 : decode cX5_ends 2 = .ok (.getfield 26, 3) := by decide +kernel
theorem dX5_ends_5 : decode cX5_ends 5 = .ok (.iconst 1, 1) := by decide +kernel
theorem dX5_ends_6 : decode cX5_ends 6 = .ok (.iadd, 1) := by decide +kernel
theorem dX5_ends_7 : decode cX5_ends 7 = .ok (.putfield 26, 3) := by decide +kernel
theorem dX5_ends_10 : decode cX5_ends 10 = .ok (.aload_n 0, 1) := by decide +kernel
theorem dX5_ends_11 : decode cX5_ends 11 = .ok (.invokevirtual 46, 3) := by decide +kernel
theorem dX5_ends_14 : decode cX5_ends 14 = .ok (.iconst 3, 1) := by decide +kernel
theorem dX5_ends_15 : decode cX5_ends 15 = .ok (.if_icmp .ne 7, 3) := by decide +kernel
theorem dX5_ends_18 : decode cX5_ends 18 = .ok (.iconst 1, 1) := by decide +kernel
theorem dX5_ends_19 : decode cX5_ends 19 = .ok (.goto 4, 3) := by decide +kernel
theorem dX5_ends_22 : decode cX5_ends 22 = .ok (.iconst 0, 1) := by decide +kernel
theorem dX5_ends_23 : decode cX5_ends 23 = .ok (.ireturn, 1) := by decide +kernel
theorem dX5_splitText_0 : decode cX5_splitText 0 = .ok (.aload_n 0, 1) := by decide +kernel
theorem dX5_splitText_1 : decode cX5_splitText 1 = .ok (.getfield 20, 3) := by decide +kernel
theorem dX5_splitText_4 : decode cX5_splitText 4 = .ok (.invokevirtual 37, 3) := by decide +kernel
theorem dX5_splitText_7 : decode cX5_splitText 7 = .ok (.aload_n 0, 1) := by decide +kernel
theorem dX5_splitText_8 : decode cX5_splitText 8 = .ok (.iconst 0, 1) := by decide +kernel
theorem dX5_splitText_9 : decode cX5_splitText 9 = .ok (.putfield 107, 3) := by decide +kernel
theorem dX5_splitText_12 : decode cX5_splitText 12 = .ok (.iconst 0, 1) := by decide +kernel
theorem dX5_splitText_13 : decode cX5_splitText 13 = .ok (.istore_n 1, 1) := by decide +kernel
theorem dX5_splitText_14 : decode cX5_splitText 14 = .ok (.iload_n 1, 1) := by decide +kernel
theorem dX5_splitText_15 : decode cX5_splitText 15 = .ok (.aload_n 0, 1) := by decide +kernel
theorem dX5_splitText_16 : decode cX5_splitText 16 = .ok (.getfield 9, 3) := by decide +kernel
theorem dX5_splitText_19 : decode cX5_splitText 19 = .ok (.invokevirtual 54, 3) := by decide +kernel
theorem dX5_splitText_22 : decode cX5_splitText 22 = .ok (.if_icmp .ge 55, 3) := by decide +kernel
theorem dX5_splitText_25 : decode cX5_splitText 25 = .ok (.aload_n 0, 1) := by decide +kernel
theorem dX5_splitText_26 : decode cX5_splitText 26 = .ok (.getfield 107, 3) := by decide +kernel
theorem dX5_splitText_29 : decode cX5_splitText 29 = .ok (.aload_n 0, 1) := by decide +kernel
theorem dX5_splitText_30 : decode cX5_splitText 30 = .ok (.getfield 9, 3) := by decide +kernel
theorem dX5_splitText_33 : decode cX5_splitText 33 = .ok (.invokevirtual 54, 3) := by decide +kernel
theorem dX5_splitText_36 : decode cX5_splitText 36 = .ok (.if_icmp .ge 41, 3) := by decide +kernel
theorem dX5_splitText_39 : decode cX5_splitText 39 = .ok (.aload_n 0, 1) := by decide +kernel
theorem dX5_splitText_40 : decode cX5_splitText 40 = .ok (.invokevirtual 110, 3) := by decide +kernel
theorem dX5_splitText_43 : decode cX5_splitText 43 = .ok (.ifCond .eq 10, 3) := by decide +kernel
theorem dX5_splitText_46 : decode cX5_splitText 46 = .ok (.aload_n 0, 1) := by decide +kernel
theorem dX5_splitText_47 : decode cX5_splitText 47 = .ok (.invokevirtual 113, 3) := by decide +kernel
theorem dX5_splitText_50 : decode cX5_splitText 50 = .ok (.goto 21, 3) := by decide +kernel
theorem dX5_splitText_53 : decode cX5_splitText 53 = .ok (.aload_n 0, 1) := by decide +kernel
theorem dX5_splitText_54 : decode cX5_splitText 54 = .ok (.invokevirtual 116, 3) := by decide +kernel
theorem dX5_splitText_57 : decode cX5_splitText 57 = .ok (.ifCond .eq 10, 3) := by decide +kernel
theorem dX5_splitText_60 : decode cX5_splitText 60 = .ok (.aload_n 0, 1) := by decide +kernel
theorem dX5_splitText_61 : decode cX5_splitText 61 = .ok (.invokevirtual 119, 3) := by decide +kernel
theorem dX5_splitText_64 : decode cX5_splitText 64 = .ok (.goto 7, 3) := by decide +kernel
theorem dX5_splitText_67 : decode cX5_splitText 67 = .ok (.aload_n 0, 1) := by decide +kernel
theorem dX5_splitText_68 : decode cX5_splitText 68 = .ok (.invokevirtual 122, 3) := by decide +kernel
theorem dX5_splitText_71 : decode cX5_splitText 71 = .ok (.iinc 1 1, 3) := by decide +kernel
theorem dX5_splitText_74 : decode cX5_splitText 74 = .ok (.goto (-60), 3) := by decide +kernel
theorem dX5_splitText_77 : decode cX5_splitText 77 = .ok (.aload_n 0, 1) := by decide +kernel
theorem dX5_splitText_78 : decode cX5_splitText 78 = .ok (.getfield 20, 3) := by decide +kernel
theorem dX5_splitText_81 : decode cX5_splitText 81 = .ok (.iconst 0, 1) := by decide +kernel
theorem dX5_splitText_82 : decode cX5_splitText 82 = .ok (.aload_n 0, 1) := by decide +kernel
theorem dX5_splitText_83 : decode cX5_splitText 83 = .ok (.getfield 9, 3) := by decide +kernel
theorem dX5_splitText_86 : decode cX5_splitText 86 = .ok (.invokevirtual 54, 3) := by decide +kernel
theorem dX5_splitText_89 : decode cX5_splitText 89 = .ok (.iconst 0, 1) := by decide +kernel
theorem dX5_splitText_90 : decode cX5_splitText 90 = .ok (.iconst 0, 1) := by decide +kernel
theorem dX5_splitText_91 : decode cX5_splitText 91 = .ok (.invokevirtual 99, 3) := by decide +kernel
theorem dX5_splitText_94 : decode cX5_splitText 94 = .ok (.return_, 1) := by decide +kernel
theorem dX5_takeSign_0 : decode cX5_takeSign 0 = .ok (.aload_n 0, 1) := by decide +kernel
theorem dX5_takeSign_1 : decode cX5_takeSign 1 = .ok (.getfield 9, 3) := by decide +kernel
theorem dX5_takeSign_4 : decode cX5_takeSign 4 = .ok (.aload_n 0, 1) := by decide +kernel
theorem dX5_takeSign_5 : decode cX5_takeSign 5 = .ok (.getfield 107, 3) := by decide +kernel
theorem dX5_takeSign_8 : decode cX5_takeSign 8 = .ok (.iconst 0, 1) := by decide +kernel
theorem dX5_takeSign_9 : decode cX5_takeSign 9 = .ok (.invokevirtual 30, 3) := by decide +kernel
theorem dX5_takeSign_12 : decode cX5_takeSign 12 = .ok (.istore_n 1, 1) := by decide +kernel
theorem dX5_takeSign_13 : decode cX5_takeSign 13 = .ok (.iload_n 1, 1) := by decide +kernel
theorem dX5_takeSign_14 : decode cX5_takeSign 14 = .ok (.bipush 32, 2) := by decide +kernel
theorem dX5_takeSign_16 : decode cX5_takeSign 16 = .ok (.if_icmp .eq 27, 3) := by decide +kernel
theorem dX5_takeSign_19 : decode cX5_takeSign 19 = .ok (.aload_n 0, 1) := by decide +kernel
theorem dX5_takeSign_20 : decode cX5_takeSign 20 = .ok (.getfield 20, 3) := by decide +kernel
theorem dX5_takeSign_23 : decode cX5_takeSign 23 = .ok (.iload_n 1, 1) := by decide +kernel
theorem dX5_takeSign_24 : decode cX5_takeSign 24 = .ok (.bipush 59, 2) := by decide +kernel
theorem dX5_takeSign_26 : decode cX5_takeSign 26 = .ok (.if_icmp .ne 7, 3) := by decide +kernel
theorem dX5_takeSign_29 : decode cX5_takeSign 29 = .ok (.iconst 3, 1) := by decide +kernel
theorem dX5_takeSign_30 : decode cX5_takeSign 30 = .ok (.goto 4, 3) := by decide +kernel
theorem dX5_takeSign_33 : decode cX5_takeSign 33 = .ok (.iconst 1, 1) := by decide +kernel
theorem dX5_takeSign_34 : decode cX5_takeSign 34 = .ok (.aload_n 0, 1) := by decide +kernel
theorem dX5_takeSign_35 : decode cX5_takeSign 35 = .ok (.getfield 107, 3) := by decide +kernel
theorem dX5_takeSign_38 : decode cX5_takeSign 38 = .ok (.iconst 0, 1) := by decide +kernel
theorem dX5_takeSign_39 : decode cX5_takeSign 39 = .ok (.iconst 0, 1) := by decide +kernel
theorem dX5_takeSign_40 : decode cX5_takeSign 40 = .ok (.invokevirtual 99, 3) := by decide +kernel
theorem dX5_takeSign_43 : decode cX5_takeSign 43 = .ok (.aload_n 0, 1) := by decide +kernel
theorem dX5_takeSign_44 : decode cX5_takeSign 44 = .ok (.dup, 1) := by decide +kernel
theorem dX5_takeSign_45 : decode cX5_takeSign 45 = .ok (.getfield 107, 3) := by decide +kernel
theorem dX5_takeSign_48 : decode cX5_takeSign 48 = .ok (.iconst 1, 1) := by decide +kernel
theorem dX5_takeSign_49 : decode cX5_takeSign 49 = .ok (.iadd, 1) := by decide +kernel
theorem dX5_takeSign_50 : decode cX5_takeSign 50 = .ok (.putfield 107, 3) := by decide +kernel
theorem dX5_takeSign_53 : decode cX5_takeSign 53 = .ok (.return_, 1) := by decide +kernel
theorem dX5_takeWord_0 : decode cX5_takeWord 0 = .ok (.aload_n 0, 1) := by decide +kernel
theorem dX5_takeWord_1 : decode cX5_takeWord 1 = .ok (.getfield 107, 3) := by decide +kernel
theorem dX5_takeWord_4 : decode cX5_takeWord 4 = .ok (.istore_n 1, 1) := by decide +kernel
theorem dX5_takeWord_5 : decode cX5_takeWord 5 = .ok (.aload_n 0, 1) := by decide +kernel
theorem dX5_takeWord_6 : decode cX5_takeWord 6 = .ok (.getfield 107, 3) := by decide +kernel
theorem dX5_takeWord_9 : decode cX5_takeWord 9 = .ok (.aload_n 0, 1) := by decide +kernel
theorem dX5_takeWord_10 : decode cX5_takeWord 10 = .ok (.getfield 9, 3) := by decide +kernel
theorem dX5_takeWord_13 : decode cX5_takeWord 13 = .ok (.invokevirtual 54, 3) := by decide +kernel
theorem dX5_takeWord_16 : decode cX5_takeWord 16 = .ok (.if_icmp .ge 23, 3) := by decide +kernel
theorem dX5_takeWord_19 : decode cX5_takeWord 19 = .ok (.aload_n 0, 1) := by decide +kernel
theorem dX5_takeWord_20 : decode cX5_takeWord 20 = .ok (.invokevirtual 110, 3) := by decide +kernel
theorem dX5_takeWord_23 : decode cX5_takeWord 23 = .ok (.ifCond .eq 16, 3) := by decide +kernel
theorem dX5_takeWord_26 : decode cX5_takeWord 26 = .ok (.aload_n 0, 1) := by decide +kernel
theorem dX5_takeWord_27 : decode cX5_takeWord 27 = .ok (.dup, 1) := by decide +kernel
theorem dX5_takeWord_28 : decode cX5_takeWord 28 = .ok (.getfield 107, 3) := by decide +kernel
theorem dX5_takeWord_31 : decode cX5_takeWord 31 = .ok (.iconst 1, 1) := by decide +kernel
theorem dX5_takeWord_32 : decode cX5_takeWord 32 = .ok (.iadd, 1) := by decide +kernel
theorem dX5_takeWord_33 : decode cX5_takeWord 33 = .ok (.putfield 107, 3) := by decide +kernel
theorem dX5_takeWord_36 : decode cX5_takeWord 36 = .ok (.goto (-31), 3) := by decide +kernel
theorem dX5_takeWord_39 : decode cX5_takeWord 39 = .ok (.aload_n 0, 1) := by decide +kernel
theorem dX5_takeWord_40 : decode cX5_takeWord 40 = .ok (.getfield 20, 3) := by decide +kernel
theorem dX5_takeWord_43 : decode cX5_takeWord 43 = .ok (.aload_n 0, 1) := by decide +kernel
theorem dX5_takeWord_44 : decode cX5_takeWord 44 = .ok (.iload_n 1, 1) := by decide +kernel
theorem dX5_takeWord_45 : decode cX5_takeWord 45 = .ok (.invokevirtual 125, 3) := by decide +kernel
theorem dX5_takeWord_48 : decode cX5_takeWord 48 = .ok (.iload_n 1, 1) := by decide +kernel
theorem dX5_takeWord_49 : decode cX5_takeWord 49 = .ok (.iconst 0, 1) := by decide +kernel
theorem dX5_takeWord_50 : decode cX5_takeWord 50 = .ok (.iconst 0, 1) := by decide +kernel
theorem dX5_takeWord_51 : decode cX5_takeWord 51 = .ok (.invokevirtual 99, 3) := by decide +kernel
theorem dX5_takeWord_54 : decode cX5_takeWord 54 = .ok (.return_, 1) := by decide +kernel
theorem dX5_takeNumber_0 : decode cX5_takeNumber 0 = .ok (.aload_n 0, 1) := by decide +kernel
theorem dX5_takeNumber_1 : decode cX5_takeNumber 1 = .ok (.getfield 107, 3) := by decide +kernel
theorem dX5_takeNumber_4 : decode cX5_takeNumber 4 = .ok (.istore_n 1, 1) := by decide +kernel
theorem dX5_takeNumber_5 : decode cX5_takeNumber 5 = .ok (.iconst 0, 1) := by decide +kernel
theorem dX5_takeNumber_6 : decode cX5_takeNumber 6 = .ok (.istore_n 2, 1) := by decide +kernel
theorem dX5_takeNumber_7 : decode cX5_takeNumber 7 = .ok (.aload_n 0, 1) := by decide +kernel
theorem dX5_takeNumber_8 : decode cX5_takeNumber 8 = .ok (.getfield 107, 3) := by decide +kernel
theorem dX5_takeNumber_11 : decode cX5_takeNumber 11 = .ok (.aload_n 0, 1) := by decide +kernel
theorem dX5_takeNumber_12 : decode cX5_takeNumber 12 = .ok (.getfield 9, 3) := by decide +kernel
theorem dX5_takeNumber_15 : decode cX5_takeNumber 15 = .ok (.invokevirtual 54, 3) := by decide +kernel
theorem dX5_takeNumber_18 : decode cX5_takeNumber 18 = .ok (.if_icmp .ge 44, 3) := by decide +kernel
theorem dX5_takeNumber_21 : decode cX5_takeNumber 21 = .ok (.aload_n 0, 1) := by decide +kernel
theorem dX5_takeNumber_22 : decode cX5_takeNumber 22 = .ok (.invokevirtual 116, 3) := by decide +kernel
theorem dX5_takeNumber_25 : decode cX5_takeNumber 25 = .ok (.ifCond .eq 37, 3) := by decide +kernel
theorem dX5_takeNumber_28 : decode cX5_takeNumber 28 = .ok (.bipush 10, 2) := by decide +kernel
theorem dX5_takeNumber_30 : decode cX5_takeNumber 30 = .ok (.iload_n 2, 1) := by decide +kernel
theorem dX5_takeNumber_31 : decode cX5_takeNumber 31 = .ok (.imul, 1) := by decide +kernel
theorem dX5_takeNumber_32 : decode cX5_takeNumber 32 = .ok (.aload_n 0, 1) := by decide +kernel
theorem dX5_takeNumber_33 : decode cX5_takeNumber 33 = .ok (.getfield 9, 3) := by decide +kernel
theorem dX5_takeNumber_36 : decode cX5_takeNumber 36 = .ok (.aload_n 0, 1) := by decide +kernel
theorem dX5_takeNumber_37 : decode cX5_takeNumber 37 = .ok (.getfield 107, 3) := by decide +kernel
theorem dX5_takeNumber_40 : decode cX5_takeNumber 40 = .ok (.iconst 0, 1) := by decide +kernel
theorem dX5_takeNumber_41 : decode cX5_takeNumber 41 = .ok (.invokevirtual 30, 3) := by decide +kernel
theorem dX5_takeNumber_44 : decode cX5_takeNumber 44 = .ok (.iadd, 1) := by decide +kernel
theorem dX5_takeNumber_45 : decode cX5_takeNumber 45 = .ok (.bipush 48, 2) := by decide +kernel
theorem dX5_takeNumber_47 : decode cX5_takeNumber 47 = .ok (.isub, 1) := by decide +kernel
theorem dX5_takeNumber_48 : decode cX5_takeNumber 48 = .ok (.istore_n 2, 1) := by decide +kernel
theorem dX5_takeNumber_49 : decode cX5_takeNumber 49 = .ok (.aload_n 0, 1) := by decide +kernel
theorem dX5_takeNumber_50 : decode cX5_takeNumber 50 = .ok (.dup, 1) := by decide +kernel
theorem dX5_takeNumber_51 : decode cX5_takeNumber 51 = .ok (.getfield 107, 3) := by decide +kernel
theorem dX5_takeNumber_54 : decode cX5_takeNumber 54 = .ok (.iconst 1, 1) := by decide +kernel
theorem dX5_takeNumber_55 : decode cX5_takeNumber 55 = .ok (.iadd, 1) := by decide +kernel
theorem dX5_takeNumber_56 : decode cX5_takeNumber 56 = .ok (.putfield 107, 3) := by decide +kernel
theorem dX5_takeNumber_59 : decode cX5_takeNumber 59 = .ok (.goto (-52), 3) := by decide +kernel
theorem dX5_takeNumber_62 : decode cX5_takeNumber 62 = .ok (.aload_n 0, 1) := by decide +kernel
theorem dX5_takeNumber_63 : decode cX5_takeNumber 63 = .ok (.getfield 20, 3) := by decide +kernel
theorem dX5_takeNumber_66 : decode cX5_takeNumber 66 = .ok (.aload_n 0, 1) := by decide +kernel
theorem dX5_takeNumber_67 : decode cX5_takeNumber 67 = .ok (.getfield 107, 3) := by decide +kernel
theorem dX5_takeNumber_70 : decode cX5_takeNumber 70 = .ok (.iload_n 1, 1) := by decide +kernel
theorem dX5_takeNumber_71 : decode cX5_takeNumber 71 = .ok (.isub, 1) := by decide +kernel
theorem dX5_takeNumber_72 : decode cX5_takeNumber 72 = .ok (.iconst 2, 1) := by decide +kernel
theorem dX5_takeNumber_73 : decode cX5_takeNumber 73 = .ok (.if_icmp .gt 7, 3) := by decide +kernel
theorem dX5_takeNumber_76 : decode cX5_takeNumber 76 = .ok (.iconst 2, 1) := by decide +kernel
theorem dX5_takeNumber_77 : decode cX5_takeNumber 77 = .ok (.goto 4, 3) := by decide +kernel
theorem dX5_takeNumber_80 : decode cX5_takeNumber 80 = .ok (.iconst 1, 1) := by decide +kernel
theorem dX5_takeNumber_81 : decode cX5_takeNumber 81 = .ok (.iload_n 1, 1) := by decide +kernel
theorem dX5_takeNumber_82 : decode cX5_takeNumber 82 = .ok (.iload_n 2, 1) := by decide +kernel
theorem dX5_takeNumber_83 : decode cX5_takeNumber 83 = .ok (.iconst 0, 1) := by decide +kernel
theorem dX5_takeNumber_84 : decode cX5_takeNumber 84 = .ok (.invokevirtual 99, 3) := by decide +kernel
theorem dX5_takeNumber_87 : decode cX5_takeNumber 87 = .ok (.return_, 1) := by decide +kernel
theorem dX5_wordFrom_0 : decode cX5_wordFrom 0 = .ok (.aload_n 0, 1) := by decide +kernel
theorem dX5_wordFrom_1 : decode cX5_wordFrom 1 = .ok (.ldc 128, 2) := by decide +kernel
theorem dX5_wordFrom_3 : decode cX5_wordFrom 3 = .ok (.iload_n 1, 1) := by decide +kernel
theorem dX5_wordFrom_4 : decode cX5_wordFrom 4 = .ok (.invokevirtual 130, 3) := by decide +kernel
theorem dX5_wordFrom_7 : decode cX5_wordFrom 7 = .ok (.ifCond .eq 5, 3) := by decide +kernel
theorem dX5_wordFrom_10 : decode cX5_wordFrom 10 = .ok (.iconst 4, 1) := by decide +kernel
theorem dX5_wordFrom_11 : decode cX5_wordFrom 11 = .ok (.ireturn, 1) := by decide +kernel
theorem dX5_wordFrom_12 : decode cX5_wordFrom 12 = .ok (.aload_n 0, 1) := by decide +kernel
theorem dX5_wordFrom_13 : decode cX5_wordFrom 13 = .ok (.ldc 134, 2) := by decide +kernel
theorem dX5_wordFrom_15 : decode cX5_wordFrom 15 = .ok (.iload_n 1, 1) := by decide +kernel
theorem dX5_wordFrom_16 : decode cX5_wordFrom 16 = .ok (.invokevirtual 130, 3) := by decide +kernel
theorem dX5_wordFrom_19 : decode cX5_wordFrom 19 = .ok (.ifCond .eq 5, 3) := by decide +kernel
theorem dX5_wordFrom_22 : decode cX5_wordFrom 22 = .ok (.iconst 5, 1) := by decide +kernel
theorem dX5_wordFrom_23 : decode cX5_wordFrom 23 = .ok (.ireturn, 1) := by decide +kernel
theorem dX5_wordFrom_24 : decode cX5_wordFrom 24 = .ok (.aload_n 0, 1) := by decide +kernel
theorem dX5_wordFrom_25 : decode cX5_wordFrom 25 = .ok (.ldc 136, 2) := by decide +kernel
theorem dX5_wordFrom_27 : decode cX5_wordFrom 27 = .ok (.iload_n 1, 1) := by decide +kernel
theorem dX5_wordFrom_28 : decode cX5_wordFrom 28 = .ok (.invokevirtual 130, 3) := by decide +kernel
theorem dX5_wordFrom_31 : decode cX5_wordFrom 31 = .ok (.ifCond .eq 6, 3) := by decide +kernel
theorem dX5_wordFrom_34 : decode cX5_wordFrom 34 = .ok (.bipush 6, 2) := by decide +kernel
theorem dX5_wordFrom_36 : decode cX5_wordFrom 36 = .ok (.ireturn, 1) := by decide +kernel
theorem dX5_wordFrom_37 : decode cX5_wordFrom 37 = .ok (.aload_n 0, 1) := by decide +kernel
theorem dX5_wordFrom_38 : decode cX5_wordFrom 38 = .ok (.ldc 138, 2) := by decide +kernel
theorem dX5_wordFrom_40 : decode cX5_wordFrom 40 = .ok (.iload_n 1, 1) := by decide +kernel
theorem dX5_wordFrom_41 : decode cX5_wordFrom 41 = .ok (.invokevirtual 130, 3) := by decide +kernel
theorem dX5_wordFrom_44 : decode cX5_wordFrom 44 = .ok (.ifCond .eq 6, 3) := by decide +kernel
theorem dX5_wordFrom_47 : decode cX5_wordFrom 47 = .ok (.bipush 7, 2) := by decide +kernel
theorem dX5_wordFrom_49 : decode cX5_wordFrom 49 = .ok (.ireturn, 1) := by decide +kernel
theorem dX5_wordFrom_50 : decode cX5_wordFrom 50 = .ok (.aload_n 0, 1) := by decide +kernel
theorem dX5_wordFrom_51 : decode cX5_wordFrom 51 = .ok (.ldc 140, 2) := by decide +kernel
theorem dX5_wordFrom_53 : decode cX5_wordFrom 53 = .ok (.iload_n 1, 1) := by decide +kernel
theorem dX5_wordFrom_54 : decode cX5_wordFrom 54 = .ok (.invokevirtual 130, 3) := by decide +kernel
theorem dX5_wordFrom_57 : decode cX5_wordFrom 57 = .ok (.ifCond .eq 8, 3) := by decide +kernel
theorem dX5_wordFrom_60 : decode cX5_wordFrom 60 = .ok (.bipush 8, 2) := by decide +kernel
theorem dX5_wordFrom_62 : decode cX5_wordFrom 62 = .ok (.goto 4, 3) := by decide +kernel
theorem dX5_wordFrom_65 : decode cX5_wordFrom 65 = .ok (.iconst 1, 1) := by decide +kernel
theorem dX5_wordFrom_66 : decode cX5_wordFrom 66 = .ok (.ireturn, 1) := by decide +kernel
theorem dX5_wordIs_0 : decode cX5_wordIs 0 = .ok (.aload_n 0, 1) := by decide +kernel
theorem dX5_wordIs_1 : decode cX5_wordIs 1 = .ok (.getfield 107, 3) := by decide +kernel
theorem dX5_wordIs_4 : decode cX5_wordIs 4 = .ok (.iload_n 2, 1) := by decide +kernel
theorem dX5_wordIs_5 : decode cX5_wordIs 5 = .ok (.isub, 1) := by decide +kernel
theorem dX5_wordIs_6 : decode cX5_wordIs 6 = .ok (.aload_n 1, 1) := by decide +kernel
theorem dX5_wordIs_7 : decode cX5_wordIs 7 = .ok (.invokevirtual 142, 3) := by decide +kernel
theorem dX5_wordIs_10 : decode cX5_wordIs 10 = .ok (.if_icmp .eq 5, 3) := by decide +kernel
theorem dX5_wordIs_13 : decode cX5_wordIs 13 = .ok (.iconst 0, 1) := by decide +kernel
theorem dX5_wordIs_14 : decode cX5_wordIs 14 = .ok (.ireturn, 1) := by decide +kernel
theorem dX5_wordIs_15 : decode cX5_wordIs 15 = .ok (.iconst 0, 1) := by decide +kernel
theorem dX5_wordIs_16 : decode cX5_wordIs 16 = .ok (.istore_n 3, 1) := by decide +kernel
theorem dX5_wordIs_17 : decode cX5_wordIs 17 = .ok (.iload_n 3, 1) := by decide +kernel
theorem dX5_wordIs_18 : decode cX5_wordIs 18 = .ok (.aload_n 1, 1) := by decide +kernel
theorem dX5_wordIs_19 : decode cX5_wordIs 19 = .ok (.invokevirtual 142, 3) := by decide +kernel
theorem dX5_wordIs_22 : decode cX5_wordIs 22 = .ok (.if_icmp .ge 30, 3) := by decide +kernel
theorem dX5_wordIs_25 : decode cX5_wordIs 25 = .ok (.aload_n 0, 1) := by decide +kernel
theorem dX5_wordIs_26 : decode cX5_wordIs 26 = .ok (.getfield 9, 3) := by decide +kernel
theorem dX5_wordIs_29 : decode cX5_wordIs 29 = .ok (.iload_n 2, 1) := by decide +kernel
theorem dX5_wordIs_30 : decode cX5_wordIs 30 = .ok (.iload_n 3, 1) := by decide +kernel
theorem dX5_wordIs_31 : decode cX5_wordIs 31 = .ok (.iadd, 1) := by decide +kernel
theorem dX5_wordIs_32 : decode cX5_wordIs 32 = .ok (.iconst 0, 1) := by decide +kernel
theorem dX5_wordIs_33 : decode cX5_wordIs 33 = .ok (.invokevirtual 30, 3) := by decide +kernel
theorem dX5_wordIs_36 : decode cX5_wordIs 36 = .ok (.aload_n 1, 1) := by decide +kernel
theorem dX5_wordIs_37 : decode cX5_wordIs 37 = .ok (.iload_n 3, 1) := by decide +kernel
theorem dX5_wordIs_38 : decode cX5_wordIs 38 = .ok (.invokevirtual 147, 3) := by decide +kernel
theorem dX5_wordIs_41 : decode cX5_wordIs 41 = .ok (.if_icmp .eq 5, 3) := by decide +kernel
theorem dX5_wordIs_44 : decode cX5_wordIs 44 = .ok (.iconst 0, 1) := by decide +kernel
theorem dX5_wordIs_45 : decode cX5_wordIs 45 = .ok (.ireturn, 1) := by decide +kernel
theorem dX5_wordIs_46 : decode cX5_wordIs 46 = .ok (.iinc 3 1, 3) := by decide +kernel
theorem dX5_wordIs_49 : decode cX5_wordIs 49 = .ok (.goto (-32), 3) := by decide +kernel
theorem dX5_wordIs_52 : decode cX5_wordIs 52 = .ok (.iconst 1, 1) := by decide +kernel
theorem dX5_wordIs_53 : decode cX5_wordIs 53 = .ok (.ireturn, 1) := by decide +kernel
theorem dX5_isLetter_0 : decode cX5_isLetter 0 = .ok (.aload_n 0, 1) := by decide +kernel
theorem dX5_isLetter_1 : decode cX5_isLetter 1 = .ok (.getfield 9, 3) := by decide +kernel
theorem dX5_isLetter_4 : decode cX5_isLetter 4 = .ok (.aload_n 0, 1) := by decide +kernel
theorem dX5_isLetter_5 : decode cX5_isLetter 5 = .ok (.getfield 107, 3) := by decide +kernel
theorem dX5_isLetter_8 : decode cX5_isLetter 8 = .ok (.iconst 0, 1) := by decide +kernel
theorem dX5_isLetter_9 : decode cX5_isLetter 9 = .ok (.invokevirtual 30, 3) := by decide +kernel
theorem dX5_isLetter_12 : decode cX5_isLetter 12 = .ok (.bipush 97, 2) := by decide +kernel
theorem dX5_isLetter_14 : decode cX5_isLetter 14 = .ok (.bipush 122, 2) := by decide +kernel
theorem dX5_isLetter_16 : decode cX5_isLetter 16 = .ok (.invokestatic 103, 3) := by decide +kernel
theorem dX5_isLetter_19 : decode cX5_isLetter 19 = .ok (.ireturn, 1) := by decide +kernel
theorem dX5_isFigure_0 : decode cX5_isFigure 0 = .ok (.aload_n 0, 1) := by decide +kernel
theorem dX5_isFigure_1 : decode cX5_isFigure 1 = .ok (.getfield 9, 3) := by decide +kernel
theorem dX5_isFigure_4 : decode cX5_isFigure 4 = .ok (.aload_n 0, 1) := by decide +kernel
theorem dX5_isFigure_5 : decode cX5_isFigure 5 = .ok (.getfield 107, 3) := by decide +kernel
theorem dX5_isFigure_8 : decode cX5_isFigure 8 = .ok (.iconst 0, 1) := by decide +kernel
theorem dX5_isFigure_9 : decode cX5_isFigure 9 = .ok (.invokevirtual 30, 3) := by decide +kernel
theorem dX5_isFigure_12 : decode cX5_isFigure 12 = .ok (.bipush 48, 2) := by decide +kernel
theorem dX5_isFigure_14 : decode cX5_isFigure 14 = .ok (.bipush 57, 2) := by decide +kernel
theorem dX5_isFigure_16 : decode cX5_isFigure 16 = .ok (.invokestatic 103, 3) := by decide +kernel
theorem dX5_isFigure_19 : decode cX5_isFigure 19 = .ok (.ireturn, 1) := by decide +kernel
theorem dX6_init_0 : decode cX6_init 0 = .ok (.aload_n 0, 1) := by decide +kernel
theorem dX6_init_1 : decode cX6_init 1 = .ok (.invokespecial 3, 3) := by decide +kernel
theorem dX6_init_4 : decode cX6_init 4 = .ok (.aload_n 0, 1) := by decide +kernel
theorem dX6_init_5 : decode cX6_init 5 = .ok (.sipush 256, 3) := by decide +kernel
theorem dX6_init_8 : decode cX6_init 8 = .ok (.newarray .int, 2) := by decide +kernel
theorem dX6_init_10 : decode cX6_init 10 = .ok (.putfield 9, 3) := by decide +kernel
theorem dX6_init_13 : decode cX6_init 13 = .ok (.aload_n 0, 1) := by decide +kernel
theorem dX6_init_14 : decode cX6_init 14 = .ok (.iconst (-1), 1) := by decide +kernel
theorem dX6_init_15 : decode cX6_init 15 = .ok (.putfield 15, 3) := by decide +kernel
theorem dX6_init_18 : decode cX6_init 18 = .ok (.return_, 1) := by decide +kernel
theorem dX6_startLooking_0 : decode cX6_startLooking 0 = .ok (.aload_n 0, 1) := by decide +kernel
theorem dX6_startLooking_1 : decode cX6_startLooking 1 = .ok (.iconst (-1), 1) := by decide +kernel
theorem dX6_startLooking_2 : decode cX6_startLooking 2 = .ok (.putfield 19, 3) := by decide +kernel
theorem dX6_startLooking_5 : decode cX6_startLooking 5 = .ok (.aload_n 0, 1) := by decide +kernel
theorem dX6_startLooking_6 : decode cX6_startLooking 6 = .ok (.iconst 0, 1) := by decide +kernel
theorem dX6_startLooking_7 : decode cX6_startLooking 7 = .ok (.putfield 22, 3) := by decide +kernel
theorem dX6_startLooking_10 : decode cX6_startLooking 10 = .ok (.return_, 1) := by decide +kernel
theorem dX6_startLook_0 : decode cX6_startLook 0 = .ok (.iconst 0, 1) := by decide +kernel
theorem dX6_startLook_1 : decode cX6_startLook 1 = .ok (.istore_n 1, 1) := by decide +kernel
theorem dX6_startLook_2 : decode cX6_startLook 2 = .ok (.iload_n 1, 1) := by decide +kernel
theorem dX6_startLook_3 : decode cX6_startLook 3 = .ok (.aload_n 0, 1) := by decide +kernel
theorem dX6_startLook_4 : decode cX6_startLook 4 = .ok (.getfield 15, 3) := by decide +kernel
theorem dX6_startLook_7 : decode cX6_startLook 7 = .ok (.if_icmp .gt 18, 3) := by decide +kernel
theorem dX6_startLook_10 : decode cX6_startLook 10 = .ok (.aload_n 0, 1) := by decide +kernel
theorem dX6_startLook_11 : decode cX6_startLook 11 = .ok (.getfield 9, 3) := by decide +kernel
theorem dX6_startLook_14 : decode cX6_startLook 14 = .ok (.iload_n 1, 1) := by decide +kernel
theorem dX6_startLook_15 : decode cX6_startLook 15 = .ok (.iconst 0, 1) := by decide +kernel
theorem dX6_startLook_16 : decode cX6_startLook 16 = .ok (.invokestatic 25, 3) := by decide +kernel
theorem dX6_startLook_19 : decode cX6_startLook 19 = .ok (.iinc 1 1, 3) := by decide +kernel
theorem dX6_startLook_22 : decode cX6_startLook 22 = .ok (.goto (-20), 3) := by decide +kernel
theorem dX6_startLook_25 : decode cX6_startLook 25 = .ok (.aload_n 0, 1) := by decide +kernel
theorem dX6_startLook_26 : decode cX6_startLook 26 = .ok (.iconst (-1), 1) := by decide +kernel
theorem dX6_startLook_27 : decode cX6_startLook 27 = .ok (.putfield 15, 3) := by decide +kernel
theorem dX6_startLook_30 : decode cX6_startLook 30 = .ok (.aload_n 0, 1) := by decide +kernel
theorem dX6_startLook_31 : decode cX6_startLook 31 = .ok (.iconst 0, 1) := by decide +kernel
theorem dX6_startLook_32 : decode cX6_startLook 32 = .ok (.putfield 29, 3) := by decide +kernel
theorem dX6_startLook_35 : decode cX6_startLook 35 = .ok (.return_, 1) := by decide +kernel
theorem dX6_see_0 : decode cX6_see 0 = .ok (.aload_n 0, 1) := by decide +kernel
theorem dX6_see_1 : decode cX6_see 1 = .ok (.getfield 9, 3) := by decide +kernel
theorem dX6_see_4 : decode cX6_see 4 = .ok (.iload_n 1, 1) := by decide +kernel
theorem dX6_see_5 : decode cX6_see 5 = .ok (.invokestatic 32, 3) := by decide +kernel
theorem dX6_see_8 : decode cX6_see 8 = .ok (.iconst 1, 1) := by decide +kernel
theorem dX6_see_9 : decode cX6_see 9 = .ok (.iadd, 1) := by decide +kernel
theorem dX6_see_10 : decode cX6_see 10 = .ok (.istore_n 2, 1) := by decide +kernel
theorem dX6_see_11 : decode cX6_see 11 = .ok (.aload_n 0, 1) := by decide +kernel
theorem dX6_see_12 : decode cX6_see 12 = .ok (.getfield 9, 3) := by decide +kernel
theorem dX6_see_15 : decode cX6_see 15 = .ok (.iload_n 1, 1) := by decide +kernel
theorem dX6_see_16 : decode cX6_see 16 = .ok (.iload_n 2, 1) := by decide +kernel
theorem dX6_see_17 : decode cX6_see 17 = .ok (.invokestatic 25, 3) := by decide +kernel
theorem dX6_see_20 : decode cX6_see 20 = .ok (.aload_n 0, 1) := by decide +kernel
theorem dX6_see_21 : decode cX6_see 21 = .ok (.aload_n 0, 1) := by decide +kernel
theorem dX6_see_22 : decode cX6_see 22 = .ok (.getfield 15, 3) := by decide +kernel
theorem dX6_see_25 : decode cX6_see 25 = .ok (.iload_n 1, 1) := by decide +kernel
theorem dX6_see_26 : decode cX6_see 26 = .ok (.invokestatic 36, 3) := by decide +kernel
theorem dX6_see_29 : decode cX6_see 29 = .ok (.putfield 15, 3) := by decide +kernel
theorem dX6_see_32 : decode cX6_see 32 = .ok (.aload_n 0, 1) := by decide +kernel
theorem dX6_see_33 : decode cX6_see 33 = .ok (.aload_n 0, 1) := by decide +kernel
theorem dX6_see_34 : decode cX6_see 34 = .ok (.getfield 29, 3) := by decide +kernel
theorem dX6_see_37 : decode cX6_see 37 = .ok (.iload_n 2, 1) := by decide +kernel
theorem dX6_see_38 : decode cX6_see 38 = .ok (.invokestatic 36, 3) := by decide +kernel
theorem dX6_see_41 : decode cX6_see 41 = .ok (.putfield 29, 3) := by decide +kernel
theorem dX6_see_44 : decode cX6_see 44 = .ok (.return_, 1) := by decide +kernel
theorem dX6_endLook_0 : decode cX6_endLook 0 = .ok (.aload_n 0, 1) := by decide +kernel
theorem dX6_endLook_1 : decode cX6_endLook 1 = .ok (.getfield 19, 3) := by decide +kernel
theorem dX6_endLook_4 : decode cX6_endLook 4 = .ok (.iconst (-1), 1) := by decide +kernel
theorem dX6_endLook_5 : decode cX6_endLook 5 = .ok (.if_icmp .eq 14, 3) := by decide +kernel
theorem dX6_endLook_8 : decode cX6_endLook 8 = .ok (.aload_n 0, 1) := by decide +kernel
theorem dX6_endLook_9 : decode cX6_endLook 9 = .ok (.getfield 29, 3) := by decide +kernel
theorem dX6_endLook_12 : decode cX6_endLook 12 = .ok (.aload_n 0, 1) := by decide +kernel
theorem dX6_endLook_13 : decode cX6_endLook 13 = .ok (.getfield 22, 3) := by decide +kernel
theorem dX6_endLook_16 : decode cX6_endLook 16 = .ok (.if_icmp .ge 16, 3) := by decide +kernel
theorem dX6_endLook_19 : decode cX6_endLook 19 = .ok (.aload_n 0, 1) := by decide +kernel
theorem dX6_endLook_20 : decode cX6_endLook 20 = .ok (.iload_n 1, 1) := by decide +kernel
theorem dX6_endLook_21 : decode cX6_endLook 21 = .ok (.putfield 19, 3) := by decide +kernel
theorem dX6_endLook_24 : decode cX6_endLook 24 = .ok (.aload_n 0, 1) := by decide +kernel
theorem dX6_endLook_25 : decode cX6_endLook 25 = .ok (.aload_n 0, 1) := by decide +kernel
theorem dX6_endLook_26 : decode cX6_endLook 26 = .ok (.getfield 29, 3) := by decide +kernel
theorem dX6_endLook_29 : decode cX6_endLook 29 = .ok (.putfield 22, 3) := by decide +kernel
theorem dX6_endLook_32 : decode cX6_endLook 32 = .ok (.return_, 1) := by decide +kernel
