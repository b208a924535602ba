theorem dX2_init_0 : decode cX2_init 0 = .ok (.aload_n 0, 1) := by decide +kernel
theorem dX2_init_1 : decode cX2_init 1 = .ok (.invokespecial 3, 3) := by decide +kernel
theorem dX2_init_4 : decode cX2_init 4 = .ok (.aload_n 0, 1) := by decide +kernel
theorem dX2_init_5 : decode cX2_init 5 = .ok (.iconst 5, 1) := by decide +kernel
theorem dX2_init_6 : decode cX2_init 6 = .ok (.newarray .int, 2) := by decide +kernel
theorem dX2_init_8 : decode cX2_init 8 = .ok (.putfield 9, 3) := by decide +kernel
theorem dX2_init_11 : decode cX2_init 11 = .ok (.aload_n 0, 1) := by decide +kernel
theorem dX2_init_12 : decode cX2_init 12 = .ok (.iconst 5, 1) := by decide +kernel
theorem dX2_init_13 : decode cX2_init 13 = .ok (.newarray .int, 2) := by decide +kernel
theorem dX2_init_15 : decode cX2_init 15 = .ok (.putfield 15, 3) := by decide +kernel
theorem dX2_init_18 : decode cX2_init 18 = .ok (.aload_n 0, 1) := by decide +kernel
theorem dX2_init_19 : decode cX2_init 19 = .ok (.iconst 5, 1) := by decide +kernel
theorem dX2_init_20 : decode cX2_init 20 = .ok (.newarray .int, 2) := by decide +kernel
theorem dX2_init_22 : decode cX2_init 22 = .ok (.putfield 18, 3) := by decide +kernel
theorem dX2_init_25 : decode cX2_init 25 = .ok (.return_, 1) := by decide +kernel
theorem dX2_findFailing_0 : decode cX2_findFailing 0 = .ok (.iconst 0, 1) := by decide +kernel
theorem dX2_findFailing_1 : decode cX2_findFailing 1 = .ok (.istore_n 3, 1) := by decide +kernel
theorem dX2_findFailing_2 : decode cX2_findFailing 2 = .ok (.iload_n 3, 1) := by decide +kernel
theorem dX2_findFailing_3 : decode cX2_findFailing 3 = .ok (.aload_n 1, 1) := by decide +kernel
theorem dX2_findFailing_4 : decode cX2_findFailing 4 = .ok (.getfield 21, 3) := by decide +kernel
theorem dX2_findFailing_7 : decode cX2_findFailing 7 = .ok (.if_icmp .ge 44, 3) := by decide +kernel
theorem dX2_findFailing_10 : decode cX2_findFailing 10 = .ok (.aload_n 1, 1) := by decide +kernel
theorem dX2_findFailing_11 : decode cX2_findFailing 11 = .ok (.getfield 27, 3) := by decide +kernel
theorem dX2_findFailing_14 : decode cX2_findFailing 14 = .ok (.iload_n 3, 1) := by decide +kernel
theorem dX2_findFailing_15 : decode cX2_findFailing 15 = .ok (.aaload, 1) := by decide +kernel
theorem dX2_findFailing_16 : decode cX2_findFailing 16 = .ok (.getfield 31, 3) := by decide +kernel
theorem dX2_findFailing_19 : decode cX2_findFailing 19 = .ok (.istore 4, 2) := by decide +kernel
theorem dX2_findFailing_21 : decode cX2_findFailing 21 = .ok (.aload_n 0, 1) := by decide +kernel
theorem dX2_findFailing_22 : decode cX2_findFailing 22 = .ok (.getfield 9, 3) := by decide +kernel
theorem dX2_findFailing_25 : decode cX2_findFailing 25 = .ok (.iload_n 3, 1) := by decide +kernel
theorem dX2_findFailing_26 : decode cX2_findFailing 26 = .ok (.iload_n 2, 1) := by decide +kernel
theorem dX2_findFailing_27 : decode cX2_findFailing 27 = .ok (.iload_n 3, 1) := by decide +kernel
theorem dX2_findFailing_28 : decode cX2_findFailing 28 = .ok (.ishr, 1) := by decide +kernel
theorem dX2_findFailing_29 : decode cX2_findFailing 29 = .ok (.iconst 1, 1) := by decide +kernel
theorem dX2_findFailing_30 : decode cX2_findFailing 30 = .ok (.iand, 1) := by decide +kernel
theorem dX2_findFailing_31 : decode cX2_findFailing 31 = .ok (.iconst 1, 1) := by decide +kernel
theorem dX2_findFailing_32 : decode cX2_findFailing 32 = .ok (.if_icmp .ne 10, 3) := by decide +kernel
theorem dX2_findFailing_35 : decode cX2_findFailing 35 = .ok (.iload 4, 2) := by decide +kernel
theorem dX2_findFailing_37 : decode cX2_findFailing 37 = .ok (.iconst 1, 1) := by decide +kernel
theorem dX2_findFailing_38 : decode cX2_findFailing 38 = .ok (.isub, 1) := by decide +kernel
theorem dX2_findFailing_39 : decode cX2_findFailing 39 = .ok (.goto 5, 3) := by decide +kernel
theorem dX2_findFailing_42 : decode cX2_findFailing 42 = .ok (.iload 4, 2) := by decide +kernel
theorem dX2_findFailing_44 : decode cX2_findFailing 44 = .ok (.iastore, 1) := by decide +kernel
theorem dX2_findFailing_45 : decode cX2_findFailing 45 = .ok (.iinc 3 1, 3) := by decide +kernel
theorem dX2_findFailing_48 : decode cX2_findFailing 48 = .ok (.goto (-46), 3) := by decide +kernel
theorem dX2_findFailing_51 : decode cX2_findFailing 51 = .ok (.aload_n 0, 1) := by decide +kernel
theorem dX2_findFailing_52 : decode cX2_findFailing 52 = .ok (.aload_n 1, 1) := by decide +kernel
theorem dX2_findFailing_53 : decode cX2_findFailing 53 = .ok (.invokevirtual 36, 3) := by decide +kernel
theorem dX2_findFailing_56 : decode cX2_findFailing 56 = .ok (.return_, 1) := by decide +kernel
theorem dX2_settleBack_0 : decode cX2_settleBack 0 = .ok (.aload_n 0, 1) := by decide +kernel
theorem dX2_settleBack_1 : decode cX2_settleBack 1 = .ok (.iconst 0, 1) := by decide +kernel
theorem dX2_settleBack_2 : decode cX2_settleBack 2 = .ok (.putfield 40, 3) := by decide +kernel
theorem dX2_settleBack_5 : decode cX2_settleBack 5 = .ok (.iconst 0, 1) := by decide +kernel
theorem dX2_settleBack_6 : decode cX2_settleBack 6 = .ok (.istore_n 2, 1) := by decide +kernel
theorem dX2_settleBack_7 : decode cX2_settleBack 7 = .ok (.iload_n 2, 1) := by decide +kernel
theorem dX2_settleBack_8 : decode cX2_settleBack 8 = .ok (.bipush 61, 2) := by decide +kernel
theorem dX2_settleBack_10 : decode cX2_settleBack 10 = .ok (.if_icmp .ge 28, 3) := by decide +kernel
theorem dX2_settleBack_13 : decode cX2_settleBack 13 = .ok (.aload_n 0, 1) := by decide +kernel
theorem dX2_settleBack_14 : decode cX2_settleBack 14 = .ok (.aload_n 1, 1) := by decide +kernel
theorem dX2_settleBack_15 : decode cX2_settleBack 15 = .ok (.invokevirtual 43, 3) := by decide +kernel
theorem dX2_settleBack_18 : decode cX2_settleBack 18 = .ok (.ifCond .ne 4, 3) := by decide +kernel
theorem dX2_settleBack_21 : decode cX2_settleBack 21 = .ok (.return_, 1) := by decide +kernel
theorem dX2_settleBack_22 : decode cX2_settleBack 22 = .ok (.aload_n 0, 1) := by decide +kernel
theorem dX2_settleBack_23 : decode cX2_settleBack 23 = .ok (.dup, 1) := by decide +kernel
theorem dX2_settleBack_24 : decode cX2_settleBack 24 = .ok (.getfield 40, 3) := by decide +kernel
theorem dX2_settleBack_27 : decode cX2_settleBack 27 = .ok (.iconst 1, 1) := by decide +kernel
theorem dX2_settleBack_28 : decode cX2_settleBack 28 = .ok (.iadd, 1) := by decide +kernel
theorem dX2_settleBack_29 : decode cX2_settleBack 29 = .ok (.putfield 40, 3) := by decide +kernel
theorem dX2_settleBack_32 : decode cX2_settleBack 32 = .ok (.iinc 2 1, 3) := by decide +kernel
theorem dX2_settleBack_35 : decode cX2_settleBack 35 = .ok (.goto (-28), 3) := by decide +kernel
theorem dX2_settleBack_38 : decode cX2_settleBack 38 = .ok (.return_, 1) := by decide +kernel
theorem dX2_goRound_0 : decode cX2_goRound 0 = .ok (.iconst 0, 1) := by decide +kernel
theorem dX2_goRound_1 : decode cX2_goRound 1 = .ok (.istore_n 2, 1) := by decide +kernel
theorem dX2_goRound_2 : decode cX2_goRound 2 = .ok (.aload_n 0, 1) := by decide +kernel
theorem dX2_goRound_3 : decode cX2_goRound 3 = .ok (.getfield 9, 3) := by decide +kernel
theorem dX2_goRound_6 : decode cX2_goRound 6 = .ok (.iconst 0, 1) := by decide +kernel
theorem dX2_goRound_7 : decode cX2_goRound 7 = .ok (.aload_n 0, 1) := by decide +kernel
theorem dX2_goRound_8 : decode cX2_goRound 8 = .ok (.getfield 15, 3) := by decide +kernel
theorem dX2_goRound_11 : decode cX2_goRound 11 = .ok (.iconst 0, 1) := by decide +kernel
theorem dX2_goRound_12 : decode cX2_goRound 12 = .ok (.iconst 5, 1) := by decide +kernel
theorem dX2_goRound_13 : decode cX2_goRound 13 = .ok (.invokestatic 47, 3) := by decide +kernel
theorem dX2_goRound_16 : decode cX2_goRound 16 = .ok (.iconst 0, 1) := by decide +kernel
theorem dX2_goRound_17 : decode cX2_goRound 17 = .ok (.istore_n 3, 1) := by decide +kernel
theorem dX2_goRound_18 : decode cX2_goRound 18 = .ok (.iload_n 3, 1) := by decide +kernel
theorem dX2_goRound_19 : decode cX2_goRound 19 = .ok (.aload_n 1, 1) := by decide +kernel
theorem dX2_goRound_20 : decode cX2_goRound 20 = .ok (.getfield 53, 3) := by decide +kernel
theorem dX2_goRound_23 : decode cX2_goRound 23 = .ok (.if_icmp .ge 59, 3) := by decide +kernel
theorem dX2_goRound_26 : decode cX2_goRound 26 = .ok (.aload_n 1, 1) := by decide +kernel
theorem dX2_goRound_27 : decode cX2_goRound 27 = .ok (.getfield 56, 3) := by decide +kernel
theorem dX2_goRound_30 : decode cX2_goRound 30 = .ok (.iload_n 3, 1) := by decide +kernel
theorem dX2_goRound_31 : decode cX2_goRound 31 = .ok (.aaload, 1) := by decide +kernel
theorem dX2_goRound_32 : decode cX2_goRound 32 = .ok (.astore 4, 2) := by decide +kernel
theorem dX2_goRound_34 : decode cX2_goRound 34 = .ok (.aload 4, 2) := by decide +kernel
theorem dX2_goRound_36 : decode cX2_goRound 36 = .ok (.aload_n 0, 1) := by decide +kernel
theorem dX2_goRound_37 : decode cX2_goRound 37 = .ok (.getfield 15, 3) := by decide +kernel
theorem dX2_goRound_40 : decode cX2_goRound 40 = .ok (.invokevirtual 60, 3) := by decide +kernel
theorem dX2_goRound_43 : decode cX2_goRound 43 = .ok (.ifCond .eq 33, 3) := by decide +kernel
theorem dX2_goRound_46 : decode cX2_goRound 46 = .ok (.aload_n 0, 1) := by decide +kernel
theorem dX2_goRound_47 : decode cX2_goRound 47 = .ok (.getfield 9, 3) := by decide +kernel
theorem dX2_goRound_50 : decode cX2_goRound 50 = .ok (.aload 4, 2) := by decide +kernel
theorem dX2_goRound_52 : decode cX2_goRound 52 = .ok (.getfield 66, 3) := by decide +kernel
theorem dX2_goRound_55 : decode cX2_goRound 55 = .ok (.aload_n 0, 1) := by decide +kernel
theorem dX2_goRound_56 : decode cX2_goRound 56 = .ok (.getfield 9, 3) := by decide +kernel
theorem dX2_goRound_59 : decode cX2_goRound 59 = .ok (.aload 4, 2) := by decide +kernel
theorem dX2_goRound_61 : decode cX2_goRound 61 = .ok (.getfield 66, 3) := by decide +kernel
theorem dX2_goRound_64 : decode cX2_goRound 64 = .ok (.iaload, 1) := by decide +kernel
theorem dX2_goRound_65 : decode cX2_goRound 65 = .ok (.aload 4, 2) := by decide +kernel
theorem dX2_goRound_67 : decode cX2_goRound 67 = .ok (.getfield 69, 3) := by decide +kernel
theorem dX2_goRound_70 : decode cX2_goRound 70 = .ok (.invokestatic 72, 3) := by decide +kernel
theorem dX2_goRound_73 : decode cX2_goRound 73 = .ok (.iastore, 1) := by decide +kernel
theorem dX2_goRound_74 : decode cX2_goRound 74 = .ok (.iconst 1, 1) := by decide +kernel
theorem dX2_goRound_75 : decode cX2_goRound 75 = .ok (.istore_n 2, 1) := by decide +kernel
theorem dX2_goRound_76 : decode cX2_goRound 76 = .ok (.iinc 3 1, 3) := by decide +kernel
theorem dX2_goRound_79 : decode cX2_goRound 79 = .ok (.goto (-61), 3) := by decide +kernel
theorem dX2_goRound_82 : decode cX2_goRound 82 = .ok (.iload_n 2, 1) := by decide +kernel
theorem dX2_goRound_83 : decode cX2_goRound 83 = .ok (.ireturn, 1) := by decide +kernel
theorem dX2_findGreatest_0 : decode cX2_findGreatest 0 = .ok (.iconst 0, 1) := by decide +kernel
theorem dX2_findGreatest_1 : decode cX2_findGreatest 1 = .ok (.istore_n 3, 1) := by decide +kernel
theorem dX2_findGreatest_2 : decode cX2_findGreatest 2 = .ok (.iload_n 3, 1) := by decide +kernel
theorem dX2_findGreatest_3 : decode cX2_findGreatest 3 = .ok (.aload_n 1, 1) := by decide +kernel
theorem dX2_findGreatest_4 : decode cX2_findGreatest 4 = .ok (.getfield 21, 3) := by decide +kernel
theorem dX2_findGreatest_7 : decode cX2_findGreatest 7 = .ok (.if_icmp .ge 41, 3) := by decide +kernel
theorem dX2_findGreatest_10 : decode cX2_findGreatest 10 = .ok (.aload_n 0, 1) := by decide +kernel
theorem dX2_findGreatest_11 : decode cX2_findGreatest 11 = .ok (.getfield 9, 3) := by decide +kernel
theorem dX2_findGreatest_14 : decode cX2_findGreatest 14 = .ok (.iload_n 3, 1) := by decide +kernel
theorem dX2_findGreatest_15 : decode cX2_findGreatest 15 = .ok (.aload_n 2, 1) := by decide +kernel
theorem dX2_findGreatest_16 : decode cX2_findGreatest 16 = .ok (.iload_n 3, 1) := by decide +kernel
theorem dX2_findGreatest_17 : decode cX2_findGreatest 17 = .ok (.invokevirtual 78, 3) := by decide +kernel
theorem dX2_findGreatest_20 : decode cX2_findGreatest 20 = .ok (.ifCond .eq 12, 3) := by decide +kernel
theorem dX2_findGreatest_23 : decode cX2_findGreatest 23 = .ok (.aload_n 2, 1) := by decide +kernel
theorem dX2_findGreatest_24 : decode cX2_findGreatest 24 = .ok (.getfield 84, 3) := by decide +kernel
theorem dX2_findGreatest_27 : decode cX2_findGreatest 27 = .ok (.iload_n 3, 1) := by decide +kernel
theorem dX2_findGreatest_28 : decode cX2_findGreatest 28 = .ok (.iaload, 1) := by decide +kernel
theorem dX2_findGreatest_29 : decode cX2_findGreatest 29 = .ok (.goto 12, 3) := by decide +kernel
theorem dX2_findGreatest_32 : decode cX2_findGreatest 32 = .ok (.aload_n 1, 1) := by decide +kernel
theorem dX2_findGreatest_33 : decode cX2_findGreatest 33 = .ok (.getfield 27, 3) := by decide +kernel
theorem dX2_findGreatest_36 : decode cX2_findGreatest 36 = .ok (.iload_n 3, 1) := by decide +kernel
theorem dX2_findGreatest_37 : decode cX2_findGreatest 37 = .ok (.aaload, 1) := by decide +kernel
theorem dX2_findGreatest_38 : decode cX2_findGreatest 38 = .ok (.getfield 31, 3) := by decide +kernel
theorem dX2_findGreatest_41 : decode cX2_findGreatest 41 = .ok (.iastore, 1) := by decide +kernel
theorem dX2_findGreatest_42 : decode cX2_findGreatest 42 = .ok (.iinc 3 1, 3) := by decide +kernel
theorem dX2_findGreatest_45 : decode cX2_findGreatest 45 = .ok (.goto (-43), 3) := by decide +kernel
theorem dX2_findGreatest_48 : decode cX2_findGreatest 48 = .ok (.aload_n 0, 1) := by decide +kernel
theorem dX2_findGreatest_49 : decode cX2_findGreatest 49 = .ok (.aload_n 1, 1) := by decide +kernel
theorem dX2_findGreatest_50 : decode cX2_findGreatest 50 = .ok (.invokevirtual 36, 3) := by decide +kernel
theorem dX2_findGreatest_53 : decode cX2_findGreatest 53 = .ok (.aload_n 2, 1) := by decide +kernel
theorem dX2_findGreatest_54 : decode cX2_findGreatest 54 = .ok (.aload_n 0, 1) := by decide +kernel
theorem dX2_findGreatest_55 : decode cX2_findGreatest 55 = .ok (.getfield 9, 3) := by decide +kernel
theorem dX2_findGreatest_58 : decode cX2_findGreatest 58 = .ok (.invokevirtual 87, 3) := by decide +kernel
theorem dX2_findGreatest_61 : decode cX2_findGreatest 61 = .ok (.ireturn, 1) := by decide +kernel
theorem dX2_findLeast_0 : decode cX2_findLeast 0 = .ok (.iconst 0, 1) := by decide +kernel
theorem dX2_findLeast_1 : decode cX2_findLeast 1 = .ok (.istore_n 3, 1) := by decide +kernel
theorem dX2_findLeast_2 : decode cX2_findLeast 2 = .ok (.iload_n 3, 1) := by decide +kernel
theorem dX2_findLeast_3 : decode cX2_findLeast 3 = .ok (.aload_n 1, 1) := by decide +kernel
theorem dX2_findLeast_4 : decode cX2_findLeast 4 = .ok (.getfield 21, 3) := by decide +kernel
theorem dX2_findLeast_7 : decode cX2_findLeast 7 = .ok (.if_icmp .ge 33, 3) := by decide +kernel
theorem dX2_findLeast_10 : decode cX2_findLeast 10 = .ok (.aload_n 0, 1) := by decide +kernel
theorem dX2_findLeast_11 : decode cX2_findLeast 11 = .ok (.getfield 9, 3) := by decide +kernel
theorem dX2_findLeast_14 : decode cX2_findLeast 14 = .ok (.iload_n 3, 1) := by decide +kernel
theorem dX2_findLeast_15 : decode cX2_findLeast 15 = .ok (.aload_n 2, 1) := by decide +kernel
theorem dX2_findLeast_16 : decode cX2_findLeast 16 = .ok (.iload_n 3, 1) := by decide +kernel
theorem dX2_findLeast_17 : decode cX2_findLeast 17 = .ok (.invokevirtual 78, 3) := by decide +kernel
theorem dX2_findLeast_20 : decode cX2_findLeast 20 = .ok (.ifCond .eq 12, 3) := by decide +kernel
theorem dX2_findLeast_23 : decode cX2_findLeast 23 = .ok (.aload_n 2, 1) := by decide +kernel
theorem dX2_findLeast_24 : decode cX2_findLeast 24 = .ok (.getfield 84, 3) := by decide +kernel
theorem dX2_findLeast_27 : decode cX2_findLeast 27 = .ok (.iload_n 3, 1) := by decide +kernel
theorem dX2_findLeast_28 : decode cX2_findLeast 28 = .ok (.iaload, 1) := by decide +kernel
theorem dX2_findLeast_29 : decode cX2_findLeast 29 = .ok (.goto 4, 3) := by decide +kernel
theorem dX2_findLeast_32 : decode cX2_findLeast 32 = .ok (.iconst 0, 1) := by decide +kernel
theorem dX2_findLeast_33 : decode cX2_findLeast 33 = .ok (.iastore, 1) := by decide +kernel
theorem dX2_findLeast_34 : decode cX2_findLeast 34 = .ok (.iinc 3 1, 3) := by decide +kernel
theorem dX2_findLeast_37 : decode cX2_findLeast 37 = .ok (.goto (-35), 3) := by decide +kernel
theorem dX2_findLeast_40 : decode cX2_findLeast 40 = .ok (.aload_n 0, 1) := by decide +kernel
theorem dX2_findLeast_41 : decode cX2_findLeast 41 = .ok (.aload_n 1, 1) := by decide +kernel
theorem dX2_findLeast_42 : decode cX2_findLeast 42 = .ok (.invokevirtual 90, 3) := by decide +kernel
theorem dX2_findLeast_45 : decode cX2_findLeast 45 = .ok (.aload_n 2, 1) := by decide +kernel
theorem dX2_findLeast_46 : decode cX2_findLeast 46 = .ok (.aload_n 0, 1) := by decide +kernel
theorem dX2_findLeast_47 : decode cX2_findLeast 47 = .ok (.getfield 9, 3) := by decide +kernel
theorem dX2_findLeast_50 : decode cX2_findLeast 50 = .ok (.invokevirtual 87, 3) := by decide +kernel
theorem dX2_findLeast_53 : decode cX2_findLeast 53 = .ok (.ireturn, 1) := by decide +kernel
theorem dX2_settleOn_0 : decode cX2_settleOn 0 = .ok (.iconst 1, 1) := by decide +kernel
theorem dX2_settleOn_1 : decode cX2_settleOn 1 = .ok (.istore_n 2, 1) := by decide +kernel
theorem dX2_settleOn_2 : decode cX2_settleOn 2 = .ok (.iconst 0, 1) := by decide +kernel
theorem dX2_settleOn_3 : decode cX2_settleOn 3 = .ok (.istore_n 3, 1) := by decide +kernel
theorem dX2_settleOn_4 : decode cX2_settleOn 4 = .ok (.iload_n 2, 1) := by decide +kernel
theorem dX2_settleOn_5 : decode cX2_settleOn 5 = .ok (.ifCond .eq 75, 3) := by decide +kernel
theorem dX2_settleOn_8 : decode cX2_settleOn 8 = .ok (.iload_n 3, 1) := by decide +kernel
theorem dX2_settleOn_9 : decode cX2_settleOn 9 = .ok (.bipush 61, 2) := by decide +kernel
theorem dX2_settleOn_11 : decode cX2_settleOn 11 = .ok (.if_icmp .ge 69, 3) := by decide +kernel
theorem dX2_settleOn_14 : decode cX2_settleOn 14 = .ok (.iconst 0, 1) := by decide +kernel
theorem dX2_settleOn_15 : decode cX2_settleOn 15 = .ok (.istore_n 2, 1) := by decide +kernel
theorem dX2_settleOn_16 : decode cX2_settleOn 16 = .ok (.iconst 0, 1) := by decide +kernel
theorem dX2_settleOn_17 : decode cX2_settleOn 17 = .ok (.istore 4, 2) := by decide +kernel
theorem dX2_settleOn_19 : decode cX2_settleOn 19 = .ok (.iload 4, 2) := by decide +kernel
theorem dX2_settleOn_21 : decode cX2_settleOn 21 = .ok (.aload_n 1, 1) := by decide +kernel
theorem dX2_settleOn_22 : decode cX2_settleOn 22 = .ok (.getfield 53, 3) := by decide +kernel
theorem dX2_settleOn_25 : decode cX2_settleOn 25 = .ok (.if_icmp .ge 49, 3) := by decide +kernel
theorem dX2_settleOn_28 : decode cX2_settleOn 28 = .ok (.aload_n 1, 1) := by decide +kernel
theorem dX2_settleOn_29 : decode cX2_settleOn 29 = .ok (.getfield 56, 3) := by decide +kernel
theorem dX2_settleOn_32 : decode cX2_settleOn 32 = .ok (.iload 4, 2) := by decide +kernel
theorem dX2_settleOn_34 : decode cX2_settleOn 34 = .ok (.aaload, 1) := by decide +kernel
theorem dX2_settleOn_35 : decode cX2_settleOn 35 = .ok (.astore 5, 2) := by decide +kernel
theorem dX2_settleOn_37 : decode cX2_settleOn 37 = .ok (.aload 5, 2) := by decide +kernel
theorem dX2_settleOn_39 : decode cX2_settleOn 39 = .ok (.aload_n 0, 1) := by decide +kernel
theorem dX2_settleOn_40 : decode cX2_settleOn 40 = .ok (.getfield 9, 3) := by decide +kernel
theorem dX2_settleOn_43 : decode cX2_settleOn 43 = .ok (.invokevirtual 60, 3) := by decide +kernel
theorem dX2_settleOn_46 : decode cX2_settleOn 46 = .ok (.ifCond .eq 22, 3) := by decide +kernel
theorem dX2_settleOn_49 : decode cX2_settleOn 49 = .ok (.aload_n 0, 1) := by decide +kernel
theorem dX2_settleOn_50 : decode cX2_settleOn 50 = .ok (.getfield 9, 3) := by decide +kernel
theorem dX2_settleOn_53 : decode cX2_settleOn 53 = .ok (.aload 5, 2) := by decide +kernel
theorem dX2_settleOn_55 : decode cX2_settleOn 55 = .ok (.getfield 93, 3) := by decide +kernel
theorem dX2_settleOn_58 : decode cX2_settleOn 58 = .ok (.aload 5, 2) := by decide +kernel
theorem dX2_settleOn_60 : decode cX2_settleOn 60 = .ok (.getfield 96, 3) := by decide +kernel
theorem dX2_settleOn_63 : decode cX2_settleOn 63 = .ok (.iconst 1, 1) := by decide +kernel
theorem dX2_settleOn_64 : decode cX2_settleOn 64 = .ok (.iadd, 1) := by decide +kernel
theorem dX2_settleOn_65 : decode cX2_settleOn 65 = .ok (.iastore, 1) := by decide +kernel
theorem dX2_settleOn_66 : decode cX2_settleOn 66 = .ok (.iconst 1, 1) := by decide +kernel
theorem dX2_settleOn_67 : decode cX2_settleOn 67 = .ok (.istore_n 2, 1) := by decide +kernel
theorem dX2_settleOn_68 : decode cX2_settleOn 68 = .ok (.iinc 4 1, 3) := by decide +kernel
theorem dX2_settleOn_71 : decode cX2_settleOn 71 = .ok (.goto (-52), 3) := by decide +kernel
theorem dX2_settleOn_74 : decode cX2_settleOn 74 = .ok (.iinc 3 1, 3) := by decide +kernel
theorem dX2_settleOn_77 : decode cX2_settleOn 77 = .ok (.goto (-73), 3) := by decide +kernel
theorem dX2_settleOn_80 : decode cX2_settleOn 80 = .ok (.return_, 1) := by decide +kernel
theorem dX2_countNeeded_0 : decode cX2_countNeeded 0 = .ok (.aload_n 0, 1) := by decide +kernel
theorem dX2_countNeeded_1 : decode cX2_countNeeded 1 = .ok (.aload_n 1, 1) := by decide +kernel
theorem dX2_countNeeded_2 : decode cX2_countNeeded 2 = .ok (.invokevirtual 99, 3) := by decide +kernel
theorem dX2_countNeeded_5 : decode cX2_countNeeded 5 = .ok (.iconst 0, 1) := by decide +kernel
theorem dX2_countNeeded_6 : decode cX2_countNeeded 6 = .ok (.istore 4, 2) := by decide +kernel
theorem dX2_countNeeded_8 : decode cX2_countNeeded 8 = .ok (.iload_n 2, 1) := by decide +kernel
theorem dX2_countNeeded_9 : decode cX2_countNeeded 9 = .ok (.istore 5, 2) := by decide +kernel
theorem dX2_countNeeded_11 : decode cX2_countNeeded 11 = .ok (.iload 5, 2) := by decide +kernel
theorem dX2_countNeeded_13 : decode cX2_countNeeded 13 = .ok (.iload_n 3, 1) := by decide +kernel
theorem dX2_countNeeded_14 : decode cX2_countNeeded 14 = .ok (.if_icmp .ge 30, 3) := by decide +kernel
theorem dX2_countNeeded_17 : decode cX2_countNeeded 17 = .ok (.iload 5, 2) := by decide +kernel
theorem dX2_countNeeded_19 : decode cX2_countNeeded 19 = .ok (.iconst 5, 1) := by decide +kernel
theorem dX2_countNeeded_20 : decode cX2_countNeeded 20 = .ok (.if_icmp .ge 24, 3) := by decide +kernel
theorem dX2_countNeeded_23 : decode cX2_countNeeded 23 = .ok (.iload 4, 2) := by decide +kernel
theorem dX2_countNeeded_25 : decode cX2_countNeeded 25 = .ok (.aload_n 0, 1) := by decide +kernel
theorem dX2_countNeeded_26 : decode cX2_countNeeded 26 = .ok (.getfield 18, 3) := by decide +kernel
theorem dX2_countNeeded_29 : decode cX2_countNeeded 29 = .ok (.iload 5, 2) := by decide +kernel
theorem dX2_countNeeded_31 : decode cX2_countNeeded 31 = .ok (.iaload, 1) := by decide +kernel
theorem dX2_countNeeded_32 : decode cX2_countNeeded 32 = .ok (.invokestatic 102, 3) := by decide +kernel
theorem dX2_countNeeded_35 : decode cX2_countNeeded 35 = .ok (.iadd, 1) := by decide +kernel
theorem dX2_countNeeded_36 : decode cX2_countNeeded 36 = .ok (.istore 4, 2) := by decide +kernel
theorem dX2_countNeeded_38 : decode cX2_countNeeded 38 = .ok (.iinc 5 1, 3) := by decide +kernel
theorem dX2_countNeeded_41 : decode cX2_countNeeded 41 = .ok (.goto (-30), 3) := by decide +kernel
theorem dX2_countNeeded_44 : decode cX2_countNeeded 44 = .ok (.iload 4, 2) := by decide +kernel
theorem dX2_countNeeded_46 : decode cX2_countNeeded 46 = .ok (.ireturn, 1) := by decide +kernel
theorem dX2_isNeeded_0 : decode cX2_isNeeded 0 = .ok (.aload_n 0, 1) := by decide +kernel
theorem dX2_isNeeded_1 : decode cX2_isNeeded 1 = .ok (.aload_n 1, 1) := by decide +kernel
theorem dX2_isNeeded_2 : decode cX2_isNeeded 2 = .ok (.invokevirtual 99, 3) := by decide +kernel
theorem dX2_isNeeded_5 : decode cX2_isNeeded 5 = .ok (.aload_n 0, 1) := by decide +kernel
theorem dX2_isNeeded_6 : decode cX2_isNeeded 6 = .ok (.getfield 18, 3) := by decide +kernel
theorem dX2_isNeeded_9 : decode cX2_isNeeded 9 = .ok (.iload_n 2, 1) := by decide +kernel
theorem dX2_isNeeded_10 : decode cX2_isNeeded 10 = .ok (.iaload, 1) := by decide +kernel
theorem dX2_isNeeded_11 : decode cX2_isNeeded 11 = .ok (.iload_n 3, 1) := by decide +kernel
theorem dX2_isNeeded_12 : decode cX2_isNeeded 12 = .ok (.ishr, 1) := by decide +kernel
theorem dX2_isNeeded_13 : decode cX2_isNeeded 13 = .ok (.iconst 1, 1) := by decide +kernel
theorem dX2_isNeeded_14 : decode cX2_isNeeded 14 = .ok (.iand, 1) := by decide +kernel
theorem dX2_isNeeded_15 : decode cX2_isNeeded 15 = .ok (.iconst 1, 1) := by decide +kernel
theorem dX2_isNeeded_16 : decode cX2_isNeeded 16 = .ok (.if_icmp .ne 7, 3) := by decide +kernel
theorem dX2_isNeeded_19 : decode cX2_isNeeded 19 = .ok (.iconst 1, 1) := by decide +kernel
theorem dX2_isNeeded_20 : decode cX2_isNeeded 20 = .ok (.goto 4, 3) := by decide +kernel
theorem dX2_isNeeded_23 : decode cX2_isNeeded 23 = .ok (.iconst 0, 1) := by decide +kernel
theorem dX2_isNeeded_24 : decode cX2_isNeeded 24 = .ok (.ireturn, 1) := by decide +kernel
theorem dX2_findNeeded_0 : decode cX2_findNeeded 0 = .ok (.iconst 0, 1) := by decide +kernel
theorem dX2_findNeeded_1 : decode cX2_findNeeded 1 = .ok (.istore_n 2, 1) := by decide +kernel
theorem dX2_findNeeded_2 : decode cX2_findNeeded 2 = .ok (.iload_n 2, 1) := by decide +kernel
theorem dX2_findNeeded_3 : decode cX2_findNeeded 3 = .ok (.iconst 5, 1) := by decide +kernel
theorem dX2_findNeeded_4 : decode cX2_findNeeded 4 = .ok (.if_icmp .ge 16, 3) := by decide +kernel
theorem dX2_findNeeded_7 : decode cX2_findNeeded 7 = .ok (.aload_n 0, 1) := by decide +kernel
theorem dX2_findNeeded_8 : decode cX2_findNeeded 8 = .ok (.getfield 18, 3) := by decide +kernel
theorem dX2_findNeeded_11 : decode cX2_findNeeded 11 = .ok (.iload_n 2, 1) := by decide +kernel
theorem dX2_findNeeded_12 : decode cX2_findNeeded 12 = .ok (.iconst 0, 1) := by decide +kernel
theorem dX2_findNeeded_13 : decode cX2_findNeeded 13 = .ok (.iastore, 1) := by decide +kernel
theorem dX2_findNeeded_14 : decode cX2_findNeeded 14 = .ok (.iinc 2 1, 3) := by decide +kernel
theorem dX2_findNeeded_17 : decode cX2_findNeeded 17 = .ok (.goto (-15), 3) := by decide +kernel
theorem dX2_findNeeded_20 : decode cX2_findNeeded 20 = .ok (.iconst 1, 1) := by decide +kernel
theorem dX2_findNeeded_21 : decode cX2_findNeeded 21 = .ok (.istore_n 2, 1) := by decide +kernel
theorem dX2_findNeeded_22 : decode cX2_findNeeded 22 = .ok (.iload_n 2, 1) := by decide +kernel
theorem dX2_findNeeded_23 : decode cX2_findNeeded 23 = .ok (.aload_n 1, 1) := by decide +kernel
theorem dX2_findNeeded_24 : decode cX2_findNeeded 24 = .ok (.invokevirtual 108, 3) := by decide +kernel
theorem dX2_findNeeded_27 : decode cX2_findNeeded 27 = .ok (.if_icmp .gt 66, 3) := by decide +kernel
theorem dX2_findNeeded_30 : decode cX2_findNeeded 30 = .ok (.aload_n 0, 1) := by decide +kernel
theorem dX2_findNeeded_31 : decode cX2_findNeeded 31 = .ok (.aload_n 1, 1) := by decide +kernel
theorem dX2_findNeeded_32 : decode cX2_findNeeded 32 = .ok (.iload_n 2, 1) := by decide +kernel
theorem dX2_findNeeded_33 : decode cX2_findNeeded 33 = .ok (.invokevirtual 112, 3) := by decide +kernel
theorem dX2_findNeeded_36 : decode cX2_findNeeded 36 = .ok (.iconst 0, 1) := by decide +kernel
theorem dX2_findNeeded_37 : decode cX2_findNeeded 37 = .ok (.istore_n 3, 1) := by decide +kernel
theorem dX2_findNeeded_38 : decode cX2_findNeeded 38 = .ok (.iload_n 3, 1) := by decide +kernel
theorem dX2_findNeeded_39 : decode cX2_findNeeded 39 = .ok (.aload_n 1, 1) := by decide +kernel
theorem dX2_findNeeded_40 : decode cX2_findNeeded 40 = .ok (.getfield 21, 3) := by decide +kernel
theorem dX2_findNeeded_43 : decode cX2_findNeeded 43 = .ok (.if_icmp .ge 44, 3) := by decide +kernel
theorem dX2_findNeeded_46 : decode cX2_findNeeded 46 = .ok (.aload_n 0, 1) := by decide +kernel
theorem dX2_findNeeded_47 : decode cX2_findNeeded 47 = .ok (.getfield 9, 3) := by decide +kernel
theorem dX2_findNeeded_50 : decode cX2_findNeeded 50 = .ok (.iload_n 3, 1) := by decide +kernel
theorem dX2_findNeeded_51 : decode cX2_findNeeded 51 = .ok (.iaload, 1) := by decide +kernel
theorem dX2_findNeeded_52 : decode cX2_findNeeded 52 = .ok (.aload_n 1, 1) := by decide +kernel
theorem dX2_findNeeded_53 : decode cX2_findNeeded 53 = .ok (.getfield 27, 3) := by decide +kernel
theorem dX2_findNeeded_56 : decode cX2_findNeeded 56 = .ok (.iload_n 3, 1) := by decide +kernel
theorem dX2_findNeeded_57 : decode cX2_findNeeded 57 = .ok (.aaload, 1) := by decide +kernel
theorem dX2_findNeeded_58 : decode cX2_findNeeded 58 = .ok (.getfield 31, 3) := by decide +kernel
theorem dX2_findNeeded_61 : decode cX2_findNeeded 61 = .ok (.if_icmp .ge 20, 3) := by decide +kernel
theorem dX2_findNeeded_64 : decode cX2_findNeeded 64 = .ok (.aload_n 0, 1) := by decide +kernel
theorem dX2_findNeeded_65 : decode cX2_findNeeded 65 = .ok (.getfield 18, 3) := by decide +kernel
theorem dX2_findNeeded_68 : decode cX2_findNeeded 68 = .ok (.iload_n 3, 1) := by decide +kernel
theorem dX2_findNeeded_69 : decode cX2_findNeeded 69 = .ok (.dup2, 1) := by decide +kernel
theorem dX2_findNeeded_70 : decode cX2_findNeeded 70 = .ok (.iaload, 1) := by decide +kernel
theorem dX2_findNeeded_71 : decode cX2_findNeeded 71 = .ok (.iconst 1, 1) := by decide +kernel
theorem dX2_findNeeded_72 : decode cX2_findNeeded 72 = .ok (.aload_n 0, 1) := by decide +kernel
theorem dX2_findNeeded_73 : decode cX2_findNeeded 73 = .ok (.getfield 9, 3) := by decide +kernel
theorem dX2_findNeeded_76 : decode cX2_findNeeded 76 = .ok (.iload_n 3, 1) := by decide +kernel
theorem dX2_findNeeded_77 : decode cX2_findNeeded 77 = .ok (.iaload, 1) := by decide +kernel
theorem dX2_findNeeded_78 : decode cX2_findNeeded 78 = .ok (.ishl, 1) := by decide +kernel
theorem dX2_findNeeded_79 : decode cX2_findNeeded 79 = .ok (.ior, 1) := by decide +kernel
theorem dX2_findNeeded_80 : decode cX2_findNeeded 80 = .ok (.iastore, 1) := by decide +kernel
theorem dX2_findNeeded_81 : decode cX2_findNeeded 81 = .ok (.iinc 3 1, 3) := by decide +kernel
theorem dX2_findNeeded_84 : decode cX2_findNeeded 84 = .ok (.goto (-46), 3) := by decide +kernel
theorem dX2_findNeeded_87 : decode cX2_findNeeded 87 = .ok (.iinc 2 1, 3) := by decide +kernel
theorem dX2_findNeeded_90 : decode cX2_findNeeded 90 = .ok (.goto (-68), 3) := by decide +kernel
theorem dX2_findNeeded_93 : decode cX2_findNeeded 93 = .ok (.return_, 1) := by decide +kernel
