theorem dX7_doDrawn_100 : decode cX7_doDrawn 100 = .ok (.ireturn, 1) := by decide +kernel
theorem dX7_doDrawn_101 : decode cX7_doDrawn 101 = .ok (.iload_n 2, 1) := by decide +kernel
theorem dX7_doDrawn_102 : decode cX7_doDrawn 102 = .ok (.iload_n 3, 1) := by decide +kernel
theorem dX7_doDrawn_103 : decode cX7_doDrawn 103 = .ok (.aload_n 0, 1) := by decide +kernel
theorem dX7_doDrawn_104 : decode cX7_doDrawn 104 = .ok (.getfield 29, 3) := by decide +kernel
theorem dX7_doDrawn_107 : decode cX7_doDrawn 107 = .ok (.iconst 1, 1) := by decide +kernel
theorem dX7_doDrawn_108 : decode cX7_doDrawn 108 = .ok (.isub, 1) := by decide +kernel
theorem dX7_doDrawn_109 : decode cX7_doDrawn 109 = .ok (.irem, 1) := by decide +kernel
theorem dX7_doDrawn_110 : decode cX7_doDrawn 110 = .ok (.iadd, 1) := by decide +kernel
theorem dX7_doDrawn_111 : decode cX7_doDrawn 111 = .ok (.iconst 1, 1) := by decide +kernel
theorem dX7_doDrawn_112 : decode cX7_doDrawn 112 = .ok (.iadd, 1) := by decide +kernel
theorem dX7_doDrawn_113 : decode cX7_doDrawn 113 = .ok (.aload_n 0, 1) := by decide +kernel
theorem dX7_doDrawn_114 : decode cX7_doDrawn 114 = .ok (.getfield 29, 3) := by decide +kernel
theorem dX7_doDrawn_117 : decode cX7_doDrawn 117 = .ok (.irem, 1) := by decide +kernel
theorem dX7_doDrawn_118 : decode cX7_doDrawn 118 = .ok (.istore 4, 2) := by decide +kernel
theorem dX7_doDrawn_120 : decode cX7_doDrawn 120 = .ok (.aload_n 0, 1) := by decide +kernel
theorem dX7_doDrawn_121 : decode cX7_doDrawn 121 = .ok (.iload_n 2, 1) := by decide +kernel
theorem dX7_doDrawn_122 : decode cX7_doDrawn 122 = .ok (.iload 4, 2) := by decide +kernel
theorem dX7_doDrawn_124 : decode cX7_doDrawn 124 = .ok (.invokevirtual 150, 3) := by decide +kernel
theorem dX7_doDrawn_127 : decode cX7_doDrawn 127 = .ok (.ifCond .lt 7, 3) := by decide +kernel
theorem dX7_doDrawn_130 : decode cX7_doDrawn 130 = .ok (.iconst 1, 1) := by decide +kernel
theorem dX7_doDrawn_131 : decode cX7_doDrawn 131 = .ok (.goto 4, 3) := by decide +kernel
theorem dX7_doDrawn_134 : decode cX7_doDrawn 134 = .ok (.iconst 0, 1) := by decide +kernel
theorem dX7_doDrawn_135 : decode cX7_doDrawn 135 = .ok (.ireturn, 1) := by decide +kernel
theorem dX7_countKept_0 : decode cX7_countKept 0 = .ok (.iconst 0, 1) := by decide +kernel
theorem dX7_countKept_1 : decode cX7_countKept 1 = .ok (.istore_n 1, 1) := by decide +kernel
theorem dX7_countKept_2 : decode cX7_countKept 2 = .ok (.iconst 0, 1) := by decide +kernel
theorem dX7_countKept_3 : decode cX7_countKept 3 = .ok (.istore_n 2, 1) := by decide +kernel
theorem dX7_countKept_4 : decode cX7_countKept 4 = .ok (.iload_n 2, 1) := by decide +kernel
theorem dX7_countKept_5 : decode cX7_countKept 5 = .ok (.aload_n 0, 1) := by decide +kernel
theorem dX7_countKept_6 : decode cX7_countKept 6 = .ok (.getfield 29, 3) := by decide +kernel
theorem dX7_countKept_9 : decode cX7_countKept 9 = .ok (.if_icmp .ge 21, 3) := by decide +kernel
theorem dX7_countKept_12 : decode cX7_countKept 12 = .ok (.iload_n 1, 1) := by decide +kernel
theorem dX7_countKept_13 : decode cX7_countKept 13 = .ok (.aload_n 0, 1) := by decide +kernel
theorem dX7_countKept_14 : decode cX7_countKept 14 = .ok (.getfield 11, 3) := by decide +kernel
theorem dX7_countKept_17 : decode cX7_countKept 17 = .ok (.iload_n 2, 1) := by decide +kernel
theorem dX7_countKept_18 : decode cX7_countKept 18 = .ok (.aaload, 1) := by decide +kernel
theorem dX7_countKept_19 : decode cX7_countKept 19 = .ok (.getfield 53, 3) := by decide +kernel
theorem dX7_countKept_22 : decode cX7_countKept 22 = .ok (.iadd, 1) := by decide +kernel
theorem dX7_countKept_23 : decode cX7_countKept 23 = .ok (.istore_n 1, 1) := by decide +kernel
theorem dX7_countKept_24 : decode cX7_countKept 24 = .ok (.iinc 2 1, 3) := by decide +kernel
theorem dX7_countKept_27 : decode cX7_countKept 27 = .ok (.goto (-23), 3) := by decide +kernel
theorem dX7_countKept_30 : decode cX7_countKept 30 = .ok (.iload_n 1, 1) := by decide +kernel
theorem dX7_countKept_31 : decode cX7_countKept 31 = .ok (.ireturn, 1) := by decide +kernel
theorem dX7_countForced_0 : decode cX7_countForced 0 = .ok (.iconst 0, 1) := by decide +kernel
theorem dX7_countForced_1 : decode cX7_countForced 1 = .ok (.istore_n 1, 1) := by decide +kernel
theorem dX7_countForced_2 : decode cX7_countForced 2 = .ok (.iconst 0, 1) := by decide +kernel
theorem dX7_countForced_3 : decode cX7_countForced 3 = .ok (.istore_n 2, 1) := by decide +kernel
theorem dX7_countForced_4 : decode cX7_countForced 4 = .ok (.iload_n 2, 1) := by decide +kernel
theorem dX7_countForced_5 : decode cX7_countForced 5 = .ok (.aload_n 0, 1) := by decide +kernel
theorem dX7_countForced_6 : decode cX7_countForced 6 = .ok (.getfield 29, 3) := by decide +kernel
theorem dX7_countForced_9 : decode cX7_countForced 9 = .ok (.if_icmp .ge 21, 3) := by decide +kernel
theorem dX7_countForced_12 : decode cX7_countForced 12 = .ok (.iload_n 1, 1) := by decide +kernel
theorem dX7_countForced_13 : decode cX7_countForced 13 = .ok (.aload_n 0, 1) := by decide +kernel
theorem dX7_countForced_14 : decode cX7_countForced 14 = .ok (.getfield 11, 3) := by decide +kernel
theorem dX7_countForced_17 : decode cX7_countForced 17 = .ok (.iload_n 2, 1) := by decide +kernel
theorem dX7_countForced_18 : decode cX7_countForced 18 = .ok (.aaload, 1) := by decide +kernel
theorem dX7_countForced_19 : decode cX7_countForced 19 = .ok (.invokevirtual 154, 3) := by decide +kernel
theorem dX7_countForced_22 : decode cX7_countForced 22 = .ok (.iadd, 1) := by decide +kernel
theorem dX7_countForced_23 : decode cX7_countForced 23 = .ok (.istore_n 1, 1) := by decide +kernel
theorem dX7_countForced_24 : decode cX7_countForced 24 = .ok (.iinc 2 1, 3) := by decide +kernel
theorem dX7_countForced_27 : decode cX7_countForced 27 = .ok (.goto (-23), 3) := by decide +kernel
theorem dX7_countForced_30 : decode cX7_countForced 30 = .ok (.iload_n 1, 1) := by decide +kernel
theorem dX7_countForced_31 : decode cX7_countForced 31 = .ok (.ireturn, 1) := by decide +kernel
theorem dX7_countFreed_0 : decode cX7_countFreed 0 = .ok (.iconst 0, 1) := by decide +kernel
theorem dX7_countFreed_1 : decode cX7_countFreed 1 = .ok (.istore_n 1, 1) := by decide +kernel
theorem dX7_countFreed_2 : decode cX7_countFreed 2 = .ok (.iconst 0, 1) := by decide +kernel
theorem dX7_countFreed_3 : decode cX7_countFreed 3 = .ok (.istore_n 2, 1) := by decide +kernel
theorem dX7_countFreed_4 : decode cX7_countFreed 4 = .ok (.iload_n 2, 1) := by decide +kernel
theorem dX7_countFreed_5 : decode cX7_countFreed 5 = .ok (.aload_n 0, 1) := by decide +kernel
theorem dX7_countFreed_6 : decode cX7_countFreed 6 = .ok (.getfield 29, 3) := by decide +kernel
theorem dX7_countFreed_9 : decode cX7_countFreed 9 = .ok (.if_icmp .ge 21, 3) := by decide +kernel
theorem dX7_countFreed_12 : decode cX7_countFreed 12 = .ok (.iload_n 1, 1) := by decide +kernel
theorem dX7_countFreed_13 : decode cX7_countFreed 13 = .ok (.aload_n 0, 1) := by decide +kernel
theorem dX7_countFreed_14 : decode cX7_countFreed 14 = .ok (.getfield 11, 3) := by decide +kernel
theorem dX7_countFreed_17 : decode cX7_countFreed 17 = .ok (.iload_n 2, 1) := by decide +kernel
theorem dX7_countFreed_18 : decode cX7_countFreed 18 = .ok (.aaload, 1) := by decide +kernel
theorem dX7_countFreed_19 : decode cX7_countFreed 19 = .ok (.invokevirtual 157, 3) := by decide +kernel
theorem dX7_countFreed_22 : decode cX7_countFreed 22 = .ok (.iadd, 1) := by decide +kernel
theorem dX7_countFreed_23 : decode cX7_countFreed 23 = .ok (.istore_n 1, 1) := by decide +kernel
theorem dX7_countFreed_24 : decode cX7_countFreed 24 = .ok (.iinc 2 1, 3) := by decide +kernel
theorem dX7_countFreed_27 : decode cX7_countFreed 27 = .ok (.goto (-23), 3) := by decide +kernel
theorem dX7_countFreed_30 : decode cX7_countFreed 30 = .ok (.iload_n 1, 1) := by decide +kernel
theorem dX7_countFreed_31 : decode cX7_countFreed 31 = .ok (.ireturn, 1) := by decide +kernel
theorem dX7_countStage_0 : decode cX7_countStage 0 = .ok (.iconst 0, 1) := by decide +kernel
theorem dX7_countStage_1 : decode cX7_countStage 1 = .ok (.istore_n 2, 1) := by decide +kernel
theorem dX7_countStage_2 : decode cX7_countStage 2 = .ok (.iconst 0, 1) := by decide +kernel
theorem dX7_countStage_3 : decode cX7_countStage 3 = .ok (.istore_n 3, 1) := by decide +kernel
theorem dX7_countStage_4 : decode cX7_countStage 4 = .ok (.iload_n 3, 1) := by decide +kernel
theorem dX7_countStage_5 : decode cX7_countStage 5 = .ok (.aload_n 0, 1) := by decide +kernel
theorem dX7_countStage_6 : decode cX7_countStage 6 = .ok (.getfield 36, 3) := by decide +kernel
theorem dX7_countStage_9 : decode cX7_countStage 9 = .ok (.if_icmp .ge 25, 3) := by decide +kernel
theorem dX7_countStage_12 : decode cX7_countStage 12 = .ok (.aload_n 0, 1) := by decide +kernel
theorem dX7_countStage_13 : decode cX7_countStage 13 = .ok (.getfield 19, 3) := by decide +kernel
theorem dX7_countStage_16 : decode cX7_countStage 16 = .ok (.iload_n 3, 1) := by decide +kernel
theorem dX7_countStage_17 : decode cX7_countStage 17 = .ok (.aaload, 1) := by decide +kernel
theorem dX7_countStage_18 : decode cX7_countStage 18 = .ok (.getfield 103, 3) := by decide +kernel
theorem dX7_countStage_21 : decode cX7_countStage 21 = .ok (.iload_n 1, 1) := by decide +kernel
theorem dX7_countStage_22 : decode cX7_countStage 22 = .ok (.if_icmp .ne 6, 3) := by decide +kernel
theorem dX7_countStage_25 : decode cX7_countStage 25 = .ok (.iinc 2 1, 3) := by decide +kernel
theorem dX7_countStage_28 : decode cX7_countStage 28 = .ok (.iinc 3 1, 3) := by decide +kernel
theorem dX7_countStage_31 : decode cX7_countStage 31 = .ok (.goto (-27), 3) := by decide +kernel
theorem dX7_countStage_34 : decode cX7_countStage 34 = .ok (.iload_n 2, 1) := by decide +kernel
theorem dX7_countStage_35 : decode cX7_countStage 35 = .ok (.ireturn, 1) := by decide +kernel
theorem dX7_countBehind_0 : decode cX7_countBehind 0 = .ok (.iconst 0, 1) := by decide +kernel
theorem dX7_countBehind_1 : decode cX7_countBehind 1 = .ok (.istore_n 2, 1) := by decide +kernel
theorem dX7_countBehind_2 : decode cX7_countBehind 2 = .ok (.iconst 0, 1) := by decide +kernel
theorem dX7_countBehind_3 : decode cX7_countBehind 3 = .ok (.istore_n 3, 1) := by decide +kernel
theorem dX7_countBehind_4 : decode cX7_countBehind 4 = .ok (.iload_n 3, 1) := by decide +kernel
theorem dX7_countBehind_5 : decode cX7_countBehind 5 = .ok (.aload_n 0, 1) := by decide +kernel
theorem dX7_countBehind_6 : decode cX7_countBehind 6 = .ok (.getfield 29, 3) := by decide +kernel
theorem dX7_countBehind_9 : decode cX7_countBehind 9 = .ok (.if_icmp .ge 31, 3) := by decide +kernel
theorem dX7_countBehind_12 : decode cX7_countBehind 12 = .ok (.iload_n 2, 1) := by decide +kernel
theorem dX7_countBehind_13 : decode cX7_countBehind 13 = .ok (.iconst 0, 1) := by decide +kernel
theorem dX7_countBehind_14 : decode cX7_countBehind 14 = .ok (.aload_n 0, 1) := by decide +kernel
theorem dX7_countBehind_15 : decode cX7_countBehind 15 = .ok (.getfield 11, 3) := by decide +kernel
theorem dX7_countBehind_18 : decode cX7_countBehind 18 = .ok (.iload_n 3, 1) := by decide +kernel
theorem dX7_countBehind_19 : decode cX7_countBehind 19 = .ok (.aaload, 1) := by decide +kernel
theorem dX7_countBehind_20 : decode cX7_countBehind 20 = .ok (.getfield 53, 3) := by decide +kernel
theorem dX7_countBehind_23 : decode cX7_countBehind 23 = .ok (.iconst 1, 1) := by decide +kernel
theorem dX7_countBehind_24 : decode cX7_countBehind 24 = .ok (.isub, 1) := by decide +kernel
theorem dX7_countBehind_25 : decode cX7_countBehind 25 = .ok (.aload_n 1, 1) := by decide +kernel
theorem dX7_countBehind_26 : decode cX7_countBehind 26 = .ok (.iload_n 3, 1) := by decide +kernel
theorem dX7_countBehind_27 : decode cX7_countBehind 27 = .ok (.iaload, 1) := by decide +kernel
theorem dX7_countBehind_28 : decode cX7_countBehind 28 = .ok (.isub, 1) := by decide +kernel
theorem dX7_countBehind_29 : decode cX7_countBehind 29 = .ok (.invokestatic 160, 3) := by decide +kernel
theorem dX7_countBehind_32 : decode cX7_countBehind 32 = .ok (.iadd, 1) := by decide +kernel
theorem dX7_countBehind_33 : decode cX7_countBehind 33 = .ok (.istore_n 2, 1) := by decide +kernel
theorem dX7_countBehind_34 : decode cX7_countBehind 34 = .ok (.iinc 3 1, 3) := by decide +kernel
theorem dX7_countBehind_37 : decode cX7_countBehind 37 = .ok (.goto (-33), 3) := by decide +kernel
theorem dX7_countBehind_40 : decode cX7_countBehind 40 = .ok (.iload_n 2, 1) := by decide +kernel
theorem dX7_countBehind_41 : decode cX7_countBehind 41 = .ok (.ireturn, 1) := by decide +kernel
theorem dX7_countLost_0 : decode cX7_countLost 0 = .ok (.iconst 0, 1) := by decide +kernel
theorem dX7_countLost_1 : decode cX7_countLost 1 = .ok (.istore_n 2, 1) := by decide +kernel
theorem dX7_countLost_2 : decode cX7_countLost 2 = .ok (.iconst 0, 1) := by decide +kernel
theorem dX7_countLost_3 : decode cX7_countLost 3 = .ok (.istore_n 3, 1) := by decide +kernel
theorem dX7_countLost_4 : decode cX7_countLost 4 = .ok (.iload_n 3, 1) := by decide +kernel
theorem dX7_countLost_5 : decode cX7_countLost 5 = .ok (.aload_n 0, 1) := by decide +kernel
theorem dX7_countLost_6 : decode cX7_countLost 6 = .ok (.getfield 36, 3) := by decide +kernel
theorem dX7_countLost_9 : decode cX7_countLost 9 = .ok (.if_icmp .ge 25, 3) := by decide +kernel
theorem dX7_countLost_12 : decode cX7_countLost 12 = .ok (.aload_n 0, 1) := by decide +kernel
theorem dX7_countLost_13 : decode cX7_countLost 13 = .ok (.getfield 19, 3) := by decide +kernel
theorem dX7_countLost_16 : decode cX7_countLost 16 = .ok (.iload_n 3, 1) := by decide +kernel
theorem dX7_countLost_17 : decode cX7_countLost 17 = .ok (.aaload, 1) := by decide +kernel
theorem dX7_countLost_18 : decode cX7_countLost 18 = .ok (.aload_n 1, 1) := by decide +kernel
theorem dX7_countLost_19 : decode cX7_countLost 19 = .ok (.invokevirtual 135, 3) := by decide +kernel
theorem dX7_countLost_22 : decode cX7_countLost 22 = .ok (.ifCond .eq 6, 3) := by decide +kernel
theorem dX7_countLost_25 : decode cX7_countLost 25 = .ok (.iinc 2 1, 3) := by decide +kernel
theorem dX7_countLost_28 : decode cX7_countLost 28 = .ok (.iinc 3 1, 3) := by decide +kernel
theorem dX7_countLost_31 : decode cX7_countLost 31 = .ok (.goto (-27), 3) := by decide +kernel
theorem dX7_countLost_34 : decode cX7_countLost 34 = .ok (.iload_n 2, 1) := by decide +kernel
theorem dX7_countLost_35 : decode cX7_countLost 35 = .ok (.ireturn, 1) := by decide +kernel
theorem dX7_countAgain_0 : decode cX7_countAgain 0 = .ok (.iconst 0, 1) := by decide +kernel
theorem dX7_countAgain_1 : decode cX7_countAgain 1 = .ok (.istore_n 2, 1) := by decide +kernel
theorem dX7_countAgain_2 : decode cX7_countAgain 2 = .ok (.iconst 0, 1) := by decide +kernel
theorem dX7_countAgain_3 : decode cX7_countAgain 3 = .ok (.istore_n 3, 1) := by decide +kernel
theorem dX7_countAgain_4 : decode cX7_countAgain 4 = .ok (.iload_n 3, 1) := by decide +kernel
theorem dX7_countAgain_5 : decode cX7_countAgain 5 = .ok (.aload_n 0, 1) := by decide +kernel
theorem dX7_countAgain_6 : decode cX7_countAgain 6 = .ok (.getfield 36, 3) := by decide +kernel
theorem dX7_countAgain_9 : decode cX7_countAgain 9 = .ok (.if_icmp .ge 25, 3) := by decide +kernel
theorem dX7_countAgain_12 : decode cX7_countAgain 12 = .ok (.aload_n 0, 1) := by decide +kernel
theorem dX7_countAgain_13 : decode cX7_countAgain 13 = .ok (.getfield 19, 3) := by decide +kernel
theorem dX7_countAgain_16 : decode cX7_countAgain 16 = .ok (.iload_n 3, 1) := by decide +kernel
theorem dX7_countAgain_17 : decode cX7_countAgain 17 = .ok (.aaload, 1) := by decide +kernel
theorem dX7_countAgain_18 : decode cX7_countAgain 18 = .ok (.aload_n 1, 1) := by decide +kernel
theorem dX7_countAgain_19 : decode cX7_countAgain 19 = .ok (.invokevirtual 139, 3) := by decide +kernel
theorem dX7_countAgain_22 : decode cX7_countAgain 22 = .ok (.ifCond .eq 6, 3) := by decide +kernel
theorem dX7_countAgain_25 : decode cX7_countAgain 25 = .ok (.iinc 2 1, 3) := by decide +kernel
theorem dX7_countAgain_28 : decode cX7_countAgain 28 = .ok (.iinc 3 1, 3) := by decide +kernel
theorem dX7_countAgain_31 : decode cX7_countAgain 31 = .ok (.goto (-27), 3) := by decide +kernel
theorem dX7_countAgain_34 : decode cX7_countAgain 34 = .ok (.iload_n 2, 1) := by decide +kernel
theorem dX7_countAgain_35 : decode cX7_countAgain 35 = .ok (.ireturn, 1) := by decide +kernel
theorem dX7_someBeginAnew_0 : decode cX7_someBeginAnew 0 = .ok (.iconst 0, 1) := by decide +kernel
theorem dX7_someBeginAnew_1 : decode cX7_someBeginAnew 1 = .ok (.istore_n 2, 1) := by decide +kernel
theorem dX7_someBeginAnew_2 : decode cX7_someBeginAnew 2 = .ok (.iload_n 2, 1) := by decide +kernel
theorem dX7_someBeginAnew_3 : decode cX7_someBeginAnew 3 = .ok (.aload_n 0, 1) := by decide +kernel
theorem dX7_someBeginAnew_4 : decode cX7_someBeginAnew 4 = .ok (.getfield 29, 3) := by decide +kernel
theorem dX7_someBeginAnew_7 : decode cX7_someBeginAnew 7 = .ok (.if_icmp .ge 30, 3) := by decide +kernel
theorem dX7_someBeginAnew_10 : decode cX7_someBeginAnew 10 = .ok (.aload_n 1, 1) := by decide +kernel
theorem dX7_someBeginAnew_11 : decode cX7_someBeginAnew 11 = .ok (.iload_n 2, 1) := by decide +kernel
theorem dX7_someBeginAnew_12 : decode cX7_someBeginAnew 12 = .ok (.iaload, 1) := by decide +kernel
theorem dX7_someBeginAnew_13 : decode cX7_someBeginAnew 13 = .ok (.ifCond .ne 18, 3) := by decide +kernel
theorem dX7_someBeginAnew_16 : decode cX7_someBeginAnew 16 = .ok (.aload_n 0, 1) := by decide +kernel
theorem dX7_someBeginAnew_17 : decode cX7_someBeginAnew 17 = .ok (.getfield 11, 3) := by decide +kernel
theorem dX7_someBeginAnew_20 : decode cX7_someBeginAnew 20 = .ok (.iload_n 2, 1) := by decide +kernel
theorem dX7_someBeginAnew_21 : decode cX7_someBeginAnew 21 = .ok (.aaload, 1) := by decide +kernel
theorem dX7_someBeginAnew_22 : decode cX7_someBeginAnew 22 = .ok (.getfield 53, 3) := by decide +kernel
theorem dX7_someBeginAnew_25 : decode cX7_someBeginAnew 25 = .ok (.iconst 1, 1) := by decide +kernel
theorem dX7_someBeginAnew_26 : decode cX7_someBeginAnew 26 = .ok (.if_icmp .le 5, 3) := by decide +kernel
theorem dX7_someBeginAnew_29 : decode cX7_someBeginAnew 29 = .ok (.iconst 1, 1) := by decide +kernel
theorem dX7_someBeginAnew_30 : decode cX7_someBeginAnew 30 = .ok (.ireturn, 1) := by decide +kernel
theorem dX7_someBeginAnew_31 : decode cX7_someBeginAnew 31 = .ok (.iinc 2 1, 3) := by decide +kernel
theorem dX7_someBeginAnew_34 : decode cX7_someBeginAnew 34 = .ok (.goto (-32), 3) := by decide +kernel
theorem dX7_someBeginAnew_37 : decode cX7_someBeginAnew 37 = .ok (.iconst 0, 1) := by decide +kernel
theorem dX7_someBeginAnew_38 : decode cX7_someBeginAnew 38 = .ok (.ireturn, 1) := by decide +kernel
