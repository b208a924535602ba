theorem dX9_saved_8 : decode cX9_saved 8 = .ok (.iload_n 2, 1) := by decide +kernel
theorem dX9_saved_9 : decode cX9_saved 9 = .ok (.iconst 0, 1) := by decide +kernel
theorem dX9_saved_10 : decode cX9_saved 10 = .ok (.aload_n 0, 1) := by decide +kernel
theorem dX9_saved_11 : decode cX9_saved 11 = .ok (.getfield 13, 3) := by decide +kernel
theorem dX9_saved_14 : decode cX9_saved 14 = .ok (.bipush 10, 2) := by decide +kernel
theorem dX9_saved_16 : decode cX9_saved 16 = .ok (.iload_n 1, 1) := by decide +kernel
theorem dX9_saved_17 : decode cX9_saved 17 = .ok (.iadd, 1) := by decide +kernel
theorem dX9_saved_18 : decode cX9_saved 18 = .ok (.iaload, 1) := by decide +kernel
theorem dX9_saved_19 : decode cX9_saved 19 = .ok (.iconst 1, 1) := by decide +kernel
theorem dX9_saved_20 : decode cX9_saved 20 = .ok (.isub, 1) := by decide +kernel
theorem dX9_saved_21 : decode cX9_saved 21 = .ok (.invokestatic 50, 3) := by decide +kernel
theorem dX9_saved_24 : decode cX9_saved 24 = .ok (.ifCond .eq 12, 3) := by decide +kernel
theorem dX9_saved_27 : decode cX9_saved 27 = .ok (.iload_n 3, 1) := by decide +kernel
theorem dX9_saved_28 : decode cX9_saved 28 = .ok (.iconst 0, 1) := by decide +kernel
theorem dX9_saved_29 : decode cX9_saved 29 = .ok (.iconst 4, 1) := by decide +kernel
theorem dX9_saved_30 : decode cX9_saved 30 = .ok (.invokestatic 50, 3) := by decide +kernel
theorem dX9_saved_33 : decode cX9_saved 33 = .ok (.ifCond .ne 5, 3) := by decide +kernel
theorem dX9_saved_36 : decode cX9_saved 36 = .ok (.iconst (-1), 1) := by decide +kernel
theorem dX9_saved_37 : decode cX9_saved 37 = .ok (.ireturn, 1) := by decide +kernel
theorem dX9_saved_38 : decode cX9_saved 38 = .ok (.iload_n 3, 1) := by decide +kernel
theorem dX9_saved_39 : decode cX9_saved 39 = .ok (.tableswitch 82 0 3 #[29, 44, 59, 75], 29) := by decide +kernel
theorem dX9_saved_68 : decode cX9_saved 68 = .ok (.aload_n 0, 1) := by decide +kernel
theorem dX9_saved_69 : decode cX9_saved 69 = .ok (.getfield 13, 3) := by decide +kernel
theorem dX9_saved_72 : decode cX9_saved 72 = .ok (.bipush 50, 2) := by decide +kernel
theorem dX9_saved_74 : decode cX9_saved 74 = .ok (.bipush 12, 2) := by decide +kernel
theorem dX9_saved_76 : decode cX9_saved 76 = .ok (.iload_n 1, 1) := by decide +kernel
theorem dX9_saved_77 : decode cX9_saved 77 = .ok (.imul, 1) := by decide +kernel
theorem dX9_saved_78 : decode cX9_saved 78 = .ok (.iadd, 1) := by decide +kernel
theorem dX9_saved_79 : decode cX9_saved 79 = .ok (.iload_n 2, 1) := by decide +kernel
theorem dX9_saved_80 : decode cX9_saved 80 = .ok (.iadd, 1) := by decide +kernel
theorem dX9_saved_81 : decode cX9_saved 81 = .ok (.iaload, 1) := by decide +kernel
theorem dX9_saved_82 : decode cX9_saved 82 = .ok (.ireturn, 1) := by decide +kernel
theorem dX9_saved_83 : decode cX9_saved 83 = .ok (.aload_n 0, 1) := by decide +kernel
theorem dX9_saved_84 : decode cX9_saved 84 = .ok (.getfield 13, 3) := by decide +kernel
theorem dX9_saved_87 : decode cX9_saved 87 = .ok (.bipush 110, 2) := by decide +kernel
theorem dX9_saved_89 : decode cX9_saved 89 = .ok (.bipush 12, 2) := by decide +kernel
theorem dX9_saved_91 : decode cX9_saved 91 = .ok (.iload_n 1, 1) := by decide +kernel
theorem dX9_saved_92 : decode cX9_saved 92 = .ok (.imul, 1) := by decide +kernel
theorem dX9_saved_93 : decode cX9_saved 93 = .ok (.iadd, 1) := by decide +kernel
theorem dX9_saved_94 : decode cX9_saved 94 = .ok (.iload_n 2, 1) := by decide +kernel
theorem dX9_saved_95 : decode cX9_saved 95 = .ok (.iadd, 1) := by decide +kernel
theorem dX9_saved_96 : decode cX9_saved 96 = .ok (.iaload, 1) := by decide +kernel
theorem dX9_saved_97 : decode cX9_saved 97 = .ok (.ireturn, 1) := by decide +kernel
theorem dX9_saved_98 : decode cX9_saved 98 = .ok (.aload_n 0, 1) := by decide +kernel
theorem dX9_saved_99 : decode cX9_saved 99 = .ok (.getfield 13, 3) := by decide +kernel
theorem dX9_saved_102 : decode cX9_saved 102 = .ok (.sipush 170, 3) := by decide +kernel
theorem dX9_saved_105 : decode cX9_saved 105 = .ok (.bipush 12, 2) := by decide +kernel
theorem dX9_saved_107 : decode cX9_saved 107 = .ok (.iload_n 1, 1) := by decide +kernel
theorem dX9_saved_108 : decode cX9_saved 108 = .ok (.imul, 1) := by decide +kernel
theorem dX9_saved_109 : decode cX9_saved 109 = .ok (.iadd, 1) := by decide +kernel
theorem dX9_saved_110 : decode cX9_saved 110 = .ok (.iload_n 2, 1) := by decide +kernel
theorem dX9_saved_111 : decode cX9_saved 111 = .ok (.iadd, 1) := by decide +kernel
theorem dX9_saved_112 : decode cX9_saved 112 = .ok (.iaload, 1) := by decide +kernel
theorem dX9_saved_113 : decode cX9_saved 113 = .ok (.ireturn, 1) := by decide +kernel
theorem dX9_saved_114 : decode cX9_saved 114 = .ok (.aload_n 0, 1) := by decide +kernel
theorem dX9_saved_115 : decode cX9_saved 115 = .ok (.iload_n 1, 1) := by decide +kernel
theorem dX9_saved_116 : decode cX9_saved 116 = .ok (.iload_n 2, 1) := by decide +kernel
theorem dX9_saved_117 : decode cX9_saved 117 = .ok (.invokevirtual 149, 3) := by decide +kernel
theorem dX9_saved_120 : decode cX9_saved 120 = .ok (.ireturn, 1) := by decide +kernel
theorem dX9_saved_121 : decode cX9_saved 121 = .ok (.aload_n 0, 1) := by decide +kernel
theorem dX9_saved_122 : decode cX9_saved 122 = .ok (.iload_n 1, 1) := by decide +kernel
theorem dX9_saved_123 : decode cX9_saved 123 = .ok (.iload_n 2, 1) := by decide +kernel
theorem dX9_saved_124 : decode cX9_saved 124 = .ok (.invokevirtual 152, 3) := by decide +kernel
theorem dX9_saved_127 : decode cX9_saved 127 = .ok (.ireturn, 1) := by decide +kernel
theorem dX9_message_0 : decode cX9_message 0 = .ok (.aload_n 0, 1) := by decide +kernel
theorem dX9_message_1 : decode cX9_message 1 = .ok (.iload_n 1, 1) := by decide +kernel
theorem dX9_message_2 : decode cX9_message 2 = .ok (.invokevirtual 73, 3) := by decide +kernel
theorem dX9_message_5 : decode cX9_message 5 = .ok (.ifCond .eq 21, 3) := by decide +kernel
theorem dX9_message_8 : decode cX9_message 8 = .ok (.iload_n 2, 1) := by decide +kernel
theorem dX9_message_9 : decode cX9_message 9 = .ok (.iconst 0, 1) := by decide +kernel
theorem dX9_message_10 : decode cX9_message 10 = .ok (.iconst 5, 1) := by decide +kernel
theorem dX9_message_11 : decode cX9_message 11 = .ok (.invokestatic 50, 3) := by decide +kernel
theorem dX9_message_14 : decode cX9_message 14 = .ok (.ifCond .eq 12, 3) := by decide +kernel
theorem dX9_message_17 : decode cX9_message 17 = .ok (.aload_n 0, 1) := by decide +kernel
theorem dX9_message_18 : decode cX9_message 18 = .ok (.iload_n 1, 1) := by decide +kernel
theorem dX9_message_19 : decode cX9_message 19 = .ok (.iload_n 2, 1) := by decide +kernel
theorem dX9_message_20 : decode cX9_message 20 = .ok (.invokevirtual 65, 3) := by decide +kernel
theorem dX9_message_23 : decode cX9_message 23 = .ok (.goto 4, 3) := by decide +kernel
theorem dX9_message_26 : decode cX9_message 26 = .ok (.iconst (-1), 1) := by decide +kernel
theorem dX9_message_27 : decode cX9_message 27 = .ok (.ireturn, 1) := by decide +kernel
theorem dX9_underway_0 : decode cX9_underway 0 = .ok (.iload_n 1, 1) := by decide +kernel
theorem dX9_underway_1 : decode cX9_underway 1 = .ok (.iconst (-1), 1) := by decide +kernel
theorem dX9_underway_2 : decode cX9_underway 2 = .ok (.if_icmp .ge 5, 3) := by decide +kernel
theorem dX9_underway_5 : decode cX9_underway 5 = .ok (.iconst (-1), 1) := by decide +kernel
theorem dX9_underway_6 : decode cX9_underway 6 = .ok (.ireturn, 1) := by decide +kernel
theorem dX9_underway_7 : decode cX9_underway 7 = .ok (.iload_n 1, 1) := by decide +kernel
theorem dX9_underway_8 : decode cX9_underway 8 = .ok (.ifCond .ge 12, 3) := by decide +kernel
theorem dX9_underway_11 : decode cX9_underway 11 = .ok (.aload_n 0, 1) := by decide +kernel
theorem dX9_underway_12 : decode cX9_underway 12 = .ok (.getfield 13, 3) := by decide +kernel
theorem dX9_underway_15 : decode cX9_underway 15 = .ok (.iconst 3, 1) := by decide +kernel
theorem dX9_underway_16 : decode cX9_underway 16 = .ok (.iaload, 1) := by decide +kernel
theorem dX9_underway_17 : decode cX9_underway 17 = .ok (.goto 28, 3) := by decide +kernel
theorem dX9_underway_20 : decode cX9_underway 20 = .ok (.iload_n 1, 1) := by decide +kernel
theorem dX9_underway_21 : decode cX9_underway 21 = .ok (.aload_n 0, 1) := by decide +kernel
theorem dX9_underway_22 : decode cX9_underway 22 = .ok (.getfield 13, 3) := by decide +kernel
theorem dX9_underway_25 : decode cX9_underway 25 = .ok (.iconst 3, 1) := by decide +kernel
theorem dX9_underway_26 : decode cX9_underway 26 = .ok (.iaload, 1) := by decide +kernel
theorem dX9_underway_27 : decode cX9_underway 27 = .ok (.if_icmp .ge 16, 3) := by decide +kernel
theorem dX9_underway_30 : decode cX9_underway 30 = .ok (.aload_n 0, 1) := by decide +kernel
theorem dX9_underway_31 : decode cX9_underway 31 = .ok (.getfield 13, 3) := by decide +kernel
theorem dX9_underway_34 : decode cX9_underway 34 = .ok (.sipush 1310, 3) := by decide +kernel
theorem dX9_underway_37 : decode cX9_underway 37 = .ok (.iload_n 1, 1) := by decide +kernel
theorem dX9_underway_38 : decode cX9_underway 38 = .ok (.iadd, 1) := by decide +kernel
theorem dX9_underway_39 : decode cX9_underway 39 = .ok (.iaload, 1) := by decide +kernel
theorem dX9_underway_40 : decode cX9_underway 40 = .ok (.goto 5, 3) := by decide +kernel
theorem dX9_underway_43 : decode cX9_underway 43 = .ok (.bipush (-4), 2) := by decide +kernel
theorem dX9_underway_45 : decode cX9_underway 45 = .ok (.ireturn, 1) := by decide +kernel
theorem dX9_pick_0 : decode cX9_pick 0 = .ok (.aload_n 0, 1) := by decide +kernel
theorem dX9_pick_1 : decode cX9_pick 1 = .ok (.iload_n 1, 1) := by decide +kernel
theorem dX9_pick_2 : decode cX9_pick 2 = .ok (.iload_n 2, 1) := by decide +kernel
theorem dX9_pick_3 : decode cX9_pick 3 = .ok (.invokevirtual 142, 3) := by decide +kernel
theorem dX9_pick_6 : decode cX9_pick 6 = .ok (.ifCond .ne 5, 3) := by decide +kernel
theorem dX9_pick_9 : decode cX9_pick 9 = .ok (.iconst (-1), 1) := by decide +kernel
theorem dX9_pick_10 : decode cX9_pick 10 = .ok (.ireturn, 1) := by decide +kernel
theorem dX9_pick_11 : decode cX9_pick 11 = .ok (.aload_n 0, 1) := by decide +kernel
theorem dX9_pick_12 : decode cX9_pick 12 = .ok (.getfield 19, 3) := by decide +kernel
theorem dX9_pick_15 : decode cX9_pick 15 = .ok (.iload_n 1, 1) := by decide +kernel
theorem dX9_pick_16 : decode cX9_pick 16 = .ok (.iaload, 1) := by decide +kernel
theorem dX9_pick_17 : decode cX9_pick 17 = .ok (.iload_n 2, 1) := by decide +kernel
theorem dX9_pick_18 : decode cX9_pick 18 = .ok (.if_icmp .ne 6, 3) := by decide +kernel
theorem dX9_pick_21 : decode cX9_pick 21 = .ok (.bipush (-2), 2) := by decide +kernel
theorem dX9_pick_23 : decode cX9_pick 23 = .ok (.ireturn, 1) := by decide +kernel
theorem dX9_pick_24 : decode cX9_pick 24 = .ok (.aload_n 0, 1) := by decide +kernel
theorem dX9_pick_25 : decode cX9_pick 25 = .ok (.getfield 19, 3) := by decide +kernel
theorem dX9_pick_28 : decode cX9_pick 28 = .ok (.iload_n 1, 1) := by decide +kernel
theorem dX9_pick_29 : decode cX9_pick 29 = .ok (.iload_n 2, 1) := by decide +kernel
theorem dX9_pick_30 : decode cX9_pick 30 = .ok (.iastore, 1) := by decide +kernel
theorem dX9_pick_31 : decode cX9_pick 31 = .ok (.aload_n 0, 1) := by decide +kernel
theorem dX9_pick_32 : decode cX9_pick 32 = .ok (.invokevirtual 158, 3) := by decide +kernel
theorem dX9_pick_35 : decode cX9_pick 35 = .ok (.ireturn, 1) := by decide +kernel
theorem dX9_pickedMany_0 : decode cX9_pickedMany 0 = .ok (.iconst 0, 1) := by decide +kernel
theorem dX9_pickedMany_1 : decode cX9_pickedMany 1 = .ok (.istore_n 1, 1) := by decide +kernel
theorem dX9_pickedMany_2 : decode cX9_pickedMany 2 = .ok (.iconst 0, 1) := by decide +kernel
theorem dX9_pickedMany_3 : decode cX9_pickedMany 3 = .ok (.istore_n 2, 1) := by decide +kernel
theorem dX9_pickedMany_4 : decode cX9_pickedMany 4 = .ok (.iload_n 2, 1) := by decide +kernel
theorem dX9_pickedMany_5 : decode cX9_pickedMany 5 = .ok (.iconst 5, 1) := by decide +kernel
theorem dX9_pickedMany_6 : decode cX9_pickedMany 6 = .ok (.if_icmp .ge 26, 3) := by decide +kernel
theorem dX9_pickedMany_9 : decode cX9_pickedMany 9 = .ok (.iload_n 1, 1) := by decide +kernel
theorem dX9_pickedMany_10 : decode cX9_pickedMany 10 = .ok (.aload_n 0, 1) := by decide +kernel
theorem dX9_pickedMany_11 : decode cX9_pickedMany 11 = .ok (.getfield 19, 3) := by decide +kernel
theorem dX9_pickedMany_14 : decode cX9_pickedMany 14 = .ok (.iload_n 2, 1) := by decide +kernel
theorem dX9_pickedMany_15 : decode cX9_pickedMany 15 = .ok (.iaload, 1) := by decide +kernel
theorem dX9_pickedMany_16 : decode cX9_pickedMany 16 = .ok (.ifCond .lt 7, 3) := by decide +kernel
theorem dX9_pickedMany_19 : decode cX9_pickedMany 19 = .ok (.iconst 1, 1) := by decide +kernel
theorem dX9_pickedMany_20 : decode cX9_pickedMany 20 = .ok (.goto 4, 3) := by decide +kernel
theorem dX9_pickedMany_23 : decode cX9_pickedMany 23 = .ok (.iconst 0, 1) := by decide +kernel
theorem dX9_pickedMany_24 : decode cX9_pickedMany 24 = .ok (.iadd, 1) := by decide +kernel
theorem dX9_pickedMany_25 : decode cX9_pickedMany 25 = .ok (.istore_n 1, 1) := by decide +kernel
theorem dX9_pickedMany_26 : decode cX9_pickedMany 26 = .ok (.iinc 2 1, 3) := by decide +kernel
theorem dX9_pickedMany_29 : decode cX9_pickedMany 29 = .ok (.goto (-25), 3) := by decide +kernel
theorem dX9_pickedMany_32 : decode cX9_pickedMany 32 = .ok (.iload_n 1, 1) := by decide +kernel
theorem dX9_pickedMany_33 : decode cX9_pickedMany 33 = .ok (.ireturn, 1) := by decide +kernel
theorem dX9_unpick_0 : decode cX9_unpick 0 = .ok (.aload_n 0, 1) := by decide +kernel
theorem dX9_unpick_1 : decode cX9_unpick 1 = .ok (.invokevirtual 158, 3) := by decide +kernel
theorem dX9_unpick_4 : decode cX9_unpick 4 = .ok (.istore_n 1, 1) := by decide +kernel
theorem dX9_unpick_5 : decode cX9_unpick 5 = .ok (.iconst 0, 1) := by decide +kernel
theorem dX9_unpick_6 : decode cX9_unpick 6 = .ok (.istore_n 2, 1) := by decide +kernel
theorem dX9_unpick_7 : decode cX9_unpick 7 = .ok (.iload_n 2, 1) := by decide +kernel
theorem dX9_unpick_8 : decode cX9_unpick 8 = .ok (.iconst 5, 1) := by decide +kernel
theorem dX9_unpick_9 : decode cX9_unpick 9 = .ok (.if_icmp .ge 17, 3) := by decide +kernel
theorem dX9_unpick_12 : decode cX9_unpick 12 = .ok (.aload_n 0, 1) := by decide +kernel
theorem dX9_unpick_13 : decode cX9_unpick 13 = .ok (.getfield 19, 3) := by decide +kernel
theorem dX9_unpick_16 : decode cX9_unpick 16 = .ok (.iload_n 2, 1) := by decide +kernel
theorem dX9_unpick_17 : decode cX9_unpick 17 = .ok (.bipush (-4), 2) := by decide +kernel
theorem dX9_unpick_19 : decode cX9_unpick 19 = .ok (.iastore, 1) := by decide +kernel
theorem dX9_unpick_20 : decode cX9_unpick 20 = .ok (.iinc 2 1, 3) := by decide +kernel
theorem dX9_unpick_23 : decode cX9_unpick 23 = .ok (.goto (-16), 3) := by decide +kernel
theorem dX9_unpick_26 : decode cX9_unpick 26 = .ok (.iload_n 1, 1) := by decide +kernel
theorem dX9_unpick_27 : decode cX9_unpick 27 = .ok (.ireturn, 1) := by decide +kernel
theorem dX9_rises_0 : decode cX9_rises 0 = .ok (.iconst 1, 1) := by decide +kernel
theorem dX9_rises_1 : decode cX9_rises 1 = .ok (.istore_n 1, 1) := by decide +kernel
theorem dX9_rises_2 : decode cX9_rises 2 = .ok (.iload_n 1, 1) := by decide +kernel
theorem dX9_rises_3 : decode cX9_rises 3 = .ok (.ifCond .eq 97, 3) := by decide +kernel
theorem dX9_rises_6 : decode cX9_rises 6 = .ok (.iconst 0, 1) := by decide +kernel
theorem dX9_rises_7 : decode cX9_rises 7 = .ok (.istore_n 1, 1) := by decide +kernel
theorem dX9_rises_8 : decode cX9_rises 8 = .ok (.iconst 0, 1) := by decide +kernel
theorem dX9_rises_9 : decode cX9_rises 9 = .ok (.istore_n 2, 1) := by decide +kernel
theorem dX9_rises_10 : decode cX9_rises 10 = .ok (.iload_n 2, 1) := by decide +kernel
theorem dX9_rises_11 : decode cX9_rises 11 = .ok (.aload_n 0, 1) := by decide +kernel
theorem dX9_rises_12 : decode cX9_rises 12 = .ok (.getfield 13, 3) := by decide +kernel
theorem dX9_rises_15 : decode cX9_rises 15 = .ok (.iconst 2, 1) := by decide +kernel
theorem dX9_rises_16 : decode cX9_rises 16 = .ok (.iaload, 1) := by decide +kernel
theorem dX9_rises_17 : decode cX9_rises 17 = .ok (.if_icmp .ge 80, 3) := by decide +kernel
theorem dX9_rises_20 : decode cX9_rises 20 = .ok (.aload_n 0, 1) := by decide +kernel
theorem dX9_rises_21 : decode cX9_rises 21 = .ok (.iload_n 2, 1) := by decide +kernel
theorem dX9_rises_22 : decode cX9_rises 22 = .ok (.iconst 5, 1) := by decide +kernel
theorem dX9_rises_23 : decode cX9_rises 23 = .ok (.invokevirtual 65, 3) := by decide +kernel
theorem dX9_rises_26 : decode cX9_rises 26 = .ok (.iconst 1, 1) := by decide +kernel
theorem dX9_rises_27 : decode cX9_rises 27 = .ok (.if_icmp .ne 64, 3) := by decide +kernel
theorem dX9_rises_30 : decode cX9_rises 30 = .ok (.aload_n 0, 1) := by decide +kernel
theorem dX9_rises_31 : decode cX9_rises 31 = .ok (.iload_n 2, 1) := by decide +kernel
theorem dX9_rises_32 : decode cX9_rises 32 = .ok (.iconst 3, 1) := by decide +kernel
theorem dX9_rises_33 : decode cX9_rises 33 = .ok (.invokevirtual 65, 3) := by decide +kernel
theorem dX9_rises_36 : decode cX9_rises 36 = .ok (.aload_n 0, 1) := by decide +kernel
theorem dX9_rises_37 : decode cX9_rises 37 = .ok (.getfield 22, 3) := by decide +kernel
theorem dX9_rises_40 : decode cX9_rises 40 = .ok (.aload_n 0, 1) := by decide +kernel
theorem dX9_rises_41 : decode cX9_rises 41 = .ok (.iload_n 2, 1) := by decide +kernel
theorem dX9_rises_42 : decode cX9_rises 42 = .ok (.iconst 1, 1) := by decide +kernel
theorem dX9_rises_43 : decode cX9_rises 43 = .ok (.invokevirtual 65, 3) := by decide +kernel
theorem dX9_rises_46 : decode cX9_rises 46 = .ok (.iaload, 1) := by decide +kernel
theorem dX9_rises_47 : decode cX9_rises 47 = .ok (.if_icmp .ge 44, 3) := by decide +kernel
theorem dX9_rises_50 : decode cX9_rises 50 = .ok (.aload_n 0, 1) := by decide +kernel
theorem dX9_rises_51 : decode cX9_rises 51 = .ok (.iload_n 2, 1) := by decide +kernel
theorem dX9_rises_52 : decode cX9_rises 52 = .ok (.iconst 2, 1) := by decide +kernel
theorem dX9_rises_53 : decode cX9_rises 53 = .ok (.invokevirtual 65, 3) := by decide +kernel
theorem dX9_rises_56 : decode cX9_rises 56 = .ok (.aload_n 0, 1) := by decide +kernel
theorem dX9_rises_57 : decode cX9_rises 57 = .ok (.getfield 22, 3) := by decide +kernel
theorem dX9_rises_60 : decode cX9_rises 60 = .ok (.aload_n 0, 1) := by decide +kernel
theorem dX9_rises_61 : decode cX9_rises 61 = .ok (.iload_n 2, 1) := by decide +kernel
theorem dX9_rises_62 : decode cX9_rises 62 = .ok (.iconst 0, 1) := by decide +kernel
theorem dX9_rises_63 : decode cX9_rises 63 = .ok (.invokevirtual 65, 3) := by decide +kernel
theorem dX9_rises_66 : decode cX9_rises 66 = .ok (.iaload, 1) := by decide +kernel
theorem dX9_rises_67 : decode cX9_rises 67 = .ok (.if_icmp .lt 24, 3) := by decide +kernel
theorem dX9_rises_70 : decode cX9_rises 70 = .ok (.aload_n 0, 1) := by decide +kernel
theorem dX9_rises_71 : decode cX9_rises 71 = .ok (.getfield 22, 3) := by decide +kernel
theorem dX9_rises_74 : decode cX9_rises 74 = .ok (.aload_n 0, 1) := by decide +kernel
theorem dX9_rises_75 : decode cX9_rises 75 = .ok (.iload_n 2, 1) := by decide +kernel
theorem dX9_rises_76 : decode cX9_rises 76 = .ok (.iconst 0, 1) := by decide +kernel
theorem dX9_rises_77 : decode cX9_rises 77 = .ok (.invokevirtual 65, 3) := by decide +kernel
theorem dX9_rises_80 : decode cX9_rises 80 = .ok (.aload_n 0, 1) := by decide +kernel
theorem dX9_rises_81 : decode cX9_rises 81 = .ok (.iload_n 2, 1) := by decide +kernel
theorem dX9_rises_82 : decode cX9_rises 82 = .ok (.iconst 2, 1) := by decide +kernel
theorem dX9_rises_83 : decode cX9_rises 83 = .ok (.invokevirtual 65, 3) := by decide +kernel
theorem dX9_rises_86 : decode cX9_rises 86 = .ok (.iconst 1, 1) := by decide +kernel
theorem dX9_rises_87 : decode cX9_rises 87 = .ok (.iadd, 1) := by decide +kernel
theorem dX9_rises_88 : decode cX9_rises 88 = .ok (.iastore, 1) := by decide +kernel
theorem dX9_rises_89 : decode cX9_rises 89 = .ok (.iconst 1, 1) := by decide +kernel
theorem dX9_rises_90 : decode cX9_rises 90 = .ok (.istore_n 1, 1) := by decide +kernel
theorem dX9_rises_91 : decode cX9_rises 91 = .ok (.iinc 2 1, 3) := by decide +kernel
theorem dX9_rises_94 : decode cX9_rises 94 = .ok (.goto (-84), 3) := by decide +kernel
theorem dX9_rises_97 : decode cX9_rises 97 = .ok (.goto (-95), 3) := by decide +kernel
theorem dX9_rises_100 : decode cX9_rises 100 = .ok (.return_, 1) := by decide +kernel
theorem dX9_through_0 : decode cX9_through 0 = .ok (.iload_n 1, 1) := by decide +kernel
theorem dX9_through_1 : decode cX9_through 1 = .ok (.iconst 0, 1) := by decide +kernel
theorem dX9_through_2 : decode cX9_through 2 = .ok (.iconst 1, 1) := by decide +kernel
theorem dX9_through_3 : decode cX9_through 3 = .ok (.invokestatic 50, 3) := by decide +kernel
theorem dX9_through_6 : decode cX9_through 6 = .ok (.ifCond .eq 11, 3) := by decide +kernel
theorem dX9_through_9 : decode cX9_through 9 = .ok (.aload_n 0, 1) := by decide +kernel
theorem dX9_through_10 : decode cX9_through 10 = .ok (.iload_n 2, 1) := by decide +kernel
theorem dX9_through_11 : decode cX9_through 11 = .ok (.invokevirtual 54, 3) := by decide +kernel
theorem dX9_through_14 : decode cX9_through 14 = .ok (.ifCond .ne 5, 3) := by decide +kernel
theorem dX9_through_17 : decode cX9_through 17 = .ok (.iconst (-1), 1) := by decide +kernel
theorem dX9_through_18 : decode cX9_through 18 = .ok (.ireturn, 1) := by decide +kernel
theorem dX9_through_19 : decode cX9_through 19 = .ok (.iconst 0, 1) := by decide +kernel
theorem dX9_through_20 : decode cX9_through 20 = .ok (.istore_n 3, 1) := by decide +kernel
theorem dX9_through_21 : decode cX9_through 21 = .ok (.iload_n 3, 1) := by decide +kernel
theorem dX9_through_22 : decode cX9_through 22 = .ok (.aload_n 0, 1) := by decide +kernel
theorem dX9_through_23 : decode cX9_through 23 = .ok (.getfield 13, 3) := by decide +kernel
theorem dX9_through_26 : decode cX9_through 26 = .ok (.iconst 0, 1) := by decide +kernel
theorem dX9_through_27 : decode cX9_through 27 = .ok (.iaload, 1) := by decide +kernel
theorem dX9_through_28 : decode cX9_through 28 = .ok (.if_icmp .ge 71, 3) := by decide +kernel
theorem dX9_through_31 : decode cX9_through 31 = .ok (.aload_n 0, 1) := by decide +kernel
theorem dX9_through_32 : decode cX9_through 32 = .ok (.getfield 19, 3) := by decide +kernel
theorem dX9_through_35 : decode cX9_through 35 = .ok (.iload_n 3, 1) := by decide +kernel
theorem dX9_through_36 : decode cX9_through 36 = .ok (.iaload, 1) := by decide +kernel
theorem dX9_through_37 : decode cX9_through 37 = .ok (.aload_n 0, 1) := by decide +kernel
theorem dX9_through_38 : decode cX9_through 38 = .ok (.getfield 13, 3) := by decide +kernel
theorem dX9_through_41 : decode cX9_through 41 = .ok (.bipush 10, 2) := by decide +kernel
theorem dX9_through_43 : decode cX9_through 43 = .ok (.iload_n 3, 1) := by decide +kernel
theorem dX9_through_44 : decode cX9_through 44 = .ok (.iadd, 1) := by decide +kernel
theorem dX9_through_45 : decode cX9_through 45 = .ok (.iaload, 1) := by decide +kernel
theorem dX9_through_46 : decode cX9_through 46 = .ok (.if_icmp .le 6, 3) := by decide +kernel
theorem dX9_through_49 : decode cX9_through 49 = .ok (.bipush (-2), 2) := by decide +kernel
theorem dX9_through_51 : decode cX9_through 51 = .ok (.ireturn, 1) := by decide +kernel
theorem dX9_through_52 : decode cX9_through 52 = .ok (.aload_n 0, 1) := by decide +kernel
theorem dX9_through_53 : decode cX9_through 53 = .ok (.getfield 22, 3) := by decide +kernel
theorem dX9_through_56 : decode cX9_through 56 = .ok (.iload_n 3, 1) := by decide +kernel
theorem dX9_through_57 : decode cX9_through 57 = .ok (.aload_n 0, 1) := by decide +kernel
theorem dX9_through_58 : decode cX9_through 58 = .ok (.getfield 19, 3) := by decide +kernel
theorem dX9_through_61 : decode cX9_through 61 = .ok (.iload_n 3, 1) := by decide +kernel
theorem dX9_through_62 : decode cX9_through 62 = .ok (.iaload, 1) := by decide +kernel
theorem dX9_through_63 : decode cX9_through 63 = .ok (.ifCond .lt 12, 3) := by decide +kernel
theorem dX9_through_66 : decode cX9_through 66 = .ok (.aload_n 0, 1) := by decide +kernel
theorem dX9_through_67 : decode cX9_through 67 = .ok (.getfield 19, 3) := by decide +kernel
theorem dX9_through_70 : decode cX9_through 70 = .ok (.iload_n 3, 1) := by decide +kernel
theorem dX9_through_71 : decode cX9_through 71 = .ok (.iaload, 1) := by decide +kernel
theorem dX9_through_72 : decode cX9_through 72 = .ok (.goto 20, 3) := by decide +kernel
theorem dX9_through_75 : decode cX9_through 75 = .ok (.iload_n 1, 1) := by decide +kernel
theorem dX9_through_76 : decode cX9_through 76 = .ok (.ifCond .ne 7, 3) := by decide +kernel
theorem dX9_through_79 : decode cX9_through 79 = .ok (.iconst 0, 1) := by decide +kernel
theorem dX9_through_80 : decode cX9_through 80 = .ok (.goto 12, 3) := by decide +kernel
theorem dX9_through_83 : decode cX9_through 83 = .ok (.aload_n 0, 1) := by decide +kernel
theorem dX9_through_84 : decode cX9_through 84 = .ok (.getfield 13, 3) := by decide +kernel
theorem dX9_through_87 : decode cX9_through 87 = .ok (.bipush 10, 2) := by decide +kernel
theorem dX9_through_89 : decode cX9_through 89 = .ok (.iload_n 3, 1) := by decide +kernel
theorem dX9_through_90 : decode cX9_through 90 = .ok (.iadd, 1) := by decide +kernel
theorem dX9_through_91 : decode cX9_through 91 = .ok (.iaload, 1) := by decide +kernel
theorem dX9_through_92 : decode cX9_through 92 = .ok (.iastore, 1) := by decide +kernel
theorem dX9_through_93 : decode cX9_through 93 = .ok (.iinc 3 1, 3) := by decide +kernel
theorem dX9_through_96 : decode cX9_through 96 = .ok (.goto (-75), 3) := by decide +kernel
theorem dX9_through_99 : decode cX9_through 99 = .ok (.iload_n 1, 1) := by decide +kernel
theorem dX9_through_100 : decode cX9_through 100 = .ok (.ifCond .ne 10, 3) := by decide +kernel
theorem dX9_through_103 : decode cX9_through 103 = .ok (.aload_n 0, 1) := by decide +kernel
theorem dX9_through_104 : decode cX9_through 104 = .ok (.invokevirtual 161, 3) := by decide +kernel
theorem dX9_through_107 : decode cX9_through 107 = .ok (.goto 7, 3) := by decide +kernel
theorem dX9_through_110 : decode cX9_through 110 = .ok (.aload_n 0, 1) := by decide +kernel
theorem dX9_through_111 : decode cX9_through 111 = .ok (.invokevirtual 117, 3) := by decide +kernel
theorem dX9_through_114 : decode cX9_through 114 = .ok (.iconst 0, 1) := by decide +kernel
theorem dX9_through_115 : decode cX9_through 115 = .ok (.istore_n 3, 1) := by decide +kernel
theorem dX9_through_116 : decode cX9_through 116 = .ok (.iload_n 3, 1) := by decide +kernel
theorem dX9_through_117 : decode cX9_through 117 = .ok (.aload_n 0, 1) := by decide +kernel
theorem dX9_through_118 : decode cX9_through 118 = .ok (.getfield 13, 3) := by decide +kernel
theorem dX9_through_121 : decode cX9_through 121 = .ok (.iconst 0, 1) := by decide +kernel
theorem dX9_through_122 : decode cX9_through 122 = .ok (.iaload, 1) := by decide +kernel
theorem dX9_through_123 : decode cX9_through 123 = .ok (.if_icmp .ge 36, 3) := by decide +kernel
theorem dX9_through_126 : decode cX9_through 126 = .ok (.aload_n 0, 1) := by decide +kernel
theorem dX9_through_127 : decode cX9_through 127 = .ok (.getfield 19, 3) := by decide +kernel
theorem dX9_through_130 : decode cX9_through 130 = .ok (.iload_n 3, 1) := by decide +kernel
theorem dX9_through_131 : decode cX9_through 131 = .ok (.iaload, 1) := by decide +kernel
theorem dX9_through_132 : decode cX9_through 132 = .ok (.ifCond .lt 21, 3) := by decide +kernel
theorem dX9_through_135 : decode cX9_through 135 = .ok (.aload_n 0, 1) := by decide +kernel
theorem dX9_through_136 : decode cX9_through 136 = .ok (.getfield 22, 3) := by decide +kernel
theorem dX9_through_139 : decode cX9_through 139 = .ok (.iload_n 3, 1) := by decide +kernel
theorem dX9_through_140 : decode cX9_through 140 = .ok (.iaload, 1) := by decide +kernel
theorem dX9_through_141 : decode cX9_through 141 = .ok (.aload_n 0, 1) := by decide +kernel
theorem dX9_through_142 : decode cX9_through 142 = .ok (.getfield 19, 3) := by decide +kernel
theorem dX9_through_145 : decode cX9_through 145 = .ok (.iload_n 3, 1) := by decide +kernel
theorem dX9_through_146 : decode cX9_through 146 = .ok (.iaload, 1) := by decide +kernel
theorem dX9_through_147 : decode cX9_through 147 = .ok (.if_icmp .eq 6, 3) := by decide +kernel
theorem dX9_through_150 : decode cX9_through 150 = .ok (.bipush (-4), 2) := by decide +kernel
theorem dX9_through_152 : decode cX9_through 152 = .ok (.ireturn, 1) := by decide +kernel
theorem dX9_through_153 : decode cX9_through 153 = .ok (.iinc 3 1, 3) := by decide +kernel
theorem dX9_through_156 : decode cX9_through 156 = .ok (.goto (-40), 3) := by decide +kernel
theorem dX9_through_159 : decode cX9_through 159 = .ok (.aload_n 0, 1) := by decide +kernel
theorem dX9_through_160 : decode cX9_through 160 = .ok (.getfield 22, 3) := by decide +kernel
theorem dX9_through_163 : decode cX9_through 163 = .ok (.iload_n 2, 1) := by decide +kernel
theorem dX9_through_164 : decode cX9_through 164 = .ok (.iaload, 1) := by decide +kernel
theorem dX9_through_165 : decode cX9_through 165 = .ok (.ireturn, 1) := by decide +kernel
theorem dX9_messagesThat_0 : decode cX9_messagesThat 0 = .ok (.iconst 0, 1) := by decide +kernel
theorem dX9_messagesThat_1 : decode cX9_messagesThat 1 = .ok (.istore_n 2, 1) := by decide +kernel
theorem dX9_messagesThat_2 : decode cX9_messagesThat 2 = .ok (.iconst 0, 1) := by decide +kernel
theorem dX9_messagesThat_3 : decode cX9_messagesThat 3 = .ok (.istore_n 3, 1) := by decide +kernel
theorem dX9_messagesThat_4 : decode cX9_messagesThat 4 = .ok (.iload_n 3, 1) := by decide +kernel
theorem dX9_messagesThat_5 : decode cX9_messagesThat 5 = .ok (.aload_n 0, 1) := by decide +kernel
theorem dX9_messagesThat_6 : decode cX9_messagesThat 6 = .ok (.getfield 13, 3) := by decide +kernel
theorem dX9_messagesThat_9 : decode cX9_messagesThat 9 = .ok (.iconst 2, 1) := by decide +kernel
theorem dX9_messagesThat_10 : decode cX9_messagesThat 10 = .ok (.iaload, 1) := by decide +kernel
theorem dX9_messagesThat_11 : decode cX9_messagesThat 11 = .ok (.if_icmp .ge 27, 3) := by decide +kernel
theorem dX9_messagesThat_14 : decode cX9_messagesThat 14 = .ok (.iload_n 2, 1) := by decide +kernel
theorem dX9_messagesThat_15 : decode cX9_messagesThat 15 = .ok (.aload_n 0, 1) := by decide +kernel
theorem dX9_messagesThat_16 : decode cX9_messagesThat 16 = .ok (.iload_n 3, 1) := by decide +kernel
theorem dX9_messagesThat_17 : decode cX9_messagesThat 17 = .ok (.iconst 5, 1) := by decide +kernel
theorem dX9_messagesThat_18 : decode cX9_messagesThat 18 = .ok (.invokevirtual 65, 3) := by decide +kernel
theorem dX9_messagesThat_21 : decode cX9_messagesThat 21 = .ok (.iload_n 1, 1) := by decide +kernel
theorem dX9_messagesThat_22 : decode cX9_messagesThat 22 = .ok (.if_icmp .ne 7, 3) := by decide +kernel
theorem dX9_messagesThat_25 : decode cX9_messagesThat 25 = .ok (.iconst 1, 1) := by decide +kernel
theorem dX9_messagesThat_26 : decode cX9_messagesThat 26 = .ok (.goto 4, 3) := by decide +kernel
theorem dX9_messagesThat_29 : decode cX9_messagesThat 29 = .ok (.iconst 0, 1) := by decide +kernel
theorem dX9_messagesThat_30 : decode cX9_messagesThat 30 = .ok (.iadd, 1) := by decide +kernel
theorem dX9_messagesThat_31 : decode cX9_messagesThat 31 = .ok (.istore_n 2, 1) := by decide +kernel
theorem dX9_messagesThat_32 : decode cX9_messagesThat 32 = .ok (.iinc 3 1, 3) := by decide +kernel
theorem dX9_messagesThat_35 : decode cX9_messagesThat 35 = .ok (.goto (-31), 3) := by decide +kernel
theorem dX9_messagesThat_38 : decode cX9_messagesThat 38 = .ok (.iload_n 2, 1) := by decide +kernel
theorem dX9_messagesThat_39 : decode cX9_messagesThat 39 = .ok (.ireturn, 1) := by decide +kernel
theorem dX9_count_0 : decode cX9_count 0 = .ok (.iload_n 1, 1) := by decide +kernel
theorem dX9_count_1 : decode cX9_count 1 = .ok (.bipush 6, 2) := by decide +kernel
theorem dX9_count_3 : decode cX9_count 3 = .ok (.bipush 10, 2) := by decide +kernel
theorem dX9_count_5 : decode cX9_count 5 = .ok (.invokestatic 50, 3) := by decide +kernel
theorem dX9_count_8 : decode cX9_count 8 = .ok (.ifCond .eq 87, 3) := by decide +kernel
theorem dX9_count_11 : decode cX9_count 11 = .ok (.iconst 0, 1) := by decide +kernel
theorem dX9_count_12 : decode cX9_count 12 = .ok (.istore_n 2, 1) := by decide +kernel
theorem dX9_count_13 : decode cX9_count 13 = .ok (.iconst 0, 1) := by decide +kernel
theorem dX9_count_14 : decode cX9_count 14 = .ok (.istore_n 3, 1) := by decide +kernel
theorem dX9_count_15 : decode cX9_count 15 = .ok (.iload_n 3, 1) := by decide +kernel
theorem dX9_count_16 : decode cX9_count 16 = .ok (.aload_n 0, 1) := by decide +kernel
theorem dX9_count_17 : decode cX9_count 17 = .ok (.getfield 13, 3) := by decide +kernel
theorem dX9_count_20 : decode cX9_count 20 = .ok (.iconst 0, 1) := by decide +kernel
theorem dX9_count_21 : decode cX9_count 21 = .ok (.iaload, 1) := by decide +kernel
theorem dX9_count_22 : decode cX9_count 22 = .ok (.if_icmp .ge 71, 3) := by decide +kernel
theorem dX9_count_25 : decode cX9_count 25 = .ok (.iload_n 1, 1) := by decide +kernel
theorem dX9_count_26 : decode cX9_count 26 = .ok (.bipush 6, 2) := by decide +kernel
theorem dX9_count_28 : decode cX9_count 28 = .ok (.if_icmp .ne 7, 3) := by decide +kernel
theorem dX9_count_31 : decode cX9_count 31 = .ok (.iconst 0, 1) := by decide +kernel
theorem dX9_count_32 : decode cX9_count 32 = .ok (.goto 26, 3) := by decide +kernel
theorem dX9_count_35 : decode cX9_count 35 = .ok (.iload_n 1, 1) := by decide +kernel
theorem dX9_count_36 : decode cX9_count 36 = .ok (.bipush 10, 2) := by decide +kernel
theorem dX9_count_38 : decode cX9_count 38 = .ok (.if_icmp .ne 7, 3) := by decide +kernel
theorem dX9_count_41 : decode cX9_count 41 = .ok (.iconst 3, 1) := by decide +kernel
theorem dX9_count_42 : decode cX9_count 42 = .ok (.goto 16, 3) := by decide +kernel
theorem dX9_count_45 : decode cX9_count 45 = .ok (.iload_n 1, 1) := by decide +kernel
theorem dX9_count_46 : decode cX9_count 46 = .ok (.bipush 7, 2) := by decide +kernel
theorem dX9_count_48 : decode cX9_count 48 = .ok (.if_icmp .ne 7, 3) := by decide +kernel
theorem dX9_count_51 : decode cX9_count 51 = .ok (.iconst 2, 1) := by decide +kernel
theorem dX9_count_52 : decode cX9_count 52 = .ok (.goto 6, 3) := by decide +kernel
theorem dX9_count_55 : decode cX9_count 55 = .ok (.iload_n 1, 1) := by decide +kernel
theorem dX9_count_56 : decode cX9_count 56 = .ok (.iconst 4, 1) := by decide +kernel
theorem dX9_count_57 : decode cX9_count 57 = .ok (.isub, 1) := by decide +kernel
theorem dX9_count_58 : decode cX9_count 58 = .ok (.istore 4, 2) := by decide +kernel
theorem dX9_count_60 : decode cX9_count 60 = .ok (.iload_n 2, 1) := by decide +kernel
theorem dX9_count_61 : decode cX9_count 61 = .ok (.iload 4, 2) := by decide +kernel
theorem dX9_count_63 : decode cX9_count 63 = .ok (.ifCond .ne 15, 3) := by decide +kernel
theorem dX9_count_66 : decode cX9_count 66 = .ok (.aload_n 0, 1) := by decide +kernel
theorem dX9_count_67 : decode cX9_count 67 = .ok (.getfield 13, 3) := by decide +kernel
theorem dX9_count_70 : decode cX9_count 70 = .ok (.bipush 10, 2) := by decide +kernel
theorem dX9_count_72 : decode cX9_count 72 = .ok (.iload_n 3, 1) := by decide +kernel
theorem dX9_count_73 : decode cX9_count 73 = .ok (.iadd, 1) := by decide +kernel
theorem dX9_count_74 : decode cX9_count 74 = .ok (.iaload, 1) := by decide +kernel
theorem dX9_count_75 : decode cX9_count 75 = .ok (.goto 10, 3) := by decide +kernel
theorem dX9_count_78 : decode cX9_count 78 = .ok (.aload_n 0, 1) := by decide +kernel
theorem dX9_count_79 : decode cX9_count 79 = .ok (.iload_n 3, 1) := by decide +kernel
theorem dX9_count_80 : decode cX9_count 80 = .ok (.iload 4, 2) := by decide +kernel
theorem dX9_count_82 : decode cX9_count 82 = .ok (.invokevirtual 155, 3) := by decide +kernel
theorem dX9_count_85 : decode cX9_count 85 = .ok (.iadd, 1) := by decide +kernel
theorem dX9_count_86 : decode cX9_count 86 = .ok (.istore_n 2, 1) := by decide +kernel
theorem dX9_count_87 : decode cX9_count 87 = .ok (.iinc 3 1, 3) := by decide +kernel
theorem dX9_count_90 : decode cX9_count 90 = .ok (.goto (-75), 3) := by decide +kernel
theorem dX9_count_93 : decode cX9_count 93 = .ok (.iload_n 2, 1) := by decide +kernel
theorem dX9_count_94 : decode cX9_count 94 = .ok (.ireturn, 1) := by decide +kernel
theorem dX9_count_95 : decode cX9_count 95 = .ok (.iload_n 1, 1) := by decide +kernel
theorem dX9_count_96 : decode cX9_count 96 = .ok (.tableswitch 97 0 12 #[68, 68, 68, 68, 75, 81, 97, 97, 97, 97, 97, 87, 92], 68) := by decide +kernel
theorem dX9_count_164 : decode cX9_count 164 = .ok (.aload_n 0, 1) := by decide +kernel
theorem dX9_count_165 : decode cX9_count 165 = .ok (.getfield 13, 3) := by decide +kernel
theorem dX9_count_168 : decode cX9_count 168 = .ok (.iload_n 1, 1) := by decide +kernel
theorem dX9_count_169 : decode cX9_count 169 = .ok (.iaload, 1) := by decide +kernel
theorem dX9_count_170 : decode cX9_count 170 = .ok (.ireturn, 1) := by decide +kernel
theorem dX9_count_171 : decode cX9_count 171 = .ok (.aload_n 0, 1) := by decide +kernel
theorem dX9_count_172 : decode cX9_count 172 = .ok (.iconst 1, 1) := by decide +kernel
theorem dX9_count_173 : decode cX9_count 173 = .ok (.invokevirtual 164, 3) := by decide +kernel
theorem dX9_count_176 : decode cX9_count 176 = .ok (.ireturn, 1) := by decide +kernel
theorem dX9_count_177 : decode cX9_count 177 = .ok (.aload_n 0, 1) := by decide +kernel
theorem dX9_count_178 : decode cX9_count 178 = .ok (.iconst 2, 1) := by decide +kernel
theorem dX9_count_179 : decode cX9_count 179 = .ok (.invokevirtual 164, 3) := by decide +kernel
theorem dX9_count_182 : decode cX9_count 182 = .ok (.ireturn, 1) := by decide +kernel
theorem dX9_count_183 : decode cX9_count 183 = .ok (.aload_n 0, 1) := by decide +kernel
theorem dX9_count_184 : decode cX9_count 184 = .ok (.invokevirtual 158, 3) := by decide +kernel
theorem dX9_count_187 : decode cX9_count 187 = .ok (.ireturn, 1) := by decide +kernel
theorem dX9_count_188 : decode cX9_count 188 = .ok (.aload_n 0, 1) := by decide +kernel
theorem dX9_count_189 : decode cX9_count 189 = .ok (.getfield 82, 3) := by decide +kernel
theorem dX9_count_192 : decode cX9_count 192 = .ok (.ireturn, 1) := by decide +kernel
theorem dX9_count_193 : decode cX9_count 193 = .ok (.iconst (-1), 1) := by decide +kernel
theorem dX9_count_194 : decode cX9_count 194 = .ok (.ireturn, 1) := by decide +kernel
