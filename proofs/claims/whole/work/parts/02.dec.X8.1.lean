theorem dX8_pick_22 : decode cX8_pick 22 = .ok (.iaload, 1) := by decide +kernel
theorem dX8_pick_23 : decode cX8_pick 23 = .ok (.iload_n 2, 1) := by decide +kernel
theorem dX8_pick_24 : decode cX8_pick 24 = .ok (.if_icmp .ne 6, 3) := by decide +kernel
theorem dX8_pick_27 : decode cX8_pick 27 = .ok (.bipush (-2), 2) := by decide +kernel
theorem dX8_pick_29 : decode cX8_pick 29 = .ok (.ireturn, 1) := by decide +kernel
theorem dX8_pick_30 : decode cX8_pick 30 = .ok (.aload_n 0, 1) := by decide +kernel
theorem dX8_pick_31 : decode cX8_pick 31 = .ok (.getfield 19, 3) := by decide +kernel
theorem dX8_pick_34 : decode cX8_pick 34 = .ok (.getfield 234, 3) := by decide +kernel
theorem dX8_pick_37 : decode cX8_pick 37 = .ok (.iload_n 1, 1) := by decide +kernel
theorem dX8_pick_38 : decode cX8_pick 38 = .ok (.iload_n 2, 1) := by decide +kernel
theorem dX8_pick_39 : decode cX8_pick 39 = .ok (.iastore, 1) := by decide +kernel
theorem dX8_pick_40 : decode cX8_pick 40 = .ok (.aload_n 0, 1) := by decide +kernel
theorem dX8_pick_41 : decode cX8_pick 41 = .ok (.getfield 19, 3) := by decide +kernel
theorem dX8_pick_44 : decode cX8_pick 44 = .ok (.invokevirtual 237, 3) := by decide +kernel
theorem dX8_pick_47 : decode cX8_pick 47 = .ok (.ireturn, 1) := by decide +kernel
theorem dX8_unpick_0 : decode cX8_unpick 0 = .ok (.aload_n 0, 1) := by decide +kernel
theorem dX8_unpick_1 : decode cX8_unpick 1 = .ok (.getfield 19, 3) := by decide +kernel
theorem dX8_unpick_4 : decode cX8_unpick 4 = .ok (.invokevirtual 75, 3) := by decide +kernel
theorem dX8_unpick_7 : decode cX8_unpick 7 = .ok (.ireturn, 1) := by decide +kernel
theorem dX8_through_0 : decode cX8_through 0 = .ok (.iload_n 1, 1) := by decide +kernel
theorem dX8_through_1 : decode cX8_through 1 = .ok (.ifCond .lt 19, 3) := by decide +kernel
theorem dX8_through_4 : decode cX8_through 4 = .ok (.iload_n 1, 1) := by decide +kernel
theorem dX8_through_5 : decode cX8_through 5 = .ok (.iconst 1, 1) := by decide +kernel
theorem dX8_through_6 : decode cX8_through 6 = .ok (.if_icmp .gt 14, 3) := by decide +kernel
theorem dX8_through_9 : decode cX8_through 9 = .ok (.aload_n 0, 1) := by decide +kernel
theorem dX8_through_10 : decode cX8_through 10 = .ok (.getfield 40, 3) := by decide +kernel
theorem dX8_through_13 : decode cX8_through 13 = .ok (.iload_n 2, 1) := by decide +kernel
theorem dX8_through_14 : decode cX8_through 14 = .ok (.invokevirtual 130, 3) := by decide +kernel
theorem dX8_through_17 : decode cX8_through 17 = .ok (.ifCond .ne 5, 3) := by decide +kernel
theorem dX8_through_20 : decode cX8_through 20 = .ok (.iconst (-1), 1) := by decide +kernel
theorem dX8_through_21 : decode cX8_through 21 = .ok (.ireturn, 1) := by decide +kernel
theorem dX8_through_22 : decode cX8_through 22 = .ok (.aload_n 0, 1) := by decide +kernel
theorem dX8_through_23 : decode cX8_through 23 = .ok (.getfield 19, 3) := by decide +kernel
theorem dX8_through_26 : decode cX8_through 26 = .ok (.aload_n 0, 1) := by decide +kernel
theorem dX8_through_27 : decode cX8_through 27 = .ok (.getfield 40, 3) := by decide +kernel
theorem dX8_through_30 : decode cX8_through 30 = .ok (.invokevirtual 240, 3) := by decide +kernel
theorem dX8_through_33 : decode cX8_through 33 = .ok (.ifCond .eq 6, 3) := by decide +kernel
theorem dX8_through_36 : decode cX8_through 36 = .ok (.bipush (-2), 2) := by decide +kernel
theorem dX8_through_38 : decode cX8_through 38 = .ok (.ireturn, 1) := by decide +kernel
theorem dX8_through_39 : decode cX8_through 39 = .ok (.iload_n 1, 1) := by decide +kernel
theorem dX8_through_40 : decode cX8_through 40 = .ok (.ifCond .ne 21, 3) := by decide +kernel
theorem dX8_through_43 : decode cX8_through 43 = .ok (.aload_n 0, 1) := by decide +kernel
theorem dX8_through_44 : decode cX8_through 44 = .ok (.getfield 26, 3) := by decide +kernel
theorem dX8_through_47 : decode cX8_through 47 = .ok (.aload_n 0, 1) := by decide +kernel
theorem dX8_through_48 : decode cX8_through 48 = .ok (.getfield 40, 3) := by decide +kernel
theorem dX8_through_51 : decode cX8_through 51 = .ok (.aload_n 0, 1) := by decide +kernel
theorem dX8_through_52 : decode cX8_through 52 = .ok (.getfield 19, 3) := by decide +kernel
theorem dX8_through_55 : decode cX8_through 55 = .ok (.invokevirtual 244, 3) := by decide +kernel
theorem dX8_through_58 : decode cX8_through 58 = .ok (.goto 18, 3) := by decide +kernel
theorem dX8_through_61 : decode cX8_through 61 = .ok (.aload_n 0, 1) := by decide +kernel
theorem dX8_through_62 : decode cX8_through 62 = .ok (.getfield 26, 3) := by decide +kernel
theorem dX8_through_65 : decode cX8_through 65 = .ok (.aload_n 0, 1) := by decide +kernel
theorem dX8_through_66 : decode cX8_through 66 = .ok (.getfield 40, 3) := by decide +kernel
theorem dX8_through_69 : decode cX8_through 69 = .ok (.aload_n 0, 1) := by decide +kernel
theorem dX8_through_70 : decode cX8_through 70 = .ok (.getfield 19, 3) := by decide +kernel
theorem dX8_through_73 : decode cX8_through 73 = .ok (.invokevirtual 248, 3) := by decide +kernel
theorem dX8_through_76 : decode cX8_through 76 = .ok (.istore_n 3, 1) := by decide +kernel
theorem dX8_through_77 : decode cX8_through 77 = .ok (.iload_n 3, 1) := by decide +kernel
theorem dX8_through_78 : decode cX8_through 78 = .ok (.ifCond .eq 15, 3) := by decide +kernel
theorem dX8_through_81 : decode cX8_through 81 = .ok (.aload_n 0, 1) := by decide +kernel
theorem dX8_through_82 : decode cX8_through 82 = .ok (.getfield 26, 3) := by decide +kernel
theorem dX8_through_85 : decode cX8_through 85 = .ok (.getfield 101, 3) := by decide +kernel
theorem dX8_through_88 : decode cX8_through 88 = .ok (.iload_n 2, 1) := by decide +kernel
theorem dX8_through_89 : decode cX8_through 89 = .ok (.iaload, 1) := by decide +kernel
theorem dX8_through_90 : decode cX8_through 90 = .ok (.goto 5, 3) := by decide +kernel
theorem dX8_through_93 : decode cX8_through 93 = .ok (.bipush (-4), 2) := by decide +kernel
theorem dX8_through_95 : decode cX8_through 95 = .ok (.ireturn, 1) := by decide +kernel
theorem dX8_count_0 : decode cX8_count 0 = .ok (.iload_n 1, 1) := by decide +kernel
theorem dX8_count_1 : decode cX8_count 1 = .ok (.tableswitch 183 0 12 #[67, 75, 83, 91, 100, 109, 118, 126, 134, 139, 159, 167, 175], 67) := by decide +kernel
theorem dX8_count_68 : decode cX8_count 68 = .ok (.aload_n 0, 1) := by decide +kernel
theorem dX8_count_69 : decode cX8_count 69 = .ok (.getfield 40, 3) := by decide +kernel
theorem dX8_count_72 : decode cX8_count 72 = .ok (.getfield 76, 3) := by decide +kernel
theorem dX8_count_75 : decode cX8_count 75 = .ok (.ireturn, 1) := by decide +kernel
theorem dX8_count_76 : decode cX8_count 76 = .ok (.aload_n 0, 1) := by decide +kernel
theorem dX8_count_77 : decode cX8_count 77 = .ok (.getfield 40, 3) := by decide +kernel
theorem dX8_count_80 : decode cX8_count 80 = .ok (.getfield 79, 3) := by decide +kernel
theorem dX8_count_83 : decode cX8_count 83 = .ok (.ireturn, 1) := by decide +kernel
theorem dX8_count_84 : decode cX8_count 84 = .ok (.aload_n 0, 1) := by decide +kernel
theorem dX8_count_85 : decode cX8_count 85 = .ok (.getfield 40, 3) := by decide +kernel
theorem dX8_count_88 : decode cX8_count 88 = .ok (.getfield 251, 3) := by decide +kernel
theorem dX8_count_91 : decode cX8_count 91 = .ok (.ireturn, 1) := by decide +kernel
theorem dX8_count_92 : decode cX8_count 92 = .ok (.aload_n 0, 1) := by decide +kernel
theorem dX8_count_93 : decode cX8_count 93 = .ok (.getfield 40, 3) := by decide +kernel
theorem dX8_count_96 : decode cX8_count 96 = .ok (.iconst 0, 1) := by decide +kernel
theorem dX8_count_97 : decode cX8_count 97 = .ok (.invokevirtual 254, 3) := by decide +kernel
theorem dX8_count_100 : decode cX8_count 100 = .ok (.ireturn, 1) := by decide +kernel
theorem dX8_count_101 : decode cX8_count 101 = .ok (.aload_n 0, 1) := by decide +kernel
theorem dX8_count_102 : decode cX8_count 102 = .ok (.getfield 40, 3) := by decide +kernel
theorem dX8_count_105 : decode cX8_count 105 = .ok (.iconst 1, 1) := by decide +kernel
theorem dX8_count_106 : decode cX8_count 106 = .ok (.invokevirtual 254, 3) := by decide +kernel
theorem dX8_count_109 : decode cX8_count 109 = .ok (.ireturn, 1) := by decide +kernel
theorem dX8_count_110 : decode cX8_count 110 = .ok (.aload_n 0, 1) := by decide +kernel
theorem dX8_count_111 : decode cX8_count 111 = .ok (.getfield 40, 3) := by decide +kernel
theorem dX8_count_114 : decode cX8_count 114 = .ok (.iconst 2, 1) := by decide +kernel
theorem dX8_count_115 : decode cX8_count 115 = .ok (.invokevirtual 254, 3) := by decide +kernel
theorem dX8_count_118 : decode cX8_count 118 = .ok (.ireturn, 1) := by decide +kernel
theorem dX8_count_119 : decode cX8_count 119 = .ok (.aload_n 0, 1) := by decide +kernel
theorem dX8_count_120 : decode cX8_count 120 = .ok (.getfield 40, 3) := by decide +kernel
theorem dX8_count_123 : decode cX8_count 123 = .ok (.invokevirtual 257, 3) := by decide +kernel
theorem dX8_count_126 : decode cX8_count 126 = .ok (.ireturn, 1) := by decide +kernel
theorem dX8_count_127 : decode cX8_count 127 = .ok (.aload_n 0, 1) := by decide +kernel
theorem dX8_count_128 : decode cX8_count 128 = .ok (.getfield 40, 3) := by decide +kernel
theorem dX8_count_131 : decode cX8_count 131 = .ok (.invokevirtual 260, 3) := by decide +kernel
theorem dX8_count_134 : decode cX8_count 134 = .ok (.ireturn, 1) := by decide +kernel
theorem dX8_count_135 : decode cX8_count 135 = .ok (.aload_n 0, 1) := by decide +kernel
theorem dX8_count_136 : decode cX8_count 136 = .ok (.invokevirtual 261, 3) := by decide +kernel
theorem dX8_count_139 : decode cX8_count 139 = .ok (.ireturn, 1) := by decide +kernel
theorem dX8_count_140 : decode cX8_count 140 = .ok (.aload_n 0, 1) := by decide +kernel
theorem dX8_count_141 : decode cX8_count 141 = .ok (.getfield 26, 3) := by decide +kernel
theorem dX8_count_144 : decode cX8_count 144 = .ok (.aload_n 0, 1) := by decide +kernel
theorem dX8_count_145 : decode cX8_count 145 = .ok (.getfield 40, 3) := by decide +kernel
theorem dX8_count_148 : decode cX8_count 148 = .ok (.iconst 0, 1) := by decide +kernel
theorem dX8_count_149 : decode cX8_count 149 = .ok (.aload_n 0, 1) := by decide +kernel
theorem dX8_count_150 : decode cX8_count 150 = .ok (.getfield 40, 3) := by decide +kernel
theorem dX8_count_153 : decode cX8_count 153 = .ok (.getfield 76, 3) := by decide +kernel
theorem dX8_count_156 : decode cX8_count 156 = .ok (.invokevirtual 148, 3) := by decide +kernel
theorem dX8_count_159 : decode cX8_count 159 = .ok (.ireturn, 1) := by decide +kernel
theorem dX8_count_160 : decode cX8_count 160 = .ok (.aload_n 0, 1) := by decide +kernel
theorem dX8_count_161 : decode cX8_count 161 = .ok (.getfield 40, 3) := by decide +kernel
theorem dX8_count_164 : decode cX8_count 164 = .ok (.invokevirtual 264, 3) := by decide +kernel
theorem dX8_count_167 : decode cX8_count 167 = .ok (.ireturn, 1) := by decide +kernel
theorem dX8_count_168 : decode cX8_count 168 = .ok (.aload_n 0, 1) := by decide +kernel
theorem dX8_count_169 : decode cX8_count 169 = .ok (.getfield 19, 3) := by decide +kernel
theorem dX8_count_172 : decode cX8_count 172 = .ok (.invokevirtual 237, 3) := by decide +kernel
theorem dX8_count_175 : decode cX8_count 175 = .ok (.ireturn, 1) := by decide +kernel
theorem dX8_count_176 : decode cX8_count 176 = .ok (.aload_n 0, 1) := by decide +kernel
theorem dX8_count_177 : decode cX8_count 177 = .ok (.getfield 12, 3) := by decide +kernel
theorem dX8_count_180 : decode cX8_count 180 = .ok (.getfield 72, 3) := by decide +kernel
theorem dX8_count_183 : decode cX8_count 183 = .ok (.ireturn, 1) := by decide +kernel
theorem dX8_count_184 : decode cX8_count 184 = .ok (.iconst (-1), 1) := by decide +kernel
theorem dX8_count_185 : decode cX8_count 185 = .ok (.ireturn, 1) := by decide +kernel
theorem dX8_countAllIdle_0 : decode cX8_countAllIdle 0 = .ok (.iconst 0, 1) := by decide +kernel
theorem dX8_countAllIdle_1 : decode cX8_countAllIdle 1 = .ok (.istore_n 1, 1) := by decide +kernel
theorem dX8_countAllIdle_2 : decode cX8_countAllIdle 2 = .ok (.iconst 0, 1) := by decide +kernel
theorem dX8_countAllIdle_3 : decode cX8_countAllIdle 3 = .ok (.istore_n 2, 1) := by decide +kernel
theorem dX8_countAllIdle_4 : decode cX8_countAllIdle 4 = .ok (.iload_n 2, 1) := by decide +kernel
theorem dX8_countAllIdle_5 : decode cX8_countAllIdle 5 = .ok (.aload_n 0, 1) := by decide +kernel
theorem dX8_countAllIdle_6 : decode cX8_countAllIdle 6 = .ok (.getfield 40, 3) := by decide +kernel
theorem dX8_countAllIdle_9 : decode cX8_countAllIdle 9 = .ok (.getfield 76, 3) := by decide +kernel
theorem dX8_countAllIdle_12 : decode cX8_countAllIdle 12 = .ok (.if_icmp .ge 17, 3) := by decide +kernel
theorem dX8_countAllIdle_15 : decode cX8_countAllIdle 15 = .ok (.iload_n 1, 1) := by decide +kernel
theorem dX8_countAllIdle_16 : decode cX8_countAllIdle 16 = .ok (.aload_n 0, 1) := by decide +kernel
theorem dX8_countAllIdle_17 : decode cX8_countAllIdle 17 = .ok (.iload_n 2, 1) := by decide +kernel
theorem dX8_countAllIdle_18 : decode cX8_countAllIdle 18 = .ok (.invokevirtual 145, 3) := by decide +kernel
theorem dX8_countAllIdle_21 : decode cX8_countAllIdle 21 = .ok (.iadd, 1) := by decide +kernel
theorem dX8_countAllIdle_22 : decode cX8_countAllIdle 22 = .ok (.istore_n 1, 1) := by decide +kernel
theorem dX8_countAllIdle_23 : decode cX8_countAllIdle 23 = .ok (.iinc 2 1, 3) := by decide +kernel
theorem dX8_countAllIdle_26 : decode cX8_countAllIdle 26 = .ok (.goto (-22), 3) := by decide +kernel
theorem dX8_countAllIdle_29 : decode cX8_countAllIdle 29 = .ok (.iload_n 1, 1) := by decide +kernel
theorem dX8_countAllIdle_30 : decode cX8_countAllIdle 30 = .ok (.ireturn, 1) := by decide +kernel
theorem dX8_countIdle_0 : decode cX8_countIdle 0 = .ok (.iconst 0, 1) := by decide +kernel
theorem dX8_countIdle_1 : decode cX8_countIdle 1 = .ok (.istore_n 2, 1) := by decide +kernel
theorem dX8_countIdle_2 : decode cX8_countIdle 2 = .ok (.iconst 0, 1) := by decide +kernel
theorem dX8_countIdle_3 : decode cX8_countIdle 3 = .ok (.istore_n 3, 1) := by decide +kernel
theorem dX8_countIdle_4 : decode cX8_countIdle 4 = .ok (.iload_n 3, 1) := by decide +kernel
theorem dX8_countIdle_5 : decode cX8_countIdle 5 = .ok (.aload_n 0, 1) := by decide +kernel
theorem dX8_countIdle_6 : decode cX8_countIdle 6 = .ok (.getfield 40, 3) := by decide +kernel
theorem dX8_countIdle_9 : decode cX8_countIdle 9 = .ok (.getfield 112, 3) := by decide +kernel
theorem dX8_countIdle_12 : decode cX8_countIdle 12 = .ok (.iload_n 1, 1) := by decide +kernel
theorem dX8_countIdle_13 : decode cX8_countIdle 13 = .ok (.aaload, 1) := by decide +kernel
theorem dX8_countIdle_14 : decode cX8_countIdle 14 = .ok (.getfield 133, 3) := by decide +kernel
theorem dX8_countIdle_17 : decode cX8_countIdle 17 = .ok (.if_icmp .ge 21, 3) := by decide +kernel
theorem dX8_countIdle_20 : decode cX8_countIdle 20 = .ok (.aload_n 0, 1) := by decide +kernel
theorem dX8_countIdle_21 : decode cX8_countIdle 21 = .ok (.iload_n 1, 1) := by decide +kernel
theorem dX8_countIdle_22 : decode cX8_countIdle 22 = .ok (.iload_n 3, 1) := by decide +kernel
theorem dX8_countIdle_23 : decode cX8_countIdle 23 = .ok (.invokevirtual 176, 3) := by decide +kernel
theorem dX8_countIdle_26 : decode cX8_countIdle 26 = .ok (.ifCond .eq 6, 3) := by decide +kernel
theorem dX8_countIdle_29 : decode cX8_countIdle 29 = .ok (.iinc 2 1, 3) := by decide +kernel
theorem dX8_countIdle_32 : decode cX8_countIdle 32 = .ok (.iinc 3 1, 3) := by decide +kernel
theorem dX8_countIdle_35 : decode cX8_countIdle 35 = .ok (.goto (-31), 3) := by decide +kernel
theorem dX8_countIdle_38 : decode cX8_countIdle 38 = .ok (.iload_n 2, 1) := by decide +kernel
theorem dX8_countIdle_39 : decode cX8_countIdle 39 = .ok (.ireturn, 1) := by decide +kernel
theorem dX8_isIdle_0 : decode cX8_isIdle 0 = .ok (.aload_n 0, 1) := by decide +kernel
theorem dX8_isIdle_1 : decode cX8_isIdle 1 = .ok (.getfield 33, 3) := by decide +kernel
theorem dX8_isIdle_4 : decode cX8_isIdle 4 = .ok (.aload_n 0, 1) := by decide +kernel
theorem dX8_isIdle_5 : decode cX8_isIdle 5 = .ok (.getfield 40, 3) := by decide +kernel
theorem dX8_isIdle_8 : decode cX8_isIdle 8 = .ok (.iload_n 1, 1) := by decide +kernel
theorem dX8_isIdle_9 : decode cX8_isIdle 9 = .ok (.iload_n 2, 1) := by decide +kernel
theorem dX8_isIdle_10 : decode cX8_isIdle 10 = .ok (.iload_n 1, 1) := by decide +kernel
theorem dX8_isIdle_11 : decode cX8_isIdle 11 = .ok (.iload_n 2, 1) := by decide +kernel
theorem dX8_isIdle_12 : decode cX8_isIdle 12 = .ok (.iconst 0, 1) := by decide +kernel
theorem dX8_isIdle_13 : decode cX8_isIdle 13 = .ok (.invokevirtual 214, 3) := by decide +kernel
theorem dX8_isIdle_16 : decode cX8_isIdle 16 = .ok (.bipush (-4), 2) := by decide +kernel
theorem dX8_isIdle_18 : decode cX8_isIdle 18 = .ok (.if_icmp .eq 7, 3) := by decide +kernel
theorem dX8_isIdle_21 : decode cX8_isIdle 21 = .ok (.iconst 1, 1) := by decide +kernel
theorem dX8_isIdle_22 : decode cX8_isIdle 22 = .ok (.goto 4, 3) := by decide +kernel
theorem dX8_isIdle_25 : decode cX8_isIdle 25 = .ok (.iconst 0, 1) := by decide +kernel
theorem dX8_isIdle_26 : decode cX8_isIdle 26 = .ok (.ireturn, 1) := by decide +kernel
theorem dX8_oneIf_0 : decode cX8_oneIf 0 = .ok (.iload_n 0, 1) := by decide +kernel
theorem dX8_oneIf_1 : decode cX8_oneIf 1 = .ok (.ifCond .eq 7, 3) := by decide +kernel
theorem dX8_oneIf_4 : decode cX8_oneIf 4 = .ok (.iconst 1, 1) := by decide +kernel
theorem dX8_oneIf_5 : decode cX8_oneIf 5 = .ok (.goto 4, 3) := by decide +kernel
theorem dX8_oneIf_8 : decode cX8_oneIf 8 = .ok (.iconst 0, 1) := by decide +kernel
theorem dX8_oneIf_9 : decode cX8_oneIf 9 = .ok (.ireturn, 1) := by decide +kernel
