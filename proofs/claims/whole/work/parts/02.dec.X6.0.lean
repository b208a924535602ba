theorem dX6_init_0 : decode cX6_init 0 = .ok (.aload_n 0, 1) := by decide +kernel
theorem dX6_init_1 : decode cX6_init 1 = .ok (.invokespecial 3, 3) := by decide +kernel
theorem dX6_init_4 : decode cX6_init 4 = .ok (.aload_n 0, 1) := by decide +kernel
theorem dX6_init_5 : decode cX6_init 5 = .ok (.iconst 5, 1) := by decide +kernel
theorem dX6_init_6 : decode cX6_init 6 = .ok (.newarray .int, 2) := by decide +kernel
theorem dX6_init_8 : decode cX6_init 8 = .ok (.putfield 9, 3) := by decide +kernel
theorem dX6_init_11 : decode cX6_init 11 = .ok (.aload_n 0, 1) := by decide +kernel
theorem dX6_init_12 : decode cX6_init 12 = .ok (.iconst 5, 1) := by decide +kernel
theorem dX6_init_13 : decode cX6_init 13 = .ok (.newarray .int, 2) := by decide +kernel
theorem dX6_init_15 : decode cX6_init 15 = .ok (.putfield 15, 3) := by decide +kernel
theorem dX6_init_18 : decode cX6_init 18 = .ok (.return_, 1) := by decide +kernel
theorem dX6_fewest_0 : decode cX6_fewest 0 = .ok (.iload_n 3, 1) := by decide +kernel
theorem dX6_fewest_1 : decode cX6_fewest 1 = .ok (.aload_n 1, 1) := by decide +kernel
theorem dX6_fewest_2 : decode cX6_fewest 2 = .ok (.getfield 18, 3) := by decide +kernel
theorem dX6_fewest_5 : decode cX6_fewest 5 = .ok (.iload_n 2, 1) := by decide +kernel
theorem dX6_fewest_6 : decode cX6_fewest 6 = .ok (.aaload, 1) := by decide +kernel
theorem dX6_fewest_7 : decode cX6_fewest 7 = .ok (.getfield 24, 3) := by decide +kernel
theorem dX6_fewest_10 : decode cX6_fewest 10 = .ok (.if_icmp .lt 6, 3) := by decide +kernel
theorem dX6_fewest_13 : decode cX6_fewest 13 = .ok (.bipush (-4), 2) := by decide +kernel
theorem dX6_fewest_15 : decode cX6_fewest 15 = .ok (.ireturn, 1) := by decide +kernel
theorem dX6_fewest_16 : decode cX6_fewest 16 = .ok (.iconst 0, 1) := by decide +kernel
theorem dX6_fewest_17 : decode cX6_fewest 17 = .ok (.istore 7, 2) := by decide +kernel
theorem dX6_fewest_19 : decode cX6_fewest 19 = .ok (.iload 7, 2) := by decide +kernel
theorem dX6_fewest_21 : decode cX6_fewest 21 = .ok (.iconst 5, 1) := by decide +kernel
theorem dX6_fewest_22 : decode cX6_fewest 22 = .ok (.if_icmp .ge 18, 3) := by decide +kernel
theorem dX6_fewest_25 : decode cX6_fewest 25 = .ok (.aload_n 0, 1) := by decide +kernel
theorem dX6_fewest_26 : decode cX6_fewest 26 = .ok (.getfield 15, 3) := by decide +kernel
theorem dX6_fewest_29 : decode cX6_fewest 29 = .ok (.iload 7, 2) := by decide +kernel
theorem dX6_fewest_31 : decode cX6_fewest 31 = .ok (.ldc 30, 2) := by decide +kernel
theorem dX6_fewest_33 : decode cX6_fewest 33 = .ok (.iastore, 1) := by decide +kernel
theorem dX6_fewest_34 : decode cX6_fewest 34 = .ok (.iinc 7 1, 3) := by decide +kernel
theorem dX6_fewest_37 : decode cX6_fewest 37 = .ok (.goto (-18), 3) := by decide +kernel
theorem dX6_fewest_40 : decode cX6_fewest 40 = .ok (.aload_n 0, 1) := by decide +kernel
theorem dX6_fewest_41 : decode cX6_fewest 41 = .ok (.getfield 15, 3) := by decide +kernel
theorem dX6_fewest_44 : decode cX6_fewest 44 = .ok (.iload_n 2, 1) := by decide +kernel
theorem dX6_fewest_45 : decode cX6_fewest 45 = .ok (.iload 6, 2) := by decide +kernel
theorem dX6_fewest_47 : decode cX6_fewest 47 = .ok (.ifCond .eq 17, 3) := by decide +kernel
theorem dX6_fewest_50 : decode cX6_fewest 50 = .ok (.aload_n 1, 1) := by decide +kernel
theorem dX6_fewest_51 : decode cX6_fewest 51 = .ok (.getfield 18, 3) := by decide +kernel
theorem dX6_fewest_54 : decode cX6_fewest 54 = .ok (.iload_n 2, 1) := by decide +kernel
theorem dX6_fewest_55 : decode cX6_fewest 55 = .ok (.aaload, 1) := by decide +kernel
theorem dX6_fewest_56 : decode cX6_fewest 56 = .ok (.getfield 31, 3) := by decide +kernel
theorem dX6_fewest_59 : decode cX6_fewest 59 = .ok (.iload_n 3, 1) := by decide +kernel
theorem dX6_fewest_60 : decode cX6_fewest 60 = .ok (.iaload, 1) := by decide +kernel
theorem dX6_fewest_61 : decode cX6_fewest 61 = .ok (.goto 4, 3) := by decide +kernel
theorem dX6_fewest_64 : decode cX6_fewest 64 = .ok (.iload_n 3, 1) := by decide +kernel
theorem dX6_fewest_65 : decode cX6_fewest 65 = .ok (.iastore, 1) := by decide +kernel
theorem dX6_fewest_66 : decode cX6_fewest 66 = .ok (.iconst 1, 1) := by decide +kernel
theorem dX6_fewest_67 : decode cX6_fewest 67 = .ok (.istore 7, 2) := by decide +kernel
theorem dX6_fewest_69 : decode cX6_fewest 69 = .ok (.iconst 1, 1) := by decide +kernel
theorem dX6_fewest_70 : decode cX6_fewest 70 = .ok (.istore 8, 2) := by decide +kernel
theorem dX6_fewest_72 : decode cX6_fewest 72 = .ok (.iload 7, 2) := by decide +kernel
theorem dX6_fewest_74 : decode cX6_fewest 74 = .ok (.ifCond .eq 120, 3) := by decide +kernel
theorem dX6_fewest_77 : decode cX6_fewest 77 = .ok (.iload 8, 2) := by decide +kernel
theorem dX6_fewest_79 : decode cX6_fewest 79 = .ok (.bipush 60, 2) := by decide +kernel
theorem dX6_fewest_81 : decode cX6_fewest 81 = .ok (.if_icmp .gt 113, 3) := by decide +kernel
theorem dX6_fewest_84 : decode cX6_fewest 84 = .ok (.aload_n 0, 1) := by decide +kernel
theorem dX6_fewest_85 : decode cX6_fewest 85 = .ok (.getfield 15, 3) := by decide +kernel
theorem dX6_fewest_88 : decode cX6_fewest 88 = .ok (.iconst 0, 1) := by decide +kernel
theorem dX6_fewest_89 : decode cX6_fewest 89 = .ok (.aload_n 0, 1) := by decide +kernel
theorem dX6_fewest_90 : decode cX6_fewest 90 = .ok (.getfield 9, 3) := by decide +kernel
theorem dX6_fewest_93 : decode cX6_fewest 93 = .ok (.iconst 0, 1) := by decide +kernel
theorem dX6_fewest_94 : decode cX6_fewest 94 = .ok (.iconst 5, 1) := by decide +kernel
theorem dX6_fewest_95 : decode cX6_fewest 95 = .ok (.invokestatic 34, 3) := by decide +kernel
theorem dX6_fewest_98 : decode cX6_fewest 98 = .ok (.iconst 0, 1) := by decide +kernel
theorem dX6_fewest_99 : decode cX6_fewest 99 = .ok (.istore 7, 2) := by decide +kernel
theorem dX6_fewest_101 : decode cX6_fewest 101 = .ok (.iconst 0, 1) := by decide +kernel
theorem dX6_fewest_102 : decode cX6_fewest 102 = .ok (.istore 9, 2) := by decide +kernel
theorem dX6_fewest_104 : decode cX6_fewest 104 = .ok (.iload 9, 2) := by decide +kernel
theorem dX6_fewest_106 : decode cX6_fewest 106 = .ok (.aload_n 1, 1) := by decide +kernel
theorem dX6_fewest_107 : decode cX6_fewest 107 = .ok (.getfield 40, 3) := by decide +kernel
theorem dX6_fewest_110 : decode cX6_fewest 110 = .ok (.if_icmp .ge 78, 3) := by decide +kernel
theorem dX6_fewest_113 : decode cX6_fewest 113 = .ok (.aload_n 1, 1) := by decide +kernel
theorem dX6_fewest_114 : decode cX6_fewest 114 = .ok (.getfield 43, 3) := by decide +kernel
theorem dX6_fewest_117 : decode cX6_fewest 117 = .ok (.iload 9, 2) := by decide +kernel
theorem dX6_fewest_119 : decode cX6_fewest 119 = .ok (.aaload, 1) := by decide +kernel
theorem dX6_fewest_120 : decode cX6_fewest 120 = .ok (.astore 10, 2) := by decide +kernel
theorem dX6_fewest_122 : decode cX6_fewest 122 = .ok (.aload 10, 2) := by decide +kernel
theorem dX6_fewest_124 : decode cX6_fewest 124 = .ok (.getfield 47, 3) := by decide +kernel
theorem dX6_fewest_127 : decode cX6_fewest 127 = .ok (.iconst 1, 1) := by decide +kernel
theorem dX6_fewest_128 : decode cX6_fewest 128 = .ok (.if_icmp .ne 54, 3) := by decide +kernel
theorem dX6_fewest_131 : decode cX6_fewest 131 = .ok (.aload_n 0, 1) := by decide +kernel
theorem dX6_fewest_132 : decode cX6_fewest 132 = .ok (.aload 10, 2) := by decide +kernel
theorem dX6_fewest_134 : decode cX6_fewest 134 = .ok (.iload 6, 2) := by decide +kernel
theorem dX6_fewest_136 : decode cX6_fewest 136 = .ok (.invokevirtual 52, 3) := by decide +kernel
theorem dX6_fewest_139 : decode cX6_fewest 139 = .ok (.ifCond .ne 6, 3) := by decide +kernel
theorem dX6_fewest_142 : decode cX6_fewest 142 = .ok (.goto 40, 3) := by decide +kernel
theorem dX6_fewest_145 : decode cX6_fewest 145 = .ok (.aload 10, 2) := by decide +kernel
theorem dX6_fewest_147 : decode cX6_fewest 147 = .ok (.getfield 56, 3) := by decide +kernel
theorem dX6_fewest_150 : decode cX6_fewest 150 = .ok (.iload 4, 2) := by decide +kernel
theorem dX6_fewest_152 : decode cX6_fewest 152 = .ok (.if_icmp .ne 16, 3) := by decide +kernel
theorem dX6_fewest_155 : decode cX6_fewest 155 = .ok (.aload 10, 2) := by decide +kernel
theorem dX6_fewest_157 : decode cX6_fewest 157 = .ok (.getfield 59, 3) := by decide +kernel
theorem dX6_fewest_160 : decode cX6_fewest 160 = .ok (.iload 5, 2) := by decide +kernel
theorem dX6_fewest_162 : decode cX6_fewest 162 = .ok (.if_icmp .ge 6, 3) := by decide +kernel
theorem dX6_fewest_165 : decode cX6_fewest 165 = .ok (.iload 8, 2) := by decide +kernel
theorem dX6_fewest_167 : decode cX6_fewest 167 = .ok (.ireturn, 1) := by decide +kernel
theorem dX6_fewest_168 : decode cX6_fewest 168 = .ok (.aload_n 0, 1) := by decide +kernel
theorem dX6_fewest_169 : decode cX6_fewest 169 = .ok (.aload 10, 2) := by decide +kernel
theorem dX6_fewest_171 : decode cX6_fewest 171 = .ok (.iload 6, 2) := by decide +kernel
theorem dX6_fewest_173 : decode cX6_fewest 173 = .ok (.invokevirtual 62, 3) := by decide +kernel
theorem dX6_fewest_176 : decode cX6_fewest 176 = .ok (.ifCond .eq 6, 3) := by decide +kernel
theorem dX6_fewest_179 : decode cX6_fewest 179 = .ok (.iconst 1, 1) := by decide +kernel
theorem dX6_fewest_180 : decode cX6_fewest 180 = .ok (.istore 7, 2) := by decide +kernel
theorem dX6_fewest_182 : decode cX6_fewest 182 = .ok (.iinc 9 1, 3) := by decide +kernel
theorem dX6_fewest_185 : decode cX6_fewest 185 = .ok (.goto (-81), 3) := by decide +kernel
theorem dX6_fewest_188 : decode cX6_fewest 188 = .ok (.iinc 8 1, 3) := by decide +kernel
theorem dX6_fewest_191 : decode cX6_fewest 191 = .ok (.goto (-119), 3) := by decide +kernel
theorem dX6_fewest_194 : decode cX6_fewest 194 = .ok (.bipush (-4), 2) := by decide +kernel
theorem dX6_fewest_196 : decode cX6_fewest 196 = .ok (.ireturn, 1) := by decide +kernel
theorem dX6_isReached_0 : decode cX6_isReached 0 = .ok (.iload_n 2, 1) := by decide +kernel
theorem dX6_isReached_1 : decode cX6_isReached 1 = .ok (.ifCond .eq 10, 3) := by decide +kernel
theorem dX6_isReached_4 : decode cX6_isReached 4 = .ok (.aload_n 1, 1) := by decide +kernel
theorem dX6_isReached_5 : decode cX6_isReached 5 = .ok (.getfield 65, 3) := by decide +kernel
theorem dX6_isReached_8 : decode cX6_isReached 8 = .ok (.goto 7, 3) := by decide +kernel
theorem dX6_isReached_11 : decode cX6_isReached 11 = .ok (.aload_n 1, 1) := by decide +kernel
theorem dX6_isReached_12 : decode cX6_isReached 12 = .ok (.getfield 68, 3) := by decide +kernel
theorem dX6_isReached_15 : decode cX6_isReached 15 = .ok (.aload_n 0, 1) := by decide +kernel
theorem dX6_isReached_16 : decode cX6_isReached 16 = .ok (.getfield 9, 3) := by decide +kernel
theorem dX6_isReached_19 : decode cX6_isReached 19 = .ok (.aload_n 1, 1) := by decide +kernel
theorem dX6_isReached_20 : decode cX6_isReached 20 = .ok (.getfield 71, 3) := by decide +kernel
theorem dX6_isReached_23 : decode cX6_isReached 23 = .ok (.iaload, 1) := by decide +kernel
theorem dX6_isReached_24 : decode cX6_isReached 24 = .ok (.if_icmp .lt 7, 3) := by decide +kernel
theorem dX6_isReached_27 : decode cX6_isReached 27 = .ok (.iconst 1, 1) := by decide +kernel
theorem dX6_isReached_28 : decode cX6_isReached 28 = .ok (.goto 4, 3) := by decide +kernel
theorem dX6_isReached_31 : decode cX6_isReached 31 = .ok (.iconst 0, 1) := by decide +kernel
theorem dX6_isReached_32 : decode cX6_isReached 32 = .ok (.ireturn, 1) := by decide +kernel
theorem dX6_reach_0 : decode cX6_reach 0 = .ok (.iload_n 2, 1) := by decide +kernel
theorem dX6_reach_1 : decode cX6_reach 1 = .ok (.ifCond .eq 10, 3) := by decide +kernel
theorem dX6_reach_4 : decode cX6_reach 4 = .ok (.aload_n 1, 1) := by decide +kernel
theorem dX6_reach_5 : decode cX6_reach 5 = .ok (.getfield 74, 3) := by decide +kernel
theorem dX6_reach_8 : decode cX6_reach 8 = .ok (.goto 7, 3) := by decide +kernel
theorem dX6_reach_11 : decode cX6_reach 11 = .ok (.aload_n 1, 1) := by decide +kernel
theorem dX6_reach_12 : decode cX6_reach 12 = .ok (.getfield 59, 3) := by decide +kernel
theorem dX6_reach_15 : decode cX6_reach 15 = .ok (.istore_n 3, 1) := by decide +kernel
theorem dX6_reach_16 : decode cX6_reach 16 = .ok (.iload_n 3, 1) := by decide +kernel
theorem dX6_reach_17 : decode cX6_reach 17 = .ok (.aload_n 0, 1) := by decide +kernel
theorem dX6_reach_18 : decode cX6_reach 18 = .ok (.getfield 15, 3) := by decide +kernel
theorem dX6_reach_21 : decode cX6_reach 21 = .ok (.aload_n 1, 1) := by decide +kernel
theorem dX6_reach_22 : decode cX6_reach 22 = .ok (.getfield 56, 3) := by decide +kernel
theorem dX6_reach_25 : decode cX6_reach 25 = .ok (.iaload, 1) := by decide +kernel
theorem dX6_reach_26 : decode cX6_reach 26 = .ok (.if_icmp .lt 5, 3) := by decide +kernel
theorem dX6_reach_29 : decode cX6_reach 29 = .ok (.iconst 0, 1) := by decide +kernel
theorem dX6_reach_30 : decode cX6_reach 30 = .ok (.ireturn, 1) := by decide +kernel
theorem dX6_reach_31 : decode cX6_reach 31 = .ok (.aload_n 0, 1) := by decide +kernel
theorem dX6_reach_32 : decode cX6_reach 32 = .ok (.getfield 15, 3) := by decide +kernel
theorem dX6_reach_35 : decode cX6_reach 35 = .ok (.aload_n 1, 1) := by decide +kernel
theorem dX6_reach_36 : decode cX6_reach 36 = .ok (.getfield 56, 3) := by decide +kernel
theorem dX6_reach_39 : decode cX6_reach 39 = .ok (.iload_n 3, 1) := by decide +kernel
theorem dX6_reach_40 : decode cX6_reach 40 = .ok (.iastore, 1) := by decide +kernel
theorem dX6_reach_41 : decode cX6_reach 41 = .ok (.iconst 1, 1) := by decide +kernel
theorem dX6_reach_42 : decode cX6_reach 42 = .ok (.ireturn, 1) := by decide +kernel
