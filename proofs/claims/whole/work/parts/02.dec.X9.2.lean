theorem dX9_fault_30 : decode cX9_fault 30 = .ok (.ireturn, 1) := by decide +kernel
theorem dX9_lay_0 : decode cX9_lay 0 = .ok (.aload_n 0, 1) := by decide +kernel
theorem dX9_lay_1 : decode cX9_lay 1 = .ok (.getfield 82, 3) := by decide +kernel
theorem dX9_lay_4 : decode cX9_lay 4 = .ok (.ifCond .eq 12, 3) := by decide +kernel
theorem dX9_lay_7 : decode cX9_lay 7 = .ok (.aload_n 0, 1) := by decide +kernel
theorem dX9_lay_8 : decode cX9_lay 8 = .ok (.invokevirtual 111, 3) := by decide +kernel
theorem dX9_lay_11 : decode cX9_lay 11 = .ok (.bipush (-4), 2) := by decide +kernel
theorem dX9_lay_13 : decode cX9_lay 13 = .ok (.if_icmp .eq 6, 3) := by decide +kernel
theorem dX9_lay_16 : decode cX9_lay 16 = .ok (.bipush (-2), 2) := by decide +kernel
theorem dX9_lay_18 : decode cX9_lay 18 = .ok (.ireturn, 1) := by decide +kernel
theorem dX9_lay_19 : decode cX9_lay 19 = .ok (.aload_n 0, 1) := by decide +kernel
theorem dX9_lay_20 : decode cX9_lay 20 = .ok (.invokevirtual 108, 3) := by decide +kernel
theorem dX9_lay_23 : decode cX9_lay 23 = .ok (.pop, 1) := by decide +kernel
theorem dX9_lay_24 : decode cX9_lay 24 = .ok (.aload_n 0, 1) := by decide +kernel
theorem dX9_lay_25 : decode cX9_lay 25 = .ok (.invokevirtual 42, 3) := by decide +kernel
theorem dX9_lay_28 : decode cX9_lay 28 = .ok (.pop, 1) := by decide +kernel
theorem dX9_lay_29 : decode cX9_lay 29 = .ok (.aload_n 0, 1) := by decide +kernel
theorem dX9_lay_30 : decode cX9_lay 30 = .ok (.getfield 13, 3) := by decide +kernel
theorem dX9_lay_33 : decode cX9_lay 33 = .ok (.iconst 0, 1) := by decide +kernel
theorem dX9_lay_34 : decode cX9_lay 34 = .ok (.iaload, 1) := by decide +kernel
theorem dX9_lay_35 : decode cX9_lay 35 = .ok (.ireturn, 1) := by decide +kernel
theorem dX9_finds_0 : decode cX9_finds 0 = .ok (.aload_n 0, 1) := by decide +kernel
theorem dX9_finds_1 : decode cX9_finds 1 = .ok (.iconst 0, 1) := by decide +kernel
theorem dX9_finds_2 : decode cX9_finds 2 = .ok (.putfield 114, 3) := by decide +kernel
theorem dX9_finds_5 : decode cX9_finds 5 = .ok (.iconst 1, 1) := by decide +kernel
theorem dX9_finds_6 : decode cX9_finds 6 = .ok (.istore_n 1, 1) := by decide +kernel
theorem dX9_finds_7 : decode cX9_finds 7 = .ok (.iload_n 1, 1) := by decide +kernel
theorem dX9_finds_8 : decode cX9_finds 8 = .ok (.ifCond .eq 196, 3) := by decide +kernel
theorem dX9_finds_11 : decode cX9_finds 11 = .ok (.iconst 0, 1) := by decide +kernel
theorem dX9_finds_12 : decode cX9_finds 12 = .ok (.istore_n 1, 1) := by decide +kernel
theorem dX9_finds_13 : decode cX9_finds 13 = .ok (.iconst 0, 1) := by decide +kernel
theorem dX9_finds_14 : decode cX9_finds 14 = .ok (.istore_n 2, 1) := by decide +kernel
theorem dX9_finds_15 : decode cX9_finds 15 = .ok (.iload_n 2, 1) := by decide +kernel
theorem dX9_finds_16 : decode cX9_finds 16 = .ok (.aload_n 0, 1) := by decide +kernel
theorem dX9_finds_17 : decode cX9_finds 17 = .ok (.getfield 13, 3) := by decide +kernel
theorem dX9_finds_20 : decode cX9_finds 20 = .ok (.iconst 0, 1) := by decide +kernel
theorem dX9_finds_21 : decode cX9_finds 21 = .ok (.iaload, 1) := by decide +kernel
theorem dX9_finds_22 : decode cX9_finds 22 = .ok (.if_icmp .ge 106, 3) := by decide +kernel
theorem dX9_finds_25 : decode cX9_finds 25 = .ok (.aload_n 0, 1) := by decide +kernel
theorem dX9_finds_26 : decode cX9_finds 26 = .ok (.getfield 25, 3) := by decide +kernel
theorem dX9_finds_29 : decode cX9_finds 29 = .ok (.iload_n 2, 1) := by decide +kernel
theorem dX9_finds_30 : decode cX9_finds 30 = .ok (.aload_n 0, 1) := by decide +kernel
theorem dX9_finds_31 : decode cX9_finds 31 = .ok (.getfield 22, 3) := by decide +kernel
theorem dX9_finds_34 : decode cX9_finds 34 = .ok (.iload_n 2, 1) := by decide +kernel
theorem dX9_finds_35 : decode cX9_finds 35 = .ok (.iaload, 1) := by decide +kernel
theorem dX9_finds_36 : decode cX9_finds 36 = .ok (.iastore, 1) := by decide +kernel
theorem dX9_finds_37 : decode cX9_finds 37 = .ok (.iconst 0, 1) := by decide +kernel
theorem dX9_finds_38 : decode cX9_finds 38 = .ok (.istore_n 3, 1) := by decide +kernel
theorem dX9_finds_39 : decode cX9_finds 39 = .ok (.iload_n 3, 1) := by decide +kernel
theorem dX9_finds_40 : decode cX9_finds 40 = .ok (.aload_n 0, 1) := by decide +kernel
theorem dX9_finds_41 : decode cX9_finds 41 = .ok (.getfield 13, 3) := by decide +kernel
theorem dX9_finds_44 : decode cX9_finds 44 = .ok (.iconst 2, 1) := by decide +kernel
theorem dX9_finds_45 : decode cX9_finds 45 = .ok (.iaload, 1) := by decide +kernel
theorem dX9_finds_46 : decode cX9_finds 46 = .ok (.if_icmp .ge 76, 3) := by decide +kernel
theorem dX9_finds_49 : decode cX9_finds 49 = .ok (.aload_n 0, 1) := by decide +kernel
theorem dX9_finds_50 : decode cX9_finds 50 = .ok (.iload_n 3, 1) := by decide +kernel
theorem dX9_finds_51 : decode cX9_finds 51 = .ok (.iconst 5, 1) := by decide +kernel
theorem dX9_finds_52 : decode cX9_finds 52 = .ok (.invokevirtual 65, 3) := by decide +kernel
theorem dX9_finds_55 : decode cX9_finds 55 = .ok (.iconst 1, 1) := by decide +kernel
theorem dX9_finds_56 : decode cX9_finds 56 = .ok (.if_icmp .ne 60, 3) := by decide +kernel
theorem dX9_finds_59 : decode cX9_finds 59 = .ok (.aload_n 0, 1) := by decide +kernel
theorem dX9_finds_60 : decode cX9_finds 60 = .ok (.iload_n 3, 1) := by decide +kernel
theorem dX9_finds_61 : decode cX9_finds 61 = .ok (.iconst 1, 1) := by decide +kernel
theorem dX9_finds_62 : decode cX9_finds 62 = .ok (.invokevirtual 65, 3) := by decide +kernel
theorem dX9_finds_65 : decode cX9_finds 65 = .ok (.iload_n 2, 1) := by decide +kernel
theorem dX9_finds_66 : decode cX9_finds 66 = .ok (.if_icmp .ne 50, 3) := by decide +kernel
theorem dX9_finds_69 : decode cX9_finds 69 = .ok (.aload_n 0, 1) := by decide +kernel
theorem dX9_finds_70 : decode cX9_finds 70 = .ok (.iload_n 3, 1) := by decide +kernel
theorem dX9_finds_71 : decode cX9_finds 71 = .ok (.iconst 3, 1) := by decide +kernel
theorem dX9_finds_72 : decode cX9_finds 72 = .ok (.invokevirtual 65, 3) := by decide +kernel
theorem dX9_finds_75 : decode cX9_finds 75 = .ok (.aload_n 0, 1) := by decide +kernel
theorem dX9_finds_76 : decode cX9_finds 76 = .ok (.getfield 25, 3) := by decide +kernel
theorem dX9_finds_79 : decode cX9_finds 79 = .ok (.iload_n 2, 1) := by decide +kernel
theorem dX9_finds_80 : decode cX9_finds 80 = .ok (.iaload, 1) := by decide +kernel
theorem dX9_finds_81 : decode cX9_finds 81 = .ok (.if_icmp .ge 35, 3) := by decide +kernel
theorem dX9_finds_84 : decode cX9_finds 84 = .ok (.aload_n 0, 1) := by decide +kernel
theorem dX9_finds_85 : decode cX9_finds 85 = .ok (.iload_n 3, 1) := by decide +kernel
theorem dX9_finds_86 : decode cX9_finds 86 = .ok (.iconst 2, 1) := by decide +kernel
theorem dX9_finds_87 : decode cX9_finds 87 = .ok (.invokevirtual 65, 3) := by decide +kernel
theorem dX9_finds_90 : decode cX9_finds 90 = .ok (.aload_n 0, 1) := by decide +kernel
theorem dX9_finds_91 : decode cX9_finds 91 = .ok (.getfield 22, 3) := by decide +kernel
theorem dX9_finds_94 : decode cX9_finds 94 = .ok (.aload_n 0, 1) := by decide +kernel
theorem dX9_finds_95 : decode cX9_finds 95 = .ok (.iload_n 3, 1) := by decide +kernel
theorem dX9_finds_96 : decode cX9_finds 96 = .ok (.iconst 0, 1) := by decide +kernel
theorem dX9_finds_97 : decode cX9_finds 97 = .ok (.invokevirtual 65, 3) := by decide +kernel
theorem dX9_finds_100 : decode cX9_finds 100 = .ok (.iaload, 1) := by decide +kernel
theorem dX9_finds_101 : decode cX9_finds 101 = .ok (.if_icmp .lt 15, 3) := by decide +kernel
theorem dX9_finds_104 : decode cX9_finds 104 = .ok (.aload_n 0, 1) := by decide +kernel
theorem dX9_finds_105 : decode cX9_finds 105 = .ok (.getfield 25, 3) := by decide +kernel
theorem dX9_finds_108 : decode cX9_finds 108 = .ok (.iload_n 2, 1) := by decide +kernel
theorem dX9_finds_109 : decode cX9_finds 109 = .ok (.aload_n 0, 1) := by decide +kernel
theorem dX9_finds_110 : decode cX9_finds 110 = .ok (.iload_n 3, 1) := by decide +kernel
theorem dX9_finds_111 : decode cX9_finds 111 = .ok (.iconst 3, 1) := by decide +kernel
theorem dX9_finds_112 : decode cX9_finds 112 = .ok (.invokevirtual 65, 3) := by decide +kernel
theorem dX9_finds_115 : decode cX9_finds 115 = .ok (.iastore, 1) := by decide +kernel
theorem dX9_finds_116 : decode cX9_finds 116 = .ok (.iinc 3 1, 3) := by decide +kernel
theorem dX9_finds_119 : decode cX9_finds 119 = .ok (.goto (-80), 3) := by decide +kernel
theorem dX9_finds_122 : decode cX9_finds 122 = .ok (.iinc 2 1, 3) := by decide +kernel
theorem dX9_finds_125 : decode cX9_finds 125 = .ok (.goto (-110), 3) := by decide +kernel
theorem dX9_finds_128 : decode cX9_finds 128 = .ok (.iconst 0, 1) := by decide +kernel
theorem dX9_finds_129 : decode cX9_finds 129 = .ok (.istore_n 2, 1) := by decide +kernel
theorem dX9_finds_130 : decode cX9_finds 130 = .ok (.iload_n 2, 1) := by decide +kernel
theorem dX9_finds_131 : decode cX9_finds 131 = .ok (.aload_n 0, 1) := by decide +kernel
theorem dX9_finds_132 : decode cX9_finds 132 = .ok (.getfield 13, 3) := by decide +kernel
theorem dX9_finds_135 : decode cX9_finds 135 = .ok (.iconst 0, 1) := by decide +kernel
theorem dX9_finds_136 : decode cX9_finds 136 = .ok (.iaload, 1) := by decide +kernel
theorem dX9_finds_137 : decode cX9_finds 137 = .ok (.if_icmp .ge 46, 3) := by decide +kernel
theorem dX9_finds_140 : decode cX9_finds 140 = .ok (.iload_n 1, 1) := by decide +kernel
theorem dX9_finds_141 : decode cX9_finds 141 = .ok (.ifCond .ne 18, 3) := by decide +kernel
theorem dX9_finds_144 : decode cX9_finds 144 = .ok (.aload_n 0, 1) := by decide +kernel
theorem dX9_finds_145 : decode cX9_finds 145 = .ok (.getfield 25, 3) := by decide +kernel
theorem dX9_finds_148 : decode cX9_finds 148 = .ok (.iload_n 2, 1) := by decide +kernel
theorem dX9_finds_149 : decode cX9_finds 149 = .ok (.iaload, 1) := by decide +kernel
theorem dX9_finds_150 : decode cX9_finds 150 = .ok (.aload_n 0, 1) := by decide +kernel
theorem dX9_finds_151 : decode cX9_finds 151 = .ok (.getfield 22, 3) := by decide +kernel
theorem dX9_finds_154 : decode cX9_finds 154 = .ok (.iload_n 2, 1) := by decide +kernel
theorem dX9_finds_155 : decode cX9_finds 155 = .ok (.iaload, 1) := by decide +kernel
theorem dX9_finds_156 : decode cX9_finds 156 = .ok (.if_icmp .ge 7, 3) := by decide +kernel
theorem dX9_finds_159 : decode cX9_finds 159 = .ok (.iconst 1, 1) := by decide +kernel
theorem dX9_finds_160 : decode cX9_finds 160 = .ok (.goto 4, 3) := by decide +kernel
theorem dX9_finds_163 : decode cX9_finds 163 = .ok (.iconst 0, 1) := by decide +kernel
theorem dX9_finds_164 : decode cX9_finds 164 = .ok (.istore_n 1, 1) := by decide +kernel
theorem dX9_finds_165 : decode cX9_finds 165 = .ok (.aload_n 0, 1) := by decide +kernel
theorem dX9_finds_166 : decode cX9_finds 166 = .ok (.getfield 22, 3) := by decide +kernel
theorem dX9_finds_169 : decode cX9_finds 169 = .ok (.iload_n 2, 1) := by decide +kernel
theorem dX9_finds_170 : decode cX9_finds 170 = .ok (.aload_n 0, 1) := by decide +kernel
theorem dX9_finds_171 : decode cX9_finds 171 = .ok (.getfield 25, 3) := by decide +kernel
theorem dX9_finds_174 : decode cX9_finds 174 = .ok (.iload_n 2, 1) := by decide +kernel
theorem dX9_finds_175 : decode cX9_finds 175 = .ok (.iaload, 1) := by decide +kernel
theorem dX9_finds_176 : decode cX9_finds 176 = .ok (.iastore, 1) := by decide +kernel
theorem dX9_finds_177 : decode cX9_finds 177 = .ok (.iinc 2 1, 3) := by decide +kernel
theorem dX9_finds_180 : decode cX9_finds 180 = .ok (.goto (-50), 3) := by decide +kernel
theorem dX9_finds_183 : decode cX9_finds 183 = .ok (.aload_n 0, 1) := by decide +kernel
theorem dX9_finds_184 : decode cX9_finds 184 = .ok (.dup, 1) := by decide +kernel
theorem dX9_finds_185 : decode cX9_finds 185 = .ok (.getfield 114, 3) := by decide +kernel
theorem dX9_finds_188 : decode cX9_finds 188 = .ok (.iload_n 1, 1) := by decide +kernel
theorem dX9_finds_189 : decode cX9_finds 189 = .ok (.ifCond .eq 7, 3) := by decide +kernel
theorem dX9_finds_192 : decode cX9_finds 192 = .ok (.iconst 1, 1) := by decide +kernel
theorem dX9_finds_193 : decode cX9_finds 193 = .ok (.goto 4, 3) := by decide +kernel
theorem dX9_finds_196 : decode cX9_finds 196 = .ok (.iconst 0, 1) := by decide +kernel
theorem dX9_finds_197 : decode cX9_finds 197 = .ok (.iadd, 1) := by decide +kernel
theorem dX9_finds_198 : decode cX9_finds 198 = .ok (.putfield 114, 3) := by decide +kernel
theorem dX9_finds_201 : decode cX9_finds 201 = .ok (.goto (-194), 3) := by decide +kernel
theorem dX9_finds_204 : decode cX9_finds 204 = .ok (.return_, 1) := by decide +kernel
theorem dX9_fails_0 : decode cX9_fails 0 = .ok (.iconst 0, 1) := by decide +kernel
theorem dX9_fails_1 : decode cX9_fails 1 = .ok (.istore_n 2, 1) := by decide +kernel
theorem dX9_fails_2 : decode cX9_fails 2 = .ok (.iload_n 2, 1) := by decide +kernel
theorem dX9_fails_3 : decode cX9_fails 3 = .ok (.aload_n 0, 1) := by decide +kernel
theorem dX9_fails_4 : decode cX9_fails 4 = .ok (.getfield 13, 3) := by decide +kernel
theorem dX9_fails_7 : decode cX9_fails 7 = .ok (.iconst 0, 1) := by decide +kernel
theorem dX9_fails_8 : decode cX9_fails 8 = .ok (.iaload, 1) := by decide +kernel
theorem dX9_fails_9 : decode cX9_fails 9 = .ok (.if_icmp .ge 30, 3) := by decide +kernel
theorem dX9_fails_12 : decode cX9_fails 12 = .ok (.aload_n 0, 1) := by decide +kernel
theorem dX9_fails_13 : decode cX9_fails 13 = .ok (.getfield 22, 3) := by decide +kernel
theorem dX9_fails_16 : decode cX9_fails 16 = .ok (.iload_n 2, 1) := by decide +kernel
theorem dX9_fails_17 : decode cX9_fails 17 = .ok (.aload_n 0, 1) := by decide +kernel
theorem dX9_fails_18 : decode cX9_fails 18 = .ok (.getfield 13, 3) := by decide +kernel
theorem dX9_fails_21 : decode cX9_fails 21 = .ok (.bipush 10, 2) := by decide +kernel
theorem dX9_fails_23 : decode cX9_fails 23 = .ok (.iload_n 2, 1) := by decide +kernel
theorem dX9_fails_24 : decode cX9_fails 24 = .ok (.iadd, 1) := by decide +kernel
theorem dX9_fails_25 : decode cX9_fails 25 = .ok (.iaload, 1) := by decide +kernel
theorem dX9_fails_26 : decode cX9_fails 26 = .ok (.iload_n 1, 1) := by decide +kernel
theorem dX9_fails_27 : decode cX9_fails 27 = .ok (.iload_n 2, 1) := by decide +kernel
theorem dX9_fails_28 : decode cX9_fails 28 = .ok (.ishr, 1) := by decide +kernel
theorem dX9_fails_29 : decode cX9_fails 29 = .ok (.iconst 1, 1) := by decide +kernel
theorem dX9_fails_30 : decode cX9_fails 30 = .ok (.iand, 1) := by decide +kernel
theorem dX9_fails_31 : decode cX9_fails 31 = .ok (.isub, 1) := by decide +kernel
theorem dX9_fails_32 : decode cX9_fails 32 = .ok (.iastore, 1) := by decide +kernel
theorem dX9_fails_33 : decode cX9_fails 33 = .ok (.iinc 2 1, 3) := by decide +kernel
theorem dX9_fails_36 : decode cX9_fails 36 = .ok (.goto (-34), 3) := by decide +kernel
theorem dX9_fails_39 : decode cX9_fails 39 = .ok (.aload_n 0, 1) := by decide +kernel
theorem dX9_fails_40 : decode cX9_fails 40 = .ok (.invokevirtual 117, 3) := by decide +kernel
theorem dX9_fails_43 : decode cX9_fails 43 = .ok (.return_, 1) := by decide +kernel
theorem dX9_isSet_0 : decode cX9_isSet 0 = .ok (.iload_n 1, 1) := by decide +kernel
theorem dX9_isSet_1 : decode cX9_isSet 1 = .ok (.iload_n 2, 1) := by decide +kernel
theorem dX9_isSet_2 : decode cX9_isSet 2 = .ok (.iconst 1, 1) := by decide +kernel
theorem dX9_isSet_3 : decode cX9_isSet 3 = .ok (.aload_n 0, 1) := by decide +kernel
theorem dX9_isSet_4 : decode cX9_isSet 4 = .ok (.getfield 13, 3) := by decide +kernel
theorem dX9_isSet_7 : decode cX9_isSet 7 = .ok (.iconst 0, 1) := by decide +kernel
theorem dX9_isSet_8 : decode cX9_isSet 8 = .ok (.iaload, 1) := by decide +kernel
theorem dX9_isSet_9 : decode cX9_isSet 9 = .ok (.ishl, 1) := by decide +kernel
theorem dX9_isSet_10 : decode cX9_isSet 10 = .ok (.iconst 1, 1) := by decide +kernel
theorem dX9_isSet_11 : decode cX9_isSet 11 = .ok (.isub, 1) := by decide +kernel
theorem dX9_isSet_12 : decode cX9_isSet 12 = .ok (.invokestatic 50, 3) := by decide +kernel
theorem dX9_isSet_15 : decode cX9_isSet 15 = .ok (.ireturn, 1) := by decide +kernel
theorem dX9_goesBack_0 : decode cX9_goesBack 0 = .ok (.aload_n 0, 1) := by decide +kernel
theorem dX9_goesBack_1 : decode cX9_goesBack 1 = .ok (.getfield 22, 3) := by decide +kernel
theorem dX9_goesBack_4 : decode cX9_goesBack 4 = .ok (.iload_n 1, 1) := by decide +kernel
theorem dX9_goesBack_5 : decode cX9_goesBack 5 = .ok (.iaload, 1) := by decide +kernel
theorem dX9_goesBack_6 : decode cX9_goesBack 6 = .ok (.aload_n 0, 1) := by decide +kernel
theorem dX9_goesBack_7 : decode cX9_goesBack 7 = .ok (.getfield 13, 3) := by decide +kernel
theorem dX9_goesBack_10 : decode cX9_goesBack 10 = .ok (.bipush 10, 2) := by decide +kernel
theorem dX9_goesBack_12 : decode cX9_goesBack 12 = .ok (.iload_n 1, 1) := by decide +kernel
theorem dX9_goesBack_13 : decode cX9_goesBack 13 = .ok (.iadd, 1) := by decide +kernel
theorem dX9_goesBack_14 : decode cX9_goesBack 14 = .ok (.iaload, 1) := by decide +kernel
theorem dX9_goesBack_15 : decode cX9_goesBack 15 = .ok (.if_icmp .ge 7, 3) := by decide +kernel
theorem dX9_goesBack_18 : decode cX9_goesBack 18 = .ok (.iconst 1, 1) := by decide +kernel
theorem dX9_goesBack_19 : decode cX9_goesBack 19 = .ok (.goto 4, 3) := by decide +kernel
theorem dX9_goesBack_22 : decode cX9_goesBack 22 = .ok (.iconst 0, 1) := by decide +kernel
theorem dX9_goesBack_23 : decode cX9_goesBack 23 = .ok (.ireturn, 1) := by decide +kernel
theorem dX9_isGoneBy_0 : decode cX9_isGoneBy 0 = .ok (.aload_n 0, 1) := by decide +kernel
theorem dX9_isGoneBy_1 : decode cX9_isGoneBy 1 = .ok (.iload_n 1, 1) := by decide +kernel
theorem dX9_isGoneBy_2 : decode cX9_isGoneBy 2 = .ok (.iconst 5, 1) := by decide +kernel
theorem dX9_isGoneBy_3 : decode cX9_isGoneBy 3 = .ok (.invokevirtual 65, 3) := by decide +kernel
theorem dX9_isGoneBy_6 : decode cX9_isGoneBy 6 = .ok (.iconst 2, 1) := by decide +kernel
theorem dX9_isGoneBy_7 : decode cX9_isGoneBy 7 = .ok (.if_icmp .ge 40, 3) := by decide +kernel
theorem dX9_isGoneBy_10 : decode cX9_isGoneBy 10 = .ok (.aload_n 0, 1) := by decide +kernel
theorem dX9_isGoneBy_11 : decode cX9_isGoneBy 11 = .ok (.aload_n 0, 1) := by decide +kernel
theorem dX9_isGoneBy_12 : decode cX9_isGoneBy 12 = .ok (.iload_n 1, 1) := by decide +kernel
theorem dX9_isGoneBy_13 : decode cX9_isGoneBy 13 = .ok (.iconst 0, 1) := by decide +kernel
theorem dX9_isGoneBy_14 : decode cX9_isGoneBy 14 = .ok (.invokevirtual 65, 3) := by decide +kernel
theorem dX9_isGoneBy_17 : decode cX9_isGoneBy 17 = .ok (.invokevirtual 120, 3) := by decide +kernel
theorem dX9_isGoneBy_20 : decode cX9_isGoneBy 20 = .ok (.ifCond .eq 27, 3) := by decide +kernel
theorem dX9_isGoneBy_23 : decode cX9_isGoneBy 23 = .ok (.aload_n 0, 1) := by decide +kernel
theorem dX9_isGoneBy_24 : decode cX9_isGoneBy 24 = .ok (.iload_n 1, 1) := by decide +kernel
theorem dX9_isGoneBy_25 : decode cX9_isGoneBy 25 = .ok (.iconst 2, 1) := by decide +kernel
theorem dX9_isGoneBy_26 : decode cX9_isGoneBy 26 = .ok (.invokevirtual 65, 3) := by decide +kernel
theorem dX9_isGoneBy_29 : decode cX9_isGoneBy 29 = .ok (.aload_n 0, 1) := by decide +kernel
theorem dX9_isGoneBy_30 : decode cX9_isGoneBy 30 = .ok (.getfield 22, 3) := by decide +kernel
theorem dX9_isGoneBy_33 : decode cX9_isGoneBy 33 = .ok (.aload_n 0, 1) := by decide +kernel
theorem dX9_isGoneBy_34 : decode cX9_isGoneBy 34 = .ok (.iload_n 1, 1) := by decide +kernel
theorem dX9_isGoneBy_35 : decode cX9_isGoneBy 35 = .ok (.iconst 0, 1) := by decide +kernel
theorem dX9_isGoneBy_36 : decode cX9_isGoneBy 36 = .ok (.invokevirtual 65, 3) := by decide +kernel
theorem dX9_isGoneBy_39 : decode cX9_isGoneBy 39 = .ok (.iaload, 1) := by decide +kernel
theorem dX9_isGoneBy_40 : decode cX9_isGoneBy 40 = .ok (.if_icmp .lt 7, 3) := by decide +kernel
theorem dX9_isGoneBy_43 : decode cX9_isGoneBy 43 = .ok (.iconst 1, 1) := by decide +kernel
theorem dX9_isGoneBy_44 : decode cX9_isGoneBy 44 = .ok (.goto 4, 3) := by decide +kernel
theorem dX9_isGoneBy_47 : decode cX9_isGoneBy 47 = .ok (.iconst 0, 1) := by decide +kernel
theorem dX9_isGoneBy_48 : decode cX9_isGoneBy 48 = .ok (.ireturn, 1) := by decide +kernel
theorem dX9_isAgain_0 : decode cX9_isAgain 0 = .ok (.aload_n 0, 1) := by decide +kernel
theorem dX9_isAgain_1 : decode cX9_isAgain 1 = .ok (.iload_n 1, 1) := by decide +kernel
theorem dX9_isAgain_2 : decode cX9_isAgain 2 = .ok (.iconst 5, 1) := by decide +kernel
theorem dX9_isAgain_3 : decode cX9_isAgain 3 = .ok (.invokevirtual 65, 3) := by decide +kernel
theorem dX9_isAgain_6 : decode cX9_isAgain 6 = .ok (.iconst 1, 1) := by decide +kernel
theorem dX9_isAgain_7 : decode cX9_isAgain 7 = .ok (.if_icmp .ne 48, 3) := by decide +kernel
theorem dX9_isAgain_10 : decode cX9_isAgain 10 = .ok (.aload_n 0, 1) := by decide +kernel
theorem dX9_isAgain_11 : decode cX9_isAgain 11 = .ok (.iload_n 1, 1) := by decide +kernel
theorem dX9_isAgain_12 : decode cX9_isAgain 12 = .ok (.invokevirtual 123, 3) := by decide +kernel
theorem dX9_isAgain_15 : decode cX9_isAgain 15 = .ok (.ifCond .ne 40, 3) := by decide +kernel
theorem dX9_isAgain_18 : decode cX9_isAgain 18 = .ok (.aload_n 0, 1) := by decide +kernel
theorem dX9_isAgain_19 : decode cX9_isAgain 19 = .ok (.aload_n 0, 1) := by decide +kernel
theorem dX9_isAgain_20 : decode cX9_isAgain 20 = .ok (.iload_n 1, 1) := by decide +kernel
theorem dX9_isAgain_21 : decode cX9_isAgain 21 = .ok (.iconst 1, 1) := by decide +kernel
theorem dX9_isAgain_22 : decode cX9_isAgain 22 = .ok (.invokevirtual 65, 3) := by decide +kernel
theorem dX9_isAgain_25 : decode cX9_isAgain 25 = .ok (.invokevirtual 120, 3) := by decide +kernel
theorem dX9_isAgain_28 : decode cX9_isAgain 28 = .ok (.ifCond .eq 27, 3) := by decide +kernel
theorem dX9_isAgain_31 : decode cX9_isAgain 31 = .ok (.aload_n 0, 1) := by decide +kernel
theorem dX9_isAgain_32 : decode cX9_isAgain 32 = .ok (.iload_n 1, 1) := by decide +kernel
theorem dX9_isAgain_33 : decode cX9_isAgain 33 = .ok (.iconst 3, 1) := by decide +kernel
theorem dX9_isAgain_34 : decode cX9_isAgain 34 = .ok (.invokevirtual 65, 3) := by decide +kernel
theorem dX9_isAgain_37 : decode cX9_isAgain 37 = .ok (.aload_n 0, 1) := by decide +kernel
theorem dX9_isAgain_38 : decode cX9_isAgain 38 = .ok (.getfield 22, 3) := by decide +kernel
theorem dX9_isAgain_41 : decode cX9_isAgain 41 = .ok (.aload_n 0, 1) := by decide +kernel
theorem dX9_isAgain_42 : decode cX9_isAgain 42 = .ok (.iload_n 1, 1) := by decide +kernel
theorem dX9_isAgain_43 : decode cX9_isAgain 43 = .ok (.iconst 1, 1) := by decide +kernel
theorem dX9_isAgain_44 : decode cX9_isAgain 44 = .ok (.invokevirtual 65, 3) := by decide +kernel
theorem dX9_isAgain_47 : decode cX9_isAgain 47 = .ok (.iaload, 1) := by decide +kernel
theorem dX9_isAgain_48 : decode cX9_isAgain 48 = .ok (.if_icmp .lt 7, 3) := by decide +kernel
theorem dX9_isAgain_51 : decode cX9_isAgain 51 = .ok (.iconst 1, 1) := by decide +kernel
theorem dX9_isAgain_52 : decode cX9_isAgain 52 = .ok (.goto 4, 3) := by decide +kernel
theorem dX9_isAgain_55 : decode cX9_isAgain 55 = .ok (.iconst 0, 1) := by decide +kernel
theorem dX9_isAgain_56 : decode cX9_isAgain 56 = .ok (.ireturn, 1) := by decide +kernel
theorem dX9_line_0 : decode cX9_line 0 = .ok (.aload_n 0, 1) := by decide +kernel
theorem dX9_line_1 : decode cX9_line 1 = .ok (.iload_n 1, 1) := by decide +kernel
theorem dX9_line_2 : decode cX9_line 2 = .ok (.iconst 0, 1) := by decide +kernel
theorem dX9_line_3 : decode cX9_line 3 = .ok (.invokevirtual 126, 3) := by decide +kernel
theorem dX9_line_6 : decode cX9_line 6 = .ok (.ifCond .eq 11, 3) := by decide +kernel
theorem dX9_line_9 : decode cX9_line 9 = .ok (.aload_n 0, 1) := by decide +kernel
theorem dX9_line_10 : decode cX9_line 10 = .ok (.iload_n 2, 1) := by decide +kernel
theorem dX9_line_11 : decode cX9_line 11 = .ok (.invokevirtual 54, 3) := by decide +kernel
theorem dX9_line_14 : decode cX9_line 14 = .ok (.ifCond .ne 5, 3) := by decide +kernel
theorem dX9_line_17 : decode cX9_line 17 = .ok (.iconst (-1), 1) := by decide +kernel
theorem dX9_line_18 : decode cX9_line 18 = .ok (.ireturn, 1) := by decide +kernel
theorem dX9_line_19 : decode cX9_line 19 = .ok (.aload_n 0, 1) := by decide +kernel
theorem dX9_line_20 : decode cX9_line 20 = .ok (.iload_n 1, 1) := by decide +kernel
theorem dX9_line_21 : decode cX9_line 21 = .ok (.invokevirtual 130, 3) := by decide +kernel
theorem dX9_line_24 : decode cX9_line 24 = .ok (.aload_n 0, 1) := by decide +kernel
theorem dX9_line_25 : decode cX9_line 25 = .ok (.getfield 22, 3) := by decide +kernel
theorem dX9_line_28 : decode cX9_line 28 = .ok (.iload_n 2, 1) := by decide +kernel
theorem dX9_line_29 : decode cX9_line 29 = .ok (.iaload, 1) := by decide +kernel
theorem dX9_line_30 : decode cX9_line 30 = .ok (.ireturn, 1) := by decide +kernel
theorem dX9_back_0 : decode cX9_back 0 = .ok (.aload_n 0, 1) := by decide +kernel
theorem dX9_back_1 : decode cX9_back 1 = .ok (.iload_n 1, 1) := by decide +kernel
theorem dX9_back_2 : decode cX9_back 2 = .ok (.iconst 0, 1) := by decide +kernel
theorem dX9_back_3 : decode cX9_back 3 = .ok (.invokevirtual 126, 3) := by decide +kernel
theorem dX9_back_6 : decode cX9_back 6 = .ok (.ifCond .eq 12, 3) := by decide +kernel
theorem dX9_back_9 : decode cX9_back 9 = .ok (.iload_n 2, 1) := by decide +kernel
theorem dX9_back_10 : decode cX9_back 10 = .ok (.iconst 0, 1) := by decide +kernel
theorem dX9_back_11 : decode cX9_back 11 = .ok (.iconst 4, 1) := by decide +kernel
theorem dX9_back_12 : decode cX9_back 12 = .ok (.invokestatic 50, 3) := by decide +kernel
theorem dX9_back_15 : decode cX9_back 15 = .ok (.ifCond .ne 5, 3) := by decide +kernel
theorem dX9_back_18 : decode cX9_back 18 = .ok (.iconst (-1), 1) := by decide +kernel
theorem dX9_back_19 : decode cX9_back 19 = .ok (.ireturn, 1) := by decide +kernel
theorem dX9_back_20 : decode cX9_back 20 = .ok (.aload_n 0, 1) := by decide +kernel
theorem dX9_back_21 : decode cX9_back 21 = .ok (.iload_n 1, 1) := by decide +kernel
theorem dX9_back_22 : decode cX9_back 22 = .ok (.invokevirtual 130, 3) := by decide +kernel
theorem dX9_back_25 : decode cX9_back 25 = .ok (.iconst 0, 1) := by decide +kernel
theorem dX9_back_26 : decode cX9_back 26 = .ok (.istore_n 3, 1) := by decide +kernel
theorem dX9_back_27 : decode cX9_back 27 = .ok (.iconst 0, 1) := by decide +kernel
theorem dX9_back_28 : decode cX9_back 28 = .ok (.istore 4, 2) := by decide +kernel
theorem dX9_back_30 : decode cX9_back 30 = .ok (.iconst 0, 1) := by decide +kernel
theorem dX9_back_31 : decode cX9_back 31 = .ok (.istore 5, 2) := by decide +kernel
theorem dX9_back_33 : decode cX9_back 33 = .ok (.iconst 0, 1) := by decide +kernel
theorem dX9_back_34 : decode cX9_back 34 = .ok (.istore 6, 2) := by decide +kernel
theorem dX9_back_36 : decode cX9_back 36 = .ok (.iconst 0, 1) := by decide +kernel
theorem dX9_back_37 : decode cX9_back 37 = .ok (.istore 7, 2) := by decide +kernel
theorem dX9_back_39 : decode cX9_back 39 = .ok (.iload 7, 2) := by decide +kernel
theorem dX9_back_41 : decode cX9_back 41 = .ok (.aload_n 0, 1) := by decide +kernel
theorem dX9_back_42 : decode cX9_back 42 = .ok (.getfield 13, 3) := by decide +kernel
theorem dX9_back_45 : decode cX9_back 45 = .ok (.iconst 0, 1) := by decide +kernel
theorem dX9_back_46 : decode cX9_back 46 = .ok (.iaload, 1) := by decide +kernel
theorem dX9_back_47 : decode cX9_back 47 = .ok (.if_icmp .ge 77, 3) := by decide +kernel
theorem dX9_back_50 : decode cX9_back 50 = .ok (.iload_n 3, 1) := by decide +kernel
theorem dX9_back_51 : decode cX9_back 51 = .ok (.aload_n 0, 1) := by decide +kernel
theorem dX9_back_52 : decode cX9_back 52 = .ok (.iload 7, 2) := by decide +kernel
theorem dX9_back_54 : decode cX9_back 54 = .ok (.invokevirtual 120, 3) := by decide +kernel
theorem dX9_back_57 : decode cX9_back 57 = .ok (.ifCond .eq 26, 3) := by decide +kernel
theorem dX9_back_60 : decode cX9_back 60 = .ok (.aload_n 0, 1) := by decide +kernel
theorem dX9_back_61 : decode cX9_back 61 = .ok (.getfield 13, 3) := by decide +kernel
theorem dX9_back_64 : decode cX9_back 64 = .ok (.bipush 10, 2) := by decide +kernel
theorem dX9_back_66 : decode cX9_back 66 = .ok (.iload 7, 2) := by decide +kernel
theorem dX9_back_68 : decode cX9_back 68 = .ok (.iadd, 1) := by decide +kernel
theorem dX9_back_69 : decode cX9_back 69 = .ok (.iaload, 1) := by decide +kernel
theorem dX9_back_70 : decode cX9_back 70 = .ok (.iconst 1, 1) := by decide +kernel
theorem dX9_back_71 : decode cX9_back 71 = .ok (.isub, 1) := by decide +kernel
theorem dX9_back_72 : decode cX9_back 72 = .ok (.aload_n 0, 1) := by decide +kernel
theorem dX9_back_73 : decode cX9_back 73 = .ok (.getfield 22, 3) := by decide +kernel
theorem dX9_back_76 : decode cX9_back 76 = .ok (.iload 7, 2) := by decide +kernel
theorem dX9_back_78 : decode cX9_back 78 = .ok (.iaload, 1) := by decide +kernel
theorem dX9_back_79 : decode cX9_back 79 = .ok (.isub, 1) := by decide +kernel
theorem dX9_back_80 : decode cX9_back 80 = .ok (.goto 4, 3) := by decide +kernel
theorem dX9_back_83 : decode cX9_back 83 = .ok (.iconst 0, 1) := by decide +kernel
theorem dX9_back_84 : decode cX9_back 84 = .ok (.iadd, 1) := by decide +kernel
theorem dX9_back_85 : decode cX9_back 85 = .ok (.istore_n 3, 1) := by decide +kernel
theorem dX9_back_86 : decode cX9_back 86 = .ok (.aload_n 0, 1) := by decide +kernel
theorem dX9_back_87 : decode cX9_back 87 = .ok (.getfield 22, 3) := by decide +kernel
theorem dX9_back_90 : decode cX9_back 90 = .ok (.iload 7, 2) := by decide +kernel
theorem dX9_back_92 : decode cX9_back 92 = .ok (.iaload, 1) := by decide +kernel
theorem dX9_back_93 : decode cX9_back 93 = .ok (.ifCond .ne 21, 3) := by decide +kernel
theorem dX9_back_96 : decode cX9_back 96 = .ok (.aload_n 0, 1) := by decide +kernel
theorem dX9_back_97 : decode cX9_back 97 = .ok (.getfield 13, 3) := by decide +kernel
theorem dX9_back_100 : decode cX9_back 100 = .ok (.bipush 10, 2) := by decide +kernel
theorem dX9_back_102 : decode cX9_back 102 = .ok (.iload 7, 2) := by decide +kernel
theorem dX9_back_104 : decode cX9_back 104 = .ok (.iadd, 1) := by decide +kernel
theorem dX9_back_105 : decode cX9_back 105 = .ok (.iaload, 1) := by decide +kernel
theorem dX9_back_106 : decode cX9_back 106 = .ok (.iconst 1, 1) := by decide +kernel
theorem dX9_back_107 : decode cX9_back 107 = .ok (.if_icmp .le 7, 3) := by decide +kernel
theorem dX9_back_110 : decode cX9_back 110 = .ok (.iconst 1, 1) := by decide +kernel
theorem dX9_back_111 : decode cX9_back 111 = .ok (.goto 5, 3) := by decide +kernel
theorem dX9_back_114 : decode cX9_back 114 = .ok (.iload 6, 2) := by decide +kernel
theorem dX9_back_116 : decode cX9_back 116 = .ok (.istore 6, 2) := by decide +kernel
theorem dX9_back_118 : decode cX9_back 118 = .ok (.iinc 7 1, 3) := by decide +kernel
theorem dX9_back_121 : decode cX9_back 121 = .ok (.goto (-82), 3) := by decide +kernel
theorem dX9_back_124 : decode cX9_back 124 = .ok (.iconst 0, 1) := by decide +kernel
theorem dX9_back_125 : decode cX9_back 125 = .ok (.istore 7, 2) := by decide +kernel
theorem dX9_back_127 : decode cX9_back 127 = .ok (.iload 7, 2) := by decide +kernel
theorem dX9_back_129 : decode cX9_back 129 = .ok (.aload_n 0, 1) := by decide +kernel
theorem dX9_back_130 : decode cX9_back 130 = .ok (.getfield 13, 3) := by decide +kernel
theorem dX9_back_133 : decode cX9_back 133 = .ok (.iconst 2, 1) := by decide +kernel
theorem dX9_back_134 : decode cX9_back 134 = .ok (.iaload, 1) := by decide +kernel
theorem dX9_back_135 : decode cX9_back 135 = .ok (.if_icmp .ge 47, 3) := by decide +kernel
theorem dX9_back_138 : decode cX9_back 138 = .ok (.iload 4, 2) := by decide +kernel
theorem dX9_back_140 : decode cX9_back 140 = .ok (.aload_n 0, 1) := by decide +kernel
theorem dX9_back_141 : decode cX9_back 141 = .ok (.iload 7, 2) := by decide +kernel
theorem dX9_back_143 : decode cX9_back 143 = .ok (.invokevirtual 123, 3) := by decide +kernel
theorem dX9_back_146 : decode cX9_back 146 = .ok (.ifCond .eq 7, 3) := by decide +kernel
theorem dX9_back_149 : decode cX9_back 149 = .ok (.iconst 1, 1) := by decide +kernel
theorem dX9_back_150 : decode cX9_back 150 = .ok (.goto 4, 3) := by decide +kernel
theorem dX9_back_153 : decode cX9_back 153 = .ok (.iconst 0, 1) := by decide +kernel
theorem dX9_back_154 : decode cX9_back 154 = .ok (.iadd, 1) := by decide +kernel
theorem dX9_back_155 : decode cX9_back 155 = .ok (.istore 4, 2) := by decide +kernel
theorem dX9_back_157 : decode cX9_back 157 = .ok (.iload 5, 2) := by decide +kernel
theorem dX9_back_159 : decode cX9_back 159 = .ok (.aload_n 0, 1) := by decide +kernel
theorem dX9_back_160 : decode cX9_back 160 = .ok (.iload 7, 2) := by decide +kernel
theorem dX9_back_162 : decode cX9_back 162 = .ok (.invokevirtual 133, 3) := by decide +kernel
theorem dX9_back_165 : decode cX9_back 165 = .ok (.ifCond .eq 7, 3) := by decide +kernel
theorem dX9_back_168 : decode cX9_back 168 = .ok (.iconst 1, 1) := by decide +kernel
theorem dX9_back_169 : decode cX9_back 169 = .ok (.goto 4, 3) := by decide +kernel
theorem dX9_back_172 : decode cX9_back 172 = .ok (.iconst 0, 1) := by decide +kernel
theorem dX9_back_173 : decode cX9_back 173 = .ok (.iadd, 1) := by decide +kernel
theorem dX9_back_174 : decode cX9_back 174 = .ok (.istore 5, 2) := by decide +kernel
theorem dX9_back_176 : decode cX9_back 176 = .ok (.iinc 7 1, 3) := by decide +kernel
theorem dX9_back_179 : decode cX9_back 179 = .ok (.goto (-52), 3) := by decide +kernel
theorem dX9_back_182 : decode cX9_back 182 = .ok (.iload_n 2, 1) := by decide +kernel
theorem dX9_back_183 : decode cX9_back 183 = .ok (.ifCond .ne 10, 3) := by decide +kernel
theorem dX9_back_186 : decode cX9_back 186 = .ok (.aload_n 0, 1) := by decide +kernel
theorem dX9_back_187 : decode cX9_back 187 = .ok (.getfield 114, 3) := by decide +kernel
theorem dX9_back_190 : decode cX9_back 190 = .ok (.goto 34, 3) := by decide +kernel
theorem dX9_back_193 : decode cX9_back 193 = .ok (.iload_n 2, 1) := by decide +kernel
theorem dX9_back_194 : decode cX9_back 194 = .ok (.iconst 1, 1) := by decide +kernel
theorem dX9_back_195 : decode cX9_back 195 = .ok (.if_icmp .ne 7, 3) := by decide +kernel
theorem dX9_back_198 : decode cX9_back 198 = .ok (.iload_n 3, 1) := by decide +kernel
theorem dX9_back_199 : decode cX9_back 199 = .ok (.goto 25, 3) := by decide +kernel
theorem dX9_back_202 : decode cX9_back 202 = .ok (.iload_n 2, 1) := by decide +kernel
theorem dX9_back_203 : decode cX9_back 203 = .ok (.iconst 2, 1) := by decide +kernel
theorem dX9_back_204 : decode cX9_back 204 = .ok (.if_icmp .ne 8, 3) := by decide +kernel
theorem dX9_back_207 : decode cX9_back 207 = .ok (.iload 4, 2) := by decide +kernel
theorem dX9_back_209 : decode cX9_back 209 = .ok (.goto 15, 3) := by decide +kernel
theorem dX9_back_212 : decode cX9_back 212 = .ok (.iload_n 2, 1) := by decide +kernel
theorem dX9_back_213 : decode cX9_back 213 = .ok (.iconst 3, 1) := by decide +kernel
theorem dX9_back_214 : decode cX9_back 214 = .ok (.if_icmp .ne 8, 3) := by decide +kernel
theorem dX9_back_217 : decode cX9_back 217 = .ok (.iload 5, 2) := by decide +kernel
theorem dX9_back_219 : decode cX9_back 219 = .ok (.goto 5, 3) := by decide +kernel
theorem dX9_back_222 : decode cX9_back 222 = .ok (.iload 6, 2) := by decide +kernel
theorem dX9_back_224 : decode cX9_back 224 = .ok (.ireturn, 1) := by decide +kernel
theorem dX9_fail_0 : decode cX9_fail 0 = .ok (.aload_n 0, 1) := by decide +kernel
theorem dX9_fail_1 : decode cX9_fail 1 = .ok (.iload_n 1, 1) := by decide +kernel
theorem dX9_fail_2 : decode cX9_fail 2 = .ok (.iconst 1, 1) := by decide +kernel
theorem dX9_fail_3 : decode cX9_fail 3 = .ok (.invokevirtual 126, 3) := by decide +kernel
theorem dX9_fail_6 : decode cX9_fail 6 = .ok (.ifCond .ne 5, 3) := by decide +kernel
theorem dX9_fail_9 : decode cX9_fail 9 = .ok (.iconst (-1), 1) := by decide +kernel
theorem dX9_fail_10 : decode cX9_fail 10 = .ok (.ireturn, 1) := by decide +kernel
theorem dX9_fail_11 : decode cX9_fail 11 = .ok (.aload_n 0, 1) := by decide +kernel
theorem dX9_fail_12 : decode cX9_fail 12 = .ok (.iload_n 1, 1) := by decide +kernel
theorem dX9_fail_13 : decode cX9_fail 13 = .ok (.invokevirtual 130, 3) := by decide +kernel
theorem dX9_fail_16 : decode cX9_fail 16 = .ok (.iconst 0, 1) := by decide +kernel
theorem dX9_fail_17 : decode cX9_fail 17 = .ok (.istore_n 2, 1) := by decide +kernel
theorem dX9_fail_18 : decode cX9_fail 18 = .ok (.iload_n 2, 1) := by decide +kernel
theorem dX9_fail_19 : decode cX9_fail 19 = .ok (.aload_n 0, 1) := by decide +kernel
theorem dX9_fail_20 : decode cX9_fail 20 = .ok (.getfield 13, 3) := by decide +kernel
theorem dX9_fail_23 : decode cX9_fail 23 = .ok (.iconst 2, 1) := by decide +kernel
theorem dX9_fail_24 : decode cX9_fail 24 = .ok (.iaload, 1) := by decide +kernel
theorem dX9_fail_25 : decode cX9_fail 25 = .ok (.if_icmp .ge 46, 3) := by decide +kernel
theorem dX9_fail_28 : decode cX9_fail 28 = .ok (.aload_n 0, 1) := by decide +kernel
theorem dX9_fail_29 : decode cX9_fail 29 = .ok (.iload_n 2, 1) := by decide +kernel
theorem dX9_fail_30 : decode cX9_fail 30 = .ok (.invokevirtual 133, 3) := by decide +kernel
theorem dX9_fail_33 : decode cX9_fail 33 = .ok (.ifCond .eq 13, 3) := by decide +kernel
theorem dX9_fail_36 : decode cX9_fail 36 = .ok (.aload_n 0, 1) := by decide +kernel
theorem dX9_fail_37 : decode cX9_fail 37 = .ok (.getfield 28, 3) := by decide +kernel
theorem dX9_fail_40 : decode cX9_fail 40 = .ok (.iload_n 2, 1) := by decide +kernel
theorem dX9_fail_41 : decode cX9_fail 41 = .ok (.iconst 1, 1) := by decide +kernel
theorem dX9_fail_42 : decode cX9_fail 42 = .ok (.iastore, 1) := by decide +kernel
theorem dX9_fail_43 : decode cX9_fail 43 = .ok (.goto 22, 3) := by decide +kernel
theorem dX9_fail_46 : decode cX9_fail 46 = .ok (.aload_n 0, 1) := by decide +kernel
theorem dX9_fail_47 : decode cX9_fail 47 = .ok (.getfield 28, 3) := by decide +kernel
theorem dX9_fail_50 : decode cX9_fail 50 = .ok (.iload_n 2, 1) := by decide +kernel
theorem dX9_fail_51 : decode cX9_fail 51 = .ok (.aload_n 0, 1) := by decide +kernel
theorem dX9_fail_52 : decode cX9_fail 52 = .ok (.iload_n 2, 1) := by decide +kernel
theorem dX9_fail_53 : decode cX9_fail 53 = .ok (.invokevirtual 123, 3) := by decide +kernel
theorem dX9_fail_56 : decode cX9_fail 56 = .ok (.ifCond .eq 7, 3) := by decide +kernel
theorem dX9_fail_59 : decode cX9_fail 59 = .ok (.iconst 2, 1) := by decide +kernel
theorem dX9_fail_60 : decode cX9_fail 60 = .ok (.goto 4, 3) := by decide +kernel
theorem dX9_fail_63 : decode cX9_fail 63 = .ok (.iconst 0, 1) := by decide +kernel
theorem dX9_fail_64 : decode cX9_fail 64 = .ok (.iastore, 1) := by decide +kernel
theorem dX9_fail_65 : decode cX9_fail 65 = .ok (.iinc 2 1, 3) := by decide +kernel
theorem dX9_fail_68 : decode cX9_fail 68 = .ok (.goto (-50), 3) := by decide +kernel
theorem dX9_fail_71 : decode cX9_fail 71 = .ok (.iconst 0, 1) := by decide +kernel
theorem dX9_fail_72 : decode cX9_fail 72 = .ok (.istore_n 2, 1) := by decide +kernel
theorem dX9_fail_73 : decode cX9_fail 73 = .ok (.iload_n 2, 1) := by decide +kernel
theorem dX9_fail_74 : decode cX9_fail 74 = .ok (.aload_n 0, 1) := by decide +kernel
theorem dX9_fail_75 : decode cX9_fail 75 = .ok (.getfield 13, 3) := by decide +kernel
theorem dX9_fail_78 : decode cX9_fail 78 = .ok (.iconst 2, 1) := by decide +kernel
theorem dX9_fail_79 : decode cX9_fail 79 = .ok (.iaload, 1) := by decide +kernel
theorem dX9_fail_80 : decode cX9_fail 80 = .ok (.if_icmp .ge 76, 3) := by decide +kernel
theorem dX9_fail_83 : decode cX9_fail 83 = .ok (.aload_n 0, 1) := by decide +kernel
theorem dX9_fail_84 : decode cX9_fail 84 = .ok (.getfield 28, 3) := by decide +kernel
theorem dX9_fail_87 : decode cX9_fail 87 = .ok (.iload_n 2, 1) := by decide +kernel
theorem dX9_fail_88 : decode cX9_fail 88 = .ok (.iaload, 1) := by decide +kernel
theorem dX9_fail_89 : decode cX9_fail 89 = .ok (.iconst 2, 1) := by decide +kernel
theorem dX9_fail_90 : decode cX9_fail 90 = .ok (.if_icmp .ne 35, 3) := by decide +kernel
theorem dX9_fail_93 : decode cX9_fail 93 = .ok (.aload_n 0, 1) := by decide +kernel
theorem dX9_fail_94 : decode cX9_fail 94 = .ok (.iload_n 2, 1) := by decide +kernel
theorem dX9_fail_95 : decode cX9_fail 95 = .ok (.iconst 5, 1) := by decide +kernel
theorem dX9_fail_96 : decode cX9_fail 96 = .ok (.invokevirtual 65, 3) := by decide +kernel
theorem dX9_fail_99 : decode cX9_fail 99 = .ok (.ifCond .ne 8, 3) := by decide +kernel
theorem dX9_fail_102 : decode cX9_fail 102 = .ok (.aload_n 0, 1) := by decide +kernel
theorem dX9_fail_103 : decode cX9_fail 103 = .ok (.iload_n 2, 1) := by decide +kernel
theorem dX9_fail_104 : decode cX9_fail 104 = .ok (.invokevirtual 79, 3) := by decide +kernel
theorem dX9_fail_107 : decode cX9_fail 107 = .ok (.aload_n 0, 1) := by decide +kernel
theorem dX9_fail_108 : decode cX9_fail 108 = .ok (.iload_n 2, 1) := by decide +kernel
theorem dX9_fail_109 : decode cX9_fail 109 = .ok (.iconst 5, 1) := by decide +kernel
theorem dX9_fail_110 : decode cX9_fail 110 = .ok (.iconst 2, 1) := by decide +kernel
theorem dX9_fail_111 : decode cX9_fail 111 = .ok (.invokevirtual 62, 3) := by decide +kernel
theorem dX9_fail_114 : decode cX9_fail 114 = .ok (.aload_n 0, 1) := by decide +kernel
theorem dX9_fail_115 : decode cX9_fail 115 = .ok (.iload_n 2, 1) := by decide +kernel
theorem dX9_fail_116 : decode cX9_fail 116 = .ok (.iconst 3, 1) := by decide +kernel
theorem dX9_fail_117 : decode cX9_fail 117 = .ok (.bipush (-4), 2) := by decide +kernel
theorem dX9_fail_119 : decode cX9_fail 119 = .ok (.invokevirtual 62, 3) := by decide +kernel
theorem dX9_fail_122 : decode cX9_fail 122 = .ok (.goto 28, 3) := by decide +kernel
theorem dX9_fail_125 : decode cX9_fail 125 = .ok (.aload_n 0, 1) := by decide +kernel
theorem dX9_fail_126 : decode cX9_fail 126 = .ok (.getfield 28, 3) := by decide +kernel
theorem dX9_fail_129 : decode cX9_fail 129 = .ok (.iload_n 2, 1) := by decide +kernel
theorem dX9_fail_130 : decode cX9_fail 130 = .ok (.iaload, 1) := by decide +kernel
theorem dX9_fail_131 : decode cX9_fail 131 = .ok (.iconst 1, 1) := by decide +kernel
theorem dX9_fail_132 : decode cX9_fail 132 = .ok (.if_icmp .ne 18, 3) := by decide +kernel
theorem dX9_fail_135 : decode cX9_fail 135 = .ok (.aload_n 0, 1) := by decide +kernel
theorem dX9_fail_136 : decode cX9_fail 136 = .ok (.iload_n 2, 1) := by decide +kernel
theorem dX9_fail_137 : decode cX9_fail 137 = .ok (.iconst 5, 1) := by decide +kernel
theorem dX9_fail_138 : decode cX9_fail 138 = .ok (.iconst 0, 1) := by decide +kernel
theorem dX9_fail_139 : decode cX9_fail 139 = .ok (.invokevirtual 62, 3) := by decide +kernel
theorem dX9_fail_142 : decode cX9_fail 142 = .ok (.aload_n 0, 1) := by decide +kernel
theorem dX9_fail_143 : decode cX9_fail 143 = .ok (.iload_n 2, 1) := by decide +kernel
theorem dX9_fail_144 : decode cX9_fail 144 = .ok (.iconst 3, 1) := by decide +kernel
theorem dX9_fail_145 : decode cX9_fail 145 = .ok (.bipush (-4), 2) := by decide +kernel
theorem dX9_fail_147 : decode cX9_fail 147 = .ok (.invokevirtual 62, 3) := by decide +kernel
theorem dX9_fail_150 : decode cX9_fail 150 = .ok (.iinc 2 1, 3) := by decide +kernel
theorem dX9_fail_153 : decode cX9_fail 153 = .ok (.goto (-80), 3) := by decide +kernel
theorem dX9_fail_156 : decode cX9_fail 156 = .ok (.iconst 0, 1) := by decide +kernel
theorem dX9_fail_157 : decode cX9_fail 157 = .ok (.istore_n 2, 1) := by decide +kernel
theorem dX9_fail_158 : decode cX9_fail 158 = .ok (.iload_n 2, 1) := by decide +kernel
theorem dX9_fail_159 : decode cX9_fail 159 = .ok (.aload_n 0, 1) := by decide +kernel
theorem dX9_fail_160 : decode cX9_fail 160 = .ok (.getfield 13, 3) := by decide +kernel
theorem dX9_fail_163 : decode cX9_fail 163 = .ok (.iconst 2, 1) := by decide +kernel
theorem dX9_fail_164 : decode cX9_fail 164 = .ok (.iaload, 1) := by decide +kernel
theorem dX9_fail_165 : decode cX9_fail 165 = .ok (.if_icmp .ge 45, 3) := by decide +kernel
theorem dX9_fail_168 : decode cX9_fail 168 = .ok (.aload_n 0, 1) := by decide +kernel
theorem dX9_fail_169 : decode cX9_fail 169 = .ok (.getfield 28, 3) := by decide +kernel
theorem dX9_fail_172 : decode cX9_fail 172 = .ok (.iload_n 2, 1) := by decide +kernel
theorem dX9_fail_173 : decode cX9_fail 173 = .ok (.iaload, 1) := by decide +kernel
theorem dX9_fail_174 : decode cX9_fail 174 = .ok (.iconst 1, 1) := by decide +kernel
theorem dX9_fail_175 : decode cX9_fail 175 = .ok (.if_icmp .ne 29, 3) := by decide +kernel
theorem dX9_fail_178 : decode cX9_fail 178 = .ok (.aload_n 0, 1) := by decide +kernel
theorem dX9_fail_179 : decode cX9_fail 179 = .ok (.getfield 13, 3) := by decide +kernel
theorem dX9_fail_182 : decode cX9_fail 182 = .ok (.sipush 1310, 3) := by decide +kernel
theorem dX9_fail_185 : decode cX9_fail 185 = .ok (.aload_n 0, 1) := by decide +kernel
theorem dX9_fail_186 : decode cX9_fail 186 = .ok (.getfield 13, 3) := by decide +kernel
theorem dX9_fail_189 : decode cX9_fail 189 = .ok (.iconst 3, 1) := by decide +kernel
theorem dX9_fail_190 : decode cX9_fail 190 = .ok (.iaload, 1) := by decide +kernel
theorem dX9_fail_191 : decode cX9_fail 191 = .ok (.iadd, 1) := by decide +kernel
theorem dX9_fail_192 : decode cX9_fail 192 = .ok (.iload_n 2, 1) := by decide +kernel
theorem dX9_fail_193 : decode cX9_fail 193 = .ok (.iastore, 1) := by decide +kernel
theorem dX9_fail_194 : decode cX9_fail 194 = .ok (.aload_n 0, 1) := by decide +kernel
theorem dX9_fail_195 : decode cX9_fail 195 = .ok (.getfield 13, 3) := by decide +kernel
theorem dX9_fail_198 : decode cX9_fail 198 = .ok (.iconst 3, 1) := by decide +kernel
theorem dX9_fail_199 : decode cX9_fail 199 = .ok (.dup2, 1) := by decide +kernel
theorem dX9_fail_200 : decode cX9_fail 200 = .ok (.iaload, 1) := by decide +kernel
theorem dX9_fail_201 : decode cX9_fail 201 = .ok (.iconst 1, 1) := by decide +kernel
theorem dX9_fail_202 : decode cX9_fail 202 = .ok (.iadd, 1) := by decide +kernel
theorem dX9_fail_203 : decode cX9_fail 203 = .ok (.iastore, 1) := by decide +kernel
theorem dX9_fail_204 : decode cX9_fail 204 = .ok (.iinc 2 1, 3) := by decide +kernel
theorem dX9_fail_207 : decode cX9_fail 207 = .ok (.goto (-49), 3) := by decide +kernel
theorem dX9_fail_210 : decode cX9_fail 210 = .ok (.iconst 0, 1) := by decide +kernel
theorem dX9_fail_211 : decode cX9_fail 211 = .ok (.istore_n 2, 1) := by decide +kernel
theorem dX9_fail_212 : decode cX9_fail 212 = .ok (.iconst 0, 1) := by decide +kernel
theorem dX9_fail_213 : decode cX9_fail 213 = .ok (.istore_n 3, 1) := by decide +kernel
theorem dX9_fail_214 : decode cX9_fail 214 = .ok (.iload_n 3, 1) := by decide +kernel
theorem dX9_fail_215 : decode cX9_fail 215 = .ok (.aload_n 0, 1) := by decide +kernel
theorem dX9_fail_216 : decode cX9_fail 216 = .ok (.getfield 13, 3) := by decide +kernel
theorem dX9_fail_219 : decode cX9_fail 219 = .ok (.iconst 0, 1) := by decide +kernel
theorem dX9_fail_220 : decode cX9_fail 220 = .ok (.iaload, 1) := by decide +kernel
theorem dX9_fail_221 : decode cX9_fail 221 = .ok (.if_icmp .ge 115, 3) := by decide +kernel
theorem dX9_fail_224 : decode cX9_fail 224 = .ok (.aload_n 0, 1) := by decide +kernel
theorem dX9_fail_225 : decode cX9_fail 225 = .ok (.iload_n 3, 1) := by decide +kernel
theorem dX9_fail_226 : decode cX9_fail 226 = .ok (.invokevirtual 120, 3) := by decide +kernel
theorem dX9_fail_229 : decode cX9_fail 229 = .ok (.ifCond .eq 101, 3) := by decide +kernel
theorem dX9_fail_232 : decode cX9_fail 232 = .ok (.aload_n 0, 1) := by decide +kernel
theorem dX9_fail_233 : decode cX9_fail 233 = .ok (.getfield 22, 3) := by decide +kernel
theorem dX9_fail_236 : decode cX9_fail 236 = .ok (.iload_n 3, 1) := by decide +kernel
theorem dX9_fail_237 : decode cX9_fail 237 = .ok (.iaload, 1) := by decide +kernel
theorem dX9_fail_238 : decode cX9_fail 238 = .ok (.istore 4, 2) := by decide +kernel
theorem dX9_fail_240 : decode cX9_fail 240 = .ok (.aload_n 0, 1) := by decide +kernel
theorem dX9_fail_241 : decode cX9_fail 241 = .ok (.getfield 13, 3) := by decide +kernel
theorem dX9_fail_244 : decode cX9_fail 244 = .ok (.bipush 10, 2) := by decide +kernel
theorem dX9_fail_246 : decode cX9_fail 246 = .ok (.iload_n 3, 1) := by decide +kernel
theorem dX9_fail_247 : decode cX9_fail 247 = .ok (.iadd, 1) := by decide +kernel
theorem dX9_fail_248 : decode cX9_fail 248 = .ok (.iload 4, 2) := by decide +kernel
theorem dX9_fail_250 : decode cX9_fail 250 = .ok (.iconst 1, 1) := by decide +kernel
theorem dX9_fail_251 : decode cX9_fail 251 = .ok (.iadd, 1) := by decide +kernel
theorem dX9_fail_252 : decode cX9_fail 252 = .ok (.iastore, 1) := by decide +kernel
theorem dX9_fail_253 : decode cX9_fail 253 = .ok (.aload_n 0, 1) := by decide +kernel
theorem dX9_fail_254 : decode cX9_fail 254 = .ok (.getfield 13, 3) := by decide +kernel
theorem dX9_fail_257 : decode cX9_fail 257 = .ok (.bipush 15, 2) := by decide +kernel
theorem dX9_fail_259 : decode cX9_fail 259 = .ok (.iload_n 3, 1) := by decide +kernel
theorem dX9_fail_260 : decode cX9_fail 260 = .ok (.iadd, 1) := by decide +kernel
theorem dX9_fail_261 : decode cX9_fail 261 = .ok (.aload_n 0, 1) := by decide +kernel
theorem dX9_fail_262 : decode cX9_fail 262 = .ok (.getfield 13, 3) := by decide +kernel
theorem dX9_fail_265 : decode cX9_fail 265 = .ok (.bipush 50, 2) := by decide +kernel
theorem dX9_fail_267 : decode cX9_fail 267 = .ok (.bipush 12, 2) := by decide +kernel
theorem dX9_fail_269 : decode cX9_fail 269 = .ok (.iload_n 3, 1) := by decide +kernel
theorem dX9_fail_270 : decode cX9_fail 270 = .ok (.imul, 1) := by decide +kernel
theorem dX9_fail_271 : decode cX9_fail 271 = .ok (.iadd, 1) := by decide +kernel
theorem dX9_fail_272 : decode cX9_fail 272 = .ok (.iload 4, 2) := by decide +kernel
theorem dX9_fail_274 : decode cX9_fail 274 = .ok (.iadd, 1) := by decide +kernel
theorem dX9_fail_275 : decode cX9_fail 275 = .ok (.iaload, 1) := by decide +kernel
theorem dX9_fail_276 : decode cX9_fail 276 = .ok (.iastore, 1) := by decide +kernel
theorem dX9_fail_277 : decode cX9_fail 277 = .ok (.iconst 0, 1) := by decide +kernel
theorem dX9_fail_278 : decode cX9_fail 278 = .ok (.istore 5, 2) := by decide +kernel
theorem dX9_fail_280 : decode cX9_fail 280 = .ok (.iload 5, 2) := by decide +kernel
theorem dX9_fail_282 : decode cX9_fail 282 = .ok (.iconst 5, 1) := by decide +kernel
theorem dX9_fail_283 : decode cX9_fail 283 = .ok (.if_icmp .ge 44, 3) := by decide +kernel
theorem dX9_fail_286 : decode cX9_fail 286 = .ok (.aload_n 0, 1) := by decide +kernel
theorem dX9_fail_287 : decode cX9_fail 287 = .ok (.getfield 13, 3) := by decide +kernel
theorem dX9_fail_290 : decode cX9_fail 290 = .ok (.bipush 20, 2) := by decide +kernel
theorem dX9_fail_292 : decode cX9_fail 292 = .ok (.iconst 5, 1) := by decide +kernel
theorem dX9_fail_293 : decode cX9_fail 293 = .ok (.iload_n 3, 1) := by decide +kernel
theorem dX9_fail_294 : decode cX9_fail 294 = .ok (.imul, 1) := by decide +kernel
theorem dX9_fail_295 : decode cX9_fail 295 = .ok (.iadd, 1) := by decide +kernel
theorem dX9_fail_296 : decode cX9_fail 296 = .ok (.iload 5, 2) := by decide +kernel
theorem dX9_fail_298 : decode cX9_fail 298 = .ok (.iadd, 1) := by decide +kernel
theorem dX9_fail_299 : decode cX9_fail 299 = .ok (.aload_n 0, 1) := by decide +kernel
theorem dX9_fail_300 : decode cX9_fail 300 = .ok (.getfield 13, 3) := by decide +kernel
theorem dX9_fail_303 : decode cX9_fail 303 = .ok (.sipush 230, 3) := by decide +kernel
theorem dX9_fail_306 : decode cX9_fail 306 = .ok (.iconst 5, 1) := by decide +kernel
theorem dX9_fail_307 : decode cX9_fail 307 = .ok (.bipush 12, 2) := by decide +kernel
theorem dX9_fail_309 : decode cX9_fail 309 = .ok (.iload_n 3, 1) := by decide +kernel
theorem dX9_fail_310 : decode cX9_fail 310 = .ok (.imul, 1) := by decide +kernel
theorem dX9_fail_311 : decode cX9_fail 311 = .ok (.iload 4, 2) := by decide +kernel
theorem dX9_fail_313 : decode cX9_fail 313 = .ok (.iadd, 1) := by decide +kernel
theorem dX9_fail_314 : decode cX9_fail 314 = .ok (.imul, 1) := by decide +kernel
theorem dX9_fail_315 : decode cX9_fail 315 = .ok (.iadd, 1) := by decide +kernel
