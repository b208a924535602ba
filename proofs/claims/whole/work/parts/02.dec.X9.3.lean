theorem dX9_fail_316 : decode cX9_fail 316 = .ok (.iload 5, 2) := by decide +kernel
theorem dX9_fail_318 : decode cX9_fail 318 = .ok (.iadd, 1) := by decide +kernel
theorem dX9_fail_319 : decode cX9_fail 319 = .ok (.iaload, 1) := by decide +kernel
theorem dX9_fail_320 : decode cX9_fail 320 = .ok (.iastore, 1) := by decide +kernel
theorem dX9_fail_321 : decode cX9_fail 321 = .ok (.iinc 5 1, 3) := by decide +kernel
theorem dX9_fail_324 : decode cX9_fail 324 = .ok (.goto (-44), 3) := by decide +kernel
theorem dX9_fail_327 : decode cX9_fail 327 = .ok (.iinc 2 1, 3) := by decide +kernel
theorem dX9_fail_330 : decode cX9_fail 330 = .ok (.iinc 3 1, 3) := by decide +kernel
theorem dX9_fail_333 : decode cX9_fail 333 = .ok (.goto (-119), 3) := by decide +kernel
theorem dX9_fail_336 : decode cX9_fail 336 = .ok (.iload_n 2, 1) := by decide +kernel
theorem dX9_fail_337 : decode cX9_fail 337 = .ok (.ireturn, 1) := by decide +kernel
theorem dX9_gather_0 : decode cX9_gather 0 = .ok (.aload_n 0, 1) := by decide +kernel
theorem dX9_gather_1 : decode cX9_gather 1 = .ok (.iconst 1, 1) := by decide +kernel
theorem dX9_gather_2 : decode cX9_gather 2 = .ok (.aload_n 0, 1) := by decide +kernel
theorem dX9_gather_3 : decode cX9_gather 3 = .ok (.getfield 13, 3) := by decide +kernel
theorem dX9_gather_6 : decode cX9_gather 6 = .ok (.iconst 0, 1) := by decide +kernel
theorem dX9_gather_7 : decode cX9_gather 7 = .ok (.iaload, 1) := by decide +kernel
theorem dX9_gather_8 : decode cX9_gather 8 = .ok (.ishl, 1) := by decide +kernel
theorem dX9_gather_9 : decode cX9_gather 9 = .ok (.iconst 1, 1) := by decide +kernel
theorem dX9_gather_10 : decode cX9_gather 10 = .ok (.isub, 1) := by decide +kernel
theorem dX9_gather_11 : decode cX9_gather 11 = .ok (.invokevirtual 130, 3) := by decide +kernel
theorem dX9_gather_14 : decode cX9_gather 14 = .ok (.iconst 0, 1) := by decide +kernel
theorem dX9_gather_15 : decode cX9_gather 15 = .ok (.istore_n 1, 1) := by decide +kernel
theorem dX9_gather_16 : decode cX9_gather 16 = .ok (.iconst 0, 1) := by decide +kernel
theorem dX9_gather_17 : decode cX9_gather 17 = .ok (.istore_n 2, 1) := by decide +kernel
theorem dX9_gather_18 : decode cX9_gather 18 = .ok (.iload_n 2, 1) := by decide +kernel
theorem dX9_gather_19 : decode cX9_gather 19 = .ok (.aload_n 0, 1) := by decide +kernel
theorem dX9_gather_20 : decode cX9_gather 20 = .ok (.getfield 13, 3) := by decide +kernel
theorem dX9_gather_23 : decode cX9_gather 23 = .ok (.iconst 0, 1) := by decide +kernel
theorem dX9_gather_24 : decode cX9_gather 24 = .ok (.iaload, 1) := by decide +kernel
theorem dX9_gather_25 : decode cX9_gather 25 = .ok (.if_icmp .ge 76, 3) := by decide +kernel
theorem dX9_gather_28 : decode cX9_gather 28 = .ok (.iconst 0, 1) := by decide +kernel
theorem dX9_gather_29 : decode cX9_gather 29 = .ok (.istore_n 3, 1) := by decide +kernel
theorem dX9_gather_30 : decode cX9_gather 30 = .ok (.iload_n 3, 1) := by decide +kernel
theorem dX9_gather_31 : decode cX9_gather 31 = .ok (.aload_n 0, 1) := by decide +kernel
theorem dX9_gather_32 : decode cX9_gather 32 = .ok (.getfield 22, 3) := by decide +kernel
theorem dX9_gather_35 : decode cX9_gather 35 = .ok (.iload_n 2, 1) := by decide +kernel
theorem dX9_gather_36 : decode cX9_gather 36 = .ok (.iaload, 1) := by decide +kernel
theorem dX9_gather_37 : decode cX9_gather 37 = .ok (.if_icmp .ge 58, 3) := by decide +kernel
theorem dX9_gather_40 : decode cX9_gather 40 = .ok (.iload_n 3, 1) := by decide +kernel
theorem dX9_gather_41 : decode cX9_gather 41 = .ok (.aload_n 0, 1) := by decide +kernel
theorem dX9_gather_42 : decode cX9_gather 42 = .ok (.getfield 13, 3) := by decide +kernel
theorem dX9_gather_45 : decode cX9_gather 45 = .ok (.bipush 10, 2) := by decide +kernel
theorem dX9_gather_47 : decode cX9_gather 47 = .ok (.iload_n 2, 1) := by decide +kernel
theorem dX9_gather_48 : decode cX9_gather 48 = .ok (.iadd, 1) := by decide +kernel
theorem dX9_gather_49 : decode cX9_gather 49 = .ok (.iaload, 1) := by decide +kernel
theorem dX9_gather_50 : decode cX9_gather 50 = .ok (.if_icmp .ge 45, 3) := by decide +kernel
theorem dX9_gather_53 : decode cX9_gather 53 = .ok (.iload_n 1, 1) := by decide +kernel
theorem dX9_gather_54 : decode cX9_gather 54 = .ok (.iconst 1, 1) := by decide +kernel
theorem dX9_gather_55 : decode cX9_gather 55 = .ok (.aload_n 0, 1) := by decide +kernel
theorem dX9_gather_56 : decode cX9_gather 56 = .ok (.getfield 13, 3) := by decide +kernel
theorem dX9_gather_59 : decode cX9_gather 59 = .ok (.sipush 170, 3) := by decide +kernel
theorem dX9_gather_62 : decode cX9_gather 62 = .ok (.bipush 12, 2) := by decide +kernel
theorem dX9_gather_64 : decode cX9_gather 64 = .ok (.iload_n 2, 1) := by decide +kernel
theorem dX9_gather_65 : decode cX9_gather 65 = .ok (.imul, 1) := by decide +kernel
theorem dX9_gather_66 : decode cX9_gather 66 = .ok (.iadd, 1) := by decide +kernel
theorem dX9_gather_67 : decode cX9_gather 67 = .ok (.iload_n 3, 1) := by decide +kernel
theorem dX9_gather_68 : decode cX9_gather 68 = .ok (.iadd, 1) := by decide +kernel
theorem dX9_gather_69 : decode cX9_gather 69 = .ok (.iaload, 1) := by decide +kernel
theorem dX9_gather_70 : decode cX9_gather 70 = .ok (.isub, 1) := by decide +kernel
theorem dX9_gather_71 : decode cX9_gather 71 = .ok (.iadd, 1) := by decide +kernel
theorem dX9_gather_72 : decode cX9_gather 72 = .ok (.istore_n 1, 1) := by decide +kernel
theorem dX9_gather_73 : decode cX9_gather 73 = .ok (.aload_n 0, 1) := by decide +kernel
theorem dX9_gather_74 : decode cX9_gather 74 = .ok (.getfield 13, 3) := by decide +kernel
theorem dX9_gather_77 : decode cX9_gather 77 = .ok (.sipush 170, 3) := by decide +kernel
theorem dX9_gather_80 : decode cX9_gather 80 = .ok (.bipush 12, 2) := by decide +kernel
theorem dX9_gather_82 : decode cX9_gather 82 = .ok (.iload_n 2, 1) := by decide +kernel
theorem dX9_gather_83 : decode cX9_gather 83 = .ok (.imul, 1) := by decide +kernel
theorem dX9_gather_84 : decode cX9_gather 84 = .ok (.iadd, 1) := by decide +kernel
theorem dX9_gather_85 : decode cX9_gather 85 = .ok (.iload_n 3, 1) := by decide +kernel
theorem dX9_gather_86 : decode cX9_gather 86 = .ok (.iadd, 1) := by decide +kernel
theorem dX9_gather_87 : decode cX9_gather 87 = .ok (.iconst 1, 1) := by decide +kernel
theorem dX9_gather_88 : decode cX9_gather 88 = .ok (.iastore, 1) := by decide +kernel
theorem dX9_gather_89 : decode cX9_gather 89 = .ok (.iinc 3 1, 3) := by decide +kernel
theorem dX9_gather_92 : decode cX9_gather 92 = .ok (.goto (-62), 3) := by decide +kernel
theorem dX9_gather_95 : decode cX9_gather 95 = .ok (.iinc 2 1, 3) := by decide +kernel
theorem dX9_gather_98 : decode cX9_gather 98 = .ok (.goto (-80), 3) := by decide +kernel
theorem dX9_gather_101 : decode cX9_gather 101 = .ok (.iload_n 1, 1) := by decide +kernel
theorem dX9_gather_102 : decode cX9_gather 102 = .ok (.ireturn, 1) := by decide +kernel
theorem dX9_drive_0 : decode cX9_drive 0 = .ok (.iload_n 1, 1) := by decide +kernel
theorem dX9_drive_1 : decode cX9_drive 1 = .ok (.iconst 0, 1) := by decide +kernel
theorem dX9_drive_2 : decode cX9_drive 2 = .ok (.sipush 9999, 3) := by decide +kernel
theorem dX9_drive_5 : decode cX9_drive 5 = .ok (.invokestatic 50, 3) := by decide +kernel
theorem dX9_drive_8 : decode cX9_drive 8 = .ok (.ifCond .eq 13, 3) := by decide +kernel
theorem dX9_drive_11 : decode cX9_drive 11 = .ok (.iload_n 2, 1) := by decide +kernel
theorem dX9_drive_12 : decode cX9_drive 12 = .ok (.iconst 1, 1) := by decide +kernel
theorem dX9_drive_13 : decode cX9_drive 13 = .ok (.bipush 60, 2) := by decide +kernel
theorem dX9_drive_15 : decode cX9_drive 15 = .ok (.invokestatic 50, 3) := by decide +kernel
theorem dX9_drive_18 : decode cX9_drive 18 = .ok (.ifCond .ne 5, 3) := by decide +kernel
theorem dX9_drive_21 : decode cX9_drive 21 = .ok (.iconst (-1), 1) := by decide +kernel
theorem dX9_drive_22 : decode cX9_drive 22 = .ok (.ireturn, 1) := by decide +kernel
theorem dX9_drive_23 : decode cX9_drive 23 = .ok (.iconst 0, 1) := by decide +kernel
theorem dX9_drive_24 : decode cX9_drive 24 = .ok (.istore_n 3, 1) := by decide +kernel
theorem dX9_drive_25 : decode cX9_drive 25 = .ok (.iconst 0, 1) := by decide +kernel
theorem dX9_drive_26 : decode cX9_drive 26 = .ok (.istore 4, 2) := by decide +kernel
theorem dX9_drive_28 : decode cX9_drive 28 = .ok (.iload 4, 2) := by decide +kernel
theorem dX9_drive_30 : decode cX9_drive 30 = .ok (.iload_n 2, 1) := by decide +kernel
theorem dX9_drive_31 : decode cX9_drive 31 = .ok (.if_icmp .ge 167, 3) := by decide +kernel
theorem dX9_drive_34 : decode cX9_drive 34 = .ok (.ldc2_w 136, 3) := by decide +kernel
theorem dX9_drive_37 : decode cX9_drive 37 = .ok (.iload_n 1, 1) := by decide +kernel
theorem dX9_drive_38 : decode cX9_drive 38 = .ok (.i2l, 1) := by decide +kernel
theorem dX9_drive_39 : decode cX9_drive 39 = .ok (.lmul, 1) := by decide +kernel
theorem dX9_drive_40 : decode cX9_drive 40 = .ok (.ldc2_w 138, 3) := by decide +kernel
theorem dX9_drive_43 : decode cX9_drive 43 = .ok (.iload 4, 2) := by decide +kernel
theorem dX9_drive_45 : decode cX9_drive 45 = .ok (.i2l, 1) := by decide +kernel
theorem dX9_drive_46 : decode cX9_drive 46 = .ok (.lmul, 1) := by decide +kernel
theorem dX9_drive_47 : decode cX9_drive 47 = .ok (.ladd, 1) := by decide +kernel
theorem dX9_drive_48 : decode cX9_drive 48 = .ok (.lconst 1, 1) := by decide +kernel
theorem dX9_drive_49 : decode cX9_drive 49 = .ok (.ladd, 1) := by decide +kernel
theorem dX9_drive_50 : decode cX9_drive 50 = .ok (.lstore 5, 2) := by decide +kernel
theorem dX9_drive_52 : decode cX9_drive 52 = .ok (.lload 5, 2) := by decide +kernel
theorem dX9_drive_54 : decode cX9_drive 54 = .ok (.lload 5, 2) := by decide +kernel
theorem dX9_drive_56 : decode cX9_drive 56 = .ok (.lmul, 1) := by decide +kernel
theorem dX9_drive_57 : decode cX9_drive 57 = .ok (.ldc2_w 140, 3) := by decide +kernel
theorem dX9_drive_60 : decode cX9_drive 60 = .ok (.lrem, 1) := by decide +kernel
theorem dX9_drive_61 : decode cX9_drive 61 = .ok (.l2i, 1) := by decide +kernel
theorem dX9_drive_62 : decode cX9_drive 62 = .ok (.istore 7, 2) := by decide +kernel
theorem dX9_drive_64 : decode cX9_drive 64 = .ok (.iload 7, 2) := by decide +kernel
theorem dX9_drive_66 : decode cX9_drive 66 = .ok (.iconst 4, 1) := by decide +kernel
theorem dX9_drive_67 : decode cX9_drive 67 = .ok (.idiv, 1) := by decide +kernel
theorem dX9_drive_68 : decode cX9_drive 68 = .ok (.aload_n 0, 1) := by decide +kernel
theorem dX9_drive_69 : decode cX9_drive 69 = .ok (.getfield 13, 3) := by decide +kernel
theorem dX9_drive_72 : decode cX9_drive 72 = .ok (.iconst 0, 1) := by decide +kernel
theorem dX9_drive_73 : decode cX9_drive 73 = .ok (.iaload, 1) := by decide +kernel
theorem dX9_drive_74 : decode cX9_drive 74 = .ok (.irem, 1) := by decide +kernel
theorem dX9_drive_75 : decode cX9_drive 75 = .ok (.istore 8, 2) := by decide +kernel
theorem dX9_drive_77 : decode cX9_drive 77 = .ok (.iconst (-1), 1) := by decide +kernel
theorem dX9_drive_78 : decode cX9_drive 78 = .ok (.istore 9, 2) := by decide +kernel
theorem dX9_drive_80 : decode cX9_drive 80 = .ok (.iload 7, 2) := by decide +kernel
theorem dX9_drive_82 : decode cX9_drive 82 = .ok (.iconst 4, 1) := by decide +kernel
theorem dX9_drive_83 : decode cX9_drive 83 = .ok (.irem, 1) := by decide +kernel
theorem dX9_drive_84 : decode cX9_drive 84 = .ok (.ifCond .ne 14, 3) := by decide +kernel
theorem dX9_drive_87 : decode cX9_drive 87 = .ok (.aload_n 0, 1) := by decide +kernel
theorem dX9_drive_88 : decode cX9_drive 88 = .ok (.iload 8, 2) := by decide +kernel
theorem dX9_drive_90 : decode cX9_drive 90 = .ok (.invokevirtual 98, 3) := by decide +kernel
theorem dX9_drive_93 : decode cX9_drive 93 = .ok (.istore 9, 2) := by decide +kernel
theorem dX9_drive_95 : decode cX9_drive 95 = .ok (.goto 84, 3) := by decide +kernel
theorem dX9_drive_98 : decode cX9_drive 98 = .ok (.iload 7, 2) := by decide +kernel
theorem dX9_drive_100 : decode cX9_drive 100 = .ok (.iconst 4, 1) := by decide +kernel
theorem dX9_drive_101 : decode cX9_drive 101 = .ok (.irem, 1) := by decide +kernel
theorem dX9_drive_102 : decode cX9_drive 102 = .ok (.iconst 3, 1) := by decide +kernel
theorem dX9_drive_103 : decode cX9_drive 103 = .ok (.if_icmp .ge 40, 3) := by decide +kernel
theorem dX9_drive_106 : decode cX9_drive 106 = .ok (.aload_n 0, 1) := by decide +kernel
theorem dX9_drive_107 : decode cX9_drive 107 = .ok (.iload 8, 2) := by decide +kernel
theorem dX9_drive_109 : decode cX9_drive 109 = .ok (.iload 8, 2) := by decide +kernel
theorem dX9_drive_111 : decode cX9_drive 111 = .ok (.iconst 1, 1) := by decide +kernel
theorem dX9_drive_112 : decode cX9_drive 112 = .ok (.iadd, 1) := by decide +kernel
theorem dX9_drive_113 : decode cX9_drive 113 = .ok (.iload 7, 2) := by decide +kernel
theorem dX9_drive_115 : decode cX9_drive 115 = .ok (.bipush 32, 2) := by decide +kernel
theorem dX9_drive_117 : decode cX9_drive 117 = .ok (.idiv, 1) := by decide +kernel
theorem dX9_drive_118 : decode cX9_drive 118 = .ok (.aload_n 0, 1) := by decide +kernel
theorem dX9_drive_119 : decode cX9_drive 119 = .ok (.getfield 13, 3) := by decide +kernel
theorem dX9_drive_122 : decode cX9_drive 122 = .ok (.iconst 0, 1) := by decide +kernel
theorem dX9_drive_123 : decode cX9_drive 123 = .ok (.iaload, 1) := by decide +kernel
theorem dX9_drive_124 : decode cX9_drive 124 = .ok (.iconst 1, 1) := by decide +kernel
theorem dX9_drive_125 : decode cX9_drive 125 = .ok (.isub, 1) := by decide +kernel
theorem dX9_drive_126 : decode cX9_drive 126 = .ok (.irem, 1) := by decide +kernel
theorem dX9_drive_127 : decode cX9_drive 127 = .ok (.iadd, 1) := by decide +kernel
theorem dX9_drive_128 : decode cX9_drive 128 = .ok (.aload_n 0, 1) := by decide +kernel
theorem dX9_drive_129 : decode cX9_drive 129 = .ok (.getfield 13, 3) := by decide +kernel
theorem dX9_drive_132 : decode cX9_drive 132 = .ok (.iconst 0, 1) := by decide +kernel
theorem dX9_drive_133 : decode cX9_drive 133 = .ok (.iaload, 1) := by decide +kernel
theorem dX9_drive_134 : decode cX9_drive 134 = .ok (.irem, 1) := by decide +kernel
theorem dX9_drive_135 : decode cX9_drive 135 = .ok (.invokevirtual 92, 3) := by decide +kernel
theorem dX9_drive_138 : decode cX9_drive 138 = .ok (.istore 9, 2) := by decide +kernel
theorem dX9_drive_140 : decode cX9_drive 140 = .ok (.goto 39, 3) := by decide +kernel
theorem dX9_drive_143 : decode cX9_drive 143 = .ok (.aload_n 0, 1) := by decide +kernel
theorem dX9_drive_144 : decode cX9_drive 144 = .ok (.getfield 13, 3) := by decide +kernel
theorem dX9_drive_147 : decode cX9_drive 147 = .ok (.iconst 3, 1) := by decide +kernel
theorem dX9_drive_148 : decode cX9_drive 148 = .ok (.iaload, 1) := by decide +kernel
theorem dX9_drive_149 : decode cX9_drive 149 = .ok (.ifCond .le 30, 3) := by decide +kernel
theorem dX9_drive_152 : decode cX9_drive 152 = .ok (.aload_n 0, 1) := by decide +kernel
theorem dX9_drive_153 : decode cX9_drive 153 = .ok (.aload_n 0, 1) := by decide +kernel
theorem dX9_drive_154 : decode cX9_drive 154 = .ok (.getfield 13, 3) := by decide +kernel
theorem dX9_drive_157 : decode cX9_drive 157 = .ok (.sipush 1310, 3) := by decide +kernel
theorem dX9_drive_160 : decode cX9_drive 160 = .ok (.iload 7, 2) := by decide +kernel
theorem dX9_drive_162 : decode cX9_drive 162 = .ok (.bipush 32, 2) := by decide +kernel
theorem dX9_drive_164 : decode cX9_drive 164 = .ok (.idiv, 1) := by decide +kernel
theorem dX9_drive_165 : decode cX9_drive 165 = .ok (.aload_n 0, 1) := by decide +kernel
theorem dX9_drive_166 : decode cX9_drive 166 = .ok (.getfield 13, 3) := by decide +kernel
theorem dX9_drive_169 : decode cX9_drive 169 = .ok (.iconst 3, 1) := by decide +kernel
theorem dX9_drive_170 : decode cX9_drive 170 = .ok (.iaload, 1) := by decide +kernel
theorem dX9_drive_171 : decode cX9_drive 171 = .ok (.irem, 1) := by decide +kernel
theorem dX9_drive_172 : decode cX9_drive 172 = .ok (.iadd, 1) := by decide +kernel
theorem dX9_drive_173 : decode cX9_drive 173 = .ok (.iaload, 1) := by decide +kernel
theorem dX9_drive_174 : decode cX9_drive 174 = .ok (.invokevirtual 95, 3) := by decide +kernel
theorem dX9_drive_177 : decode cX9_drive 177 = .ok (.istore 9, 2) := by decide +kernel
theorem dX9_drive_179 : decode cX9_drive 179 = .ok (.iload_n 3, 1) := by decide +kernel
theorem dX9_drive_180 : decode cX9_drive 180 = .ok (.iload 9, 2) := by decide +kernel
theorem dX9_drive_182 : decode cX9_drive 182 = .ok (.ifCond .lt 7, 3) := by decide +kernel
theorem dX9_drive_185 : decode cX9_drive 185 = .ok (.iconst 1, 1) := by decide +kernel
theorem dX9_drive_186 : decode cX9_drive 186 = .ok (.goto 4, 3) := by decide +kernel
theorem dX9_drive_189 : decode cX9_drive 189 = .ok (.iconst 0, 1) := by decide +kernel
theorem dX9_drive_190 : decode cX9_drive 190 = .ok (.iadd, 1) := by decide +kernel
theorem dX9_drive_191 : decode cX9_drive 191 = .ok (.istore_n 3, 1) := by decide +kernel
theorem dX9_drive_192 : decode cX9_drive 192 = .ok (.iinc 4 1, 3) := by decide +kernel
theorem dX9_drive_195 : decode cX9_drive 195 = .ok (.goto (-167), 3) := by decide +kernel
theorem dX9_drive_198 : decode cX9_drive 198 = .ok (.iload_n 3, 1) := by decide +kernel
theorem dX9_drive_199 : decode cX9_drive 199 = .ok (.ireturn, 1) := by decide +kernel
theorem dX9_fewest_0 : decode cX9_fewest 0 = .ok (.iconst 0, 1) := by decide +kernel
theorem dX9_fewest_1 : decode cX9_fewest 1 = .ok (.istore 6, 2) := by decide +kernel
theorem dX9_fewest_3 : decode cX9_fewest 3 = .ok (.iload 6, 2) := by decide +kernel
theorem dX9_fewest_5 : decode cX9_fewest 5 = .ok (.aload_n 0, 1) := by decide +kernel
theorem dX9_fewest_6 : decode cX9_fewest 6 = .ok (.getfield 13, 3) := by decide +kernel
theorem dX9_fewest_9 : decode cX9_fewest 9 = .ok (.iconst 2, 1) := by decide +kernel
theorem dX9_fewest_10 : decode cX9_fewest 10 = .ok (.iaload, 1) := by decide +kernel
theorem dX9_fewest_11 : decode cX9_fewest 11 = .ok (.if_icmp .ge 54, 3) := by decide +kernel
theorem dX9_fewest_14 : decode cX9_fewest 14 = .ok (.aload_n 0, 1) := by decide +kernel
theorem dX9_fewest_15 : decode cX9_fewest 15 = .ok (.getfield 28, 3) := by decide +kernel
theorem dX9_fewest_18 : decode cX9_fewest 18 = .ok (.iload 6, 2) := by decide +kernel
theorem dX9_fewest_20 : decode cX9_fewest 20 = .ok (.aload_n 0, 1) := by decide +kernel
theorem dX9_fewest_21 : decode cX9_fewest 21 = .ok (.iload 6, 2) := by decide +kernel
theorem dX9_fewest_23 : decode cX9_fewest 23 = .ok (.iconst 5, 1) := by decide +kernel
theorem dX9_fewest_24 : decode cX9_fewest 24 = .ok (.invokevirtual 65, 3) := by decide +kernel
theorem dX9_fewest_27 : decode cX9_fewest 27 = .ok (.iconst 1, 1) := by decide +kernel
theorem dX9_fewest_28 : decode cX9_fewest 28 = .ok (.if_icmp .ne 29, 3) := by decide +kernel
theorem dX9_fewest_31 : decode cX9_fewest 31 = .ok (.aload_n 0, 1) := by decide +kernel
theorem dX9_fewest_32 : decode cX9_fewest 32 = .ok (.iload 6, 2) := by decide +kernel
theorem dX9_fewest_34 : decode cX9_fewest 34 = .ok (.iconst 0, 1) := by decide +kernel
theorem dX9_fewest_35 : decode cX9_fewest 35 = .ok (.invokevirtual 65, 3) := by decide +kernel
theorem dX9_fewest_38 : decode cX9_fewest 38 = .ok (.iload_n 1, 1) := by decide +kernel
theorem dX9_fewest_39 : decode cX9_fewest 39 = .ok (.if_icmp .ne 18, 3) := by decide +kernel
theorem dX9_fewest_42 : decode cX9_fewest 42 = .ok (.aload_n 0, 1) := by decide +kernel
theorem dX9_fewest_43 : decode cX9_fewest 43 = .ok (.iload 6, 2) := by decide +kernel
theorem dX9_fewest_45 : decode cX9_fewest 45 = .ok (.iconst 2, 1) := by decide +kernel
theorem dX9_fewest_46 : decode cX9_fewest 46 = .ok (.invokevirtual 65, 3) := by decide +kernel
theorem dX9_fewest_49 : decode cX9_fewest 49 = .ok (.iload_n 2, 1) := by decide +kernel
theorem dX9_fewest_50 : decode cX9_fewest 50 = .ok (.if_icmp .lt 7, 3) := by decide +kernel
theorem dX9_fewest_53 : decode cX9_fewest 53 = .ok (.iconst 1, 1) := by decide +kernel
theorem dX9_fewest_54 : decode cX9_fewest 54 = .ok (.goto 4, 3) := by decide +kernel
theorem dX9_fewest_57 : decode cX9_fewest 57 = .ok (.iconst 0, 1) := by decide +kernel
theorem dX9_fewest_58 : decode cX9_fewest 58 = .ok (.iastore, 1) := by decide +kernel
theorem dX9_fewest_59 : decode cX9_fewest 59 = .ok (.iinc 6 1, 3) := by decide +kernel
theorem dX9_fewest_62 : decode cX9_fewest 62 = .ok (.goto (-59), 3) := by decide +kernel
theorem dX9_fewest_65 : decode cX9_fewest 65 = .ok (.iconst 1, 1) := by decide +kernel
theorem dX9_fewest_66 : decode cX9_fewest 66 = .ok (.istore 6, 2) := by decide +kernel
theorem dX9_fewest_68 : decode cX9_fewest 68 = .ok (.iload 6, 2) := by decide +kernel
theorem dX9_fewest_70 : decode cX9_fewest 70 = .ok (.aload_n 0, 1) := by decide +kernel
theorem dX9_fewest_71 : decode cX9_fewest 71 = .ok (.getfield 13, 3) := by decide +kernel
theorem dX9_fewest_74 : decode cX9_fewest 74 = .ok (.iconst 2, 1) := by decide +kernel
theorem dX9_fewest_75 : decode cX9_fewest 75 = .ok (.iaload, 1) := by decide +kernel
theorem dX9_fewest_76 : decode cX9_fewest 76 = .ok (.if_icmp .gt 221, 3) := by decide +kernel
theorem dX9_fewest_79 : decode cX9_fewest 79 = .ok (.iconst 0, 1) := by decide +kernel
theorem dX9_fewest_80 : decode cX9_fewest 80 = .ok (.istore 7, 2) := by decide +kernel
theorem dX9_fewest_82 : decode cX9_fewest 82 = .ok (.iload 7, 2) := by decide +kernel
theorem dX9_fewest_84 : decode cX9_fewest 84 = .ok (.aload_n 0, 1) := by decide +kernel
theorem dX9_fewest_85 : decode cX9_fewest 85 = .ok (.getfield 13, 3) := by decide +kernel
theorem dX9_fewest_88 : decode cX9_fewest 88 = .ok (.iconst 2, 1) := by decide +kernel
theorem dX9_fewest_89 : decode cX9_fewest 89 = .ok (.iaload, 1) := by decide +kernel
theorem dX9_fewest_90 : decode cX9_fewest 90 = .ok (.if_icmp .ge 47, 3) := by decide +kernel
theorem dX9_fewest_93 : decode cX9_fewest 93 = .ok (.aload_n 0, 1) := by decide +kernel
theorem dX9_fewest_94 : decode cX9_fewest 94 = .ok (.getfield 28, 3) := by decide +kernel
theorem dX9_fewest_97 : decode cX9_fewest 97 = .ok (.iload 7, 2) := by decide +kernel
theorem dX9_fewest_99 : decode cX9_fewest 99 = .ok (.iaload, 1) := by decide +kernel
theorem dX9_fewest_100 : decode cX9_fewest 100 = .ok (.iload 6, 2) := by decide +kernel
theorem dX9_fewest_102 : decode cX9_fewest 102 = .ok (.if_icmp .ne 29, 3) := by decide +kernel
theorem dX9_fewest_105 : decode cX9_fewest 105 = .ok (.aload_n 0, 1) := by decide +kernel
theorem dX9_fewest_106 : decode cX9_fewest 106 = .ok (.iload 7, 2) := by decide +kernel
theorem dX9_fewest_108 : decode cX9_fewest 108 = .ok (.iconst 1, 1) := by decide +kernel
theorem dX9_fewest_109 : decode cX9_fewest 109 = .ok (.invokevirtual 65, 3) := by decide +kernel
theorem dX9_fewest_112 : decode cX9_fewest 112 = .ok (.iload_n 3, 1) := by decide +kernel
theorem dX9_fewest_113 : decode cX9_fewest 113 = .ok (.if_icmp .ne 18, 3) := by decide +kernel
theorem dX9_fewest_116 : decode cX9_fewest 116 = .ok (.aload_n 0, 1) := by decide +kernel
theorem dX9_fewest_117 : decode cX9_fewest 117 = .ok (.iload 7, 2) := by decide +kernel
theorem dX9_fewest_119 : decode cX9_fewest 119 = .ok (.iconst 3, 1) := by decide +kernel
theorem dX9_fewest_120 : decode cX9_fewest 120 = .ok (.invokevirtual 65, 3) := by decide +kernel
theorem dX9_fewest_123 : decode cX9_fewest 123 = .ok (.iload 4, 2) := by decide +kernel
theorem dX9_fewest_125 : decode cX9_fewest 125 = .ok (.if_icmp .ge 6, 3) := by decide +kernel
theorem dX9_fewest_128 : decode cX9_fewest 128 = .ok (.iload 6, 2) := by decide +kernel
theorem dX9_fewest_130 : decode cX9_fewest 130 = .ok (.ireturn, 1) := by decide +kernel
theorem dX9_fewest_131 : decode cX9_fewest 131 = .ok (.iinc 7 1, 3) := by decide +kernel
theorem dX9_fewest_134 : decode cX9_fewest 134 = .ok (.goto (-52), 3) := by decide +kernel
theorem dX9_fewest_137 : decode cX9_fewest 137 = .ok (.iconst 0, 1) := by decide +kernel
theorem dX9_fewest_138 : decode cX9_fewest 138 = .ok (.istore 7, 2) := by decide +kernel
theorem dX9_fewest_140 : decode cX9_fewest 140 = .ok (.iload 7, 2) := by decide +kernel
theorem dX9_fewest_142 : decode cX9_fewest 142 = .ok (.aload_n 0, 1) := by decide +kernel
theorem dX9_fewest_143 : decode cX9_fewest 143 = .ok (.getfield 13, 3) := by decide +kernel
theorem dX9_fewest_146 : decode cX9_fewest 146 = .ok (.iconst 2, 1) := by decide +kernel
theorem dX9_fewest_147 : decode cX9_fewest 147 = .ok (.iaload, 1) := by decide +kernel
theorem dX9_fewest_148 : decode cX9_fewest 148 = .ok (.if_icmp .ge 143, 3) := by decide +kernel
theorem dX9_fewest_151 : decode cX9_fewest 151 = .ok (.iconst 0, 1) := by decide +kernel
theorem dX9_fewest_152 : decode cX9_fewest 152 = .ok (.istore 8, 2) := by decide +kernel
theorem dX9_fewest_154 : decode cX9_fewest 154 = .ok (.iload 8, 2) := by decide +kernel
theorem dX9_fewest_156 : decode cX9_fewest 156 = .ok (.aload_n 0, 1) := by decide +kernel
theorem dX9_fewest_157 : decode cX9_fewest 157 = .ok (.getfield 13, 3) := by decide +kernel
theorem dX9_fewest_160 : decode cX9_fewest 160 = .ok (.iconst 2, 1) := by decide +kernel
theorem dX9_fewest_161 : decode cX9_fewest 161 = .ok (.iaload, 1) := by decide +kernel
theorem dX9_fewest_162 : decode cX9_fewest 162 = .ok (.if_icmp .ge 123, 3) := by decide +kernel
theorem dX9_fewest_165 : decode cX9_fewest 165 = .ok (.aload_n 0, 1) := by decide +kernel
theorem dX9_fewest_166 : decode cX9_fewest 166 = .ok (.getfield 28, 3) := by decide +kernel
theorem dX9_fewest_169 : decode cX9_fewest 169 = .ok (.iload 7, 2) := by decide +kernel
theorem dX9_fewest_171 : decode cX9_fewest 171 = .ok (.iaload, 1) := by decide +kernel
theorem dX9_fewest_172 : decode cX9_fewest 172 = .ok (.iload 6, 2) := by decide +kernel
theorem dX9_fewest_174 : decode cX9_fewest 174 = .ok (.if_icmp .ne 62, 3) := by decide +kernel
theorem dX9_fewest_177 : decode cX9_fewest 177 = .ok (.aload_n 0, 1) := by decide +kernel
theorem dX9_fewest_178 : decode cX9_fewest 178 = .ok (.getfield 28, 3) := by decide +kernel
theorem dX9_fewest_181 : decode cX9_fewest 181 = .ok (.iload 8, 2) := by decide +kernel
theorem dX9_fewest_183 : decode cX9_fewest 183 = .ok (.iaload, 1) := by decide +kernel
theorem dX9_fewest_184 : decode cX9_fewest 184 = .ok (.ifCond .ne 52, 3) := by decide +kernel
theorem dX9_fewest_187 : decode cX9_fewest 187 = .ok (.aload_n 0, 1) := by decide +kernel
theorem dX9_fewest_188 : decode cX9_fewest 188 = .ok (.iload 8, 2) := by decide +kernel
theorem dX9_fewest_190 : decode cX9_fewest 190 = .ok (.iconst 5, 1) := by decide +kernel
theorem dX9_fewest_191 : decode cX9_fewest 191 = .ok (.invokevirtual 65, 3) := by decide +kernel
theorem dX9_fewest_194 : decode cX9_fewest 194 = .ok (.iconst 1, 1) := by decide +kernel
theorem dX9_fewest_195 : decode cX9_fewest 195 = .ok (.if_icmp .ne 41, 3) := by decide +kernel
theorem dX9_fewest_198 : decode cX9_fewest 198 = .ok (.aload_n 0, 1) := by decide +kernel
theorem dX9_fewest_199 : decode cX9_fewest 199 = .ok (.iload 8, 2) := by decide +kernel
theorem dX9_fewest_201 : decode cX9_fewest 201 = .ok (.iconst 0, 1) := by decide +kernel
theorem dX9_fewest_202 : decode cX9_fewest 202 = .ok (.invokevirtual 65, 3) := by decide +kernel
theorem dX9_fewest_205 : decode cX9_fewest 205 = .ok (.aload_n 0, 1) := by decide +kernel
theorem dX9_fewest_206 : decode cX9_fewest 206 = .ok (.iload 7, 2) := by decide +kernel
theorem dX9_fewest_208 : decode cX9_fewest 208 = .ok (.iconst 1, 1) := by decide +kernel
theorem dX9_fewest_209 : decode cX9_fewest 209 = .ok (.invokevirtual 65, 3) := by decide +kernel
theorem dX9_fewest_212 : decode cX9_fewest 212 = .ok (.if_icmp .ne 24, 3) := by decide +kernel
theorem dX9_fewest_215 : decode cX9_fewest 215 = .ok (.aload_n 0, 1) := by decide +kernel
theorem dX9_fewest_216 : decode cX9_fewest 216 = .ok (.iload 8, 2) := by decide +kernel
theorem dX9_fewest_218 : decode cX9_fewest 218 = .ok (.iconst 2, 1) := by decide +kernel
theorem dX9_fewest_219 : decode cX9_fewest 219 = .ok (.invokevirtual 65, 3) := by decide +kernel
theorem dX9_fewest_222 : decode cX9_fewest 222 = .ok (.aload_n 0, 1) := by decide +kernel
theorem dX9_fewest_223 : decode cX9_fewest 223 = .ok (.iload 7, 2) := by decide +kernel
theorem dX9_fewest_225 : decode cX9_fewest 225 = .ok (.iconst 3, 1) := by decide +kernel
theorem dX9_fewest_226 : decode cX9_fewest 226 = .ok (.invokevirtual 65, 3) := by decide +kernel
theorem dX9_fewest_229 : decode cX9_fewest 229 = .ok (.if_icmp .lt 7, 3) := by decide +kernel
theorem dX9_fewest_232 : decode cX9_fewest 232 = .ok (.iconst 1, 1) := by decide +kernel
theorem dX9_fewest_233 : decode cX9_fewest 233 = .ok (.goto 4, 3) := by decide +kernel
theorem dX9_fewest_236 : decode cX9_fewest 236 = .ok (.iconst 0, 1) := by decide +kernel
theorem dX9_fewest_237 : decode cX9_fewest 237 = .ok (.istore 9, 2) := by decide +kernel
theorem dX9_fewest_239 : decode cX9_fewest 239 = .ok (.iload 9, 2) := by decide +kernel
theorem dX9_fewest_241 : decode cX9_fewest 241 = .ok (.ifCond .eq 38, 3) := by decide +kernel
theorem dX9_fewest_244 : decode cX9_fewest 244 = .ok (.iload 5, 2) := by decide +kernel
theorem dX9_fewest_246 : decode cX9_fewest 246 = .ok (.ifCond .eq 22, 3) := by decide +kernel
theorem dX9_fewest_249 : decode cX9_fewest 249 = .ok (.aload_n 0, 1) := by decide +kernel
theorem dX9_fewest_250 : decode cX9_fewest 250 = .ok (.iload 8, 2) := by decide +kernel
theorem dX9_fewest_252 : decode cX9_fewest 252 = .ok (.bipush 6, 2) := by decide +kernel
theorem dX9_fewest_254 : decode cX9_fewest 254 = .ok (.invokevirtual 65, 3) := by decide +kernel
theorem dX9_fewest_257 : decode cX9_fewest 257 = .ok (.aload_n 0, 1) := by decide +kernel
theorem dX9_fewest_258 : decode cX9_fewest 258 = .ok (.iload 7, 2) := by decide +kernel
theorem dX9_fewest_260 : decode cX9_fewest 260 = .ok (.bipush 7, 2) := by decide +kernel
theorem dX9_fewest_262 : decode cX9_fewest 262 = .ok (.invokevirtual 65, 3) := by decide +kernel
theorem dX9_fewest_265 : decode cX9_fewest 265 = .ok (.if_icmp .le 14, 3) := by decide +kernel
theorem dX9_fewest_268 : decode cX9_fewest 268 = .ok (.aload_n 0, 1) := by decide +kernel
theorem dX9_fewest_269 : decode cX9_fewest 269 = .ok (.getfield 28, 3) := by decide +kernel
theorem dX9_fewest_272 : decode cX9_fewest 272 = .ok (.iload 8, 2) := by decide +kernel
theorem dX9_fewest_274 : decode cX9_fewest 274 = .ok (.iload 6, 2) := by decide +kernel
theorem dX9_fewest_276 : decode cX9_fewest 276 = .ok (.iconst 1, 1) := by decide +kernel
theorem dX9_fewest_277 : decode cX9_fewest 277 = .ok (.iadd, 1) := by decide +kernel
theorem dX9_fewest_278 : decode cX9_fewest 278 = .ok (.iastore, 1) := by decide +kernel
theorem dX9_fewest_279 : decode cX9_fewest 279 = .ok (.iinc 8 1, 3) := by decide +kernel
theorem dX9_fewest_282 : decode cX9_fewest 282 = .ok (.goto (-128), 3) := by decide +kernel
theorem dX9_fewest_285 : decode cX9_fewest 285 = .ok (.iinc 7 1, 3) := by decide +kernel
theorem dX9_fewest_288 : decode cX9_fewest 288 = .ok (.goto (-148), 3) := by decide +kernel
theorem dX9_fewest_291 : decode cX9_fewest 291 = .ok (.iinc 6 1, 3) := by decide +kernel
theorem dX9_fewest_294 : decode cX9_fewest 294 = .ok (.goto (-226), 3) := by decide +kernel
theorem dX9_fewest_297 : decode cX9_fewest 297 = .ok (.bipush (-4), 2) := by decide +kernel
theorem dX9_fewest_299 : decode cX9_fewest 299 = .ok (.ireturn, 1) := by decide +kernel
theorem dX9_isState_0 : decode cX9_isState 0 = .ok (.aload_n 0, 1) := by decide +kernel
theorem dX9_isState_1 : decode cX9_isState 1 = .ok (.iload_n 1, 1) := by decide +kernel
theorem dX9_isState_2 : decode cX9_isState 2 = .ok (.invokevirtual 54, 3) := by decide +kernel
theorem dX9_isState_5 : decode cX9_isState 5 = .ok (.ifCond .eq 24, 3) := by decide +kernel
theorem dX9_isState_8 : decode cX9_isState 8 = .ok (.iload_n 2, 1) := by decide +kernel
theorem dX9_isState_9 : decode cX9_isState 9 = .ok (.iconst 0, 1) := by decide +kernel
theorem dX9_isState_10 : decode cX9_isState 10 = .ok (.aload_n 0, 1) := by decide +kernel
theorem dX9_isState_11 : decode cX9_isState 11 = .ok (.getfield 13, 3) := by decide +kernel
theorem dX9_isState_14 : decode cX9_isState 14 = .ok (.bipush 10, 2) := by decide +kernel
theorem dX9_isState_16 : decode cX9_isState 16 = .ok (.iload_n 1, 1) := by decide +kernel
theorem dX9_isState_17 : decode cX9_isState 17 = .ok (.iadd, 1) := by decide +kernel
theorem dX9_isState_18 : decode cX9_isState 18 = .ok (.iaload, 1) := by decide +kernel
theorem dX9_isState_19 : decode cX9_isState 19 = .ok (.invokestatic 50, 3) := by decide +kernel
theorem dX9_isState_22 : decode cX9_isState 22 = .ok (.ifCond .eq 7, 3) := by decide +kernel
theorem dX9_isState_25 : decode cX9_isState 25 = .ok (.iconst 1, 1) := by decide +kernel
theorem dX9_isState_26 : decode cX9_isState 26 = .ok (.goto 4, 3) := by decide +kernel
theorem dX9_isState_29 : decode cX9_isState 29 = .ok (.iconst 0, 1) := by decide +kernel
theorem dX9_isState_30 : decode cX9_isState 30 = .ok (.ireturn, 1) := by decide +kernel
theorem dX9_way_0 : decode cX9_way 0 = .ok (.aload_n 0, 1) := by decide +kernel
theorem dX9_way_1 : decode cX9_way 1 = .ok (.iload_n 1, 1) := by decide +kernel
theorem dX9_way_2 : decode cX9_way 2 = .ok (.iload_n 2, 1) := by decide +kernel
theorem dX9_way_3 : decode cX9_way 3 = .ok (.invokevirtual 142, 3) := by decide +kernel
theorem dX9_way_6 : decode cX9_way 6 = .ok (.ifCond .eq 26, 3) := by decide +kernel
theorem dX9_way_9 : decode cX9_way 9 = .ok (.aload_n 0, 1) := by decide +kernel
theorem dX9_way_10 : decode cX9_way 10 = .ok (.iload_n 3, 1) := by decide +kernel
theorem dX9_way_11 : decode cX9_way 11 = .ok (.iload 4, 2) := by decide +kernel
theorem dX9_way_13 : decode cX9_way 13 = .ok (.invokevirtual 142, 3) := by decide +kernel
theorem dX9_way_16 : decode cX9_way 16 = .ok (.ifCond .eq 16, 3) := by decide +kernel
theorem dX9_way_19 : decode cX9_way 19 = .ok (.aload_n 0, 1) := by decide +kernel
theorem dX9_way_20 : decode cX9_way 20 = .ok (.iload_n 1, 1) := by decide +kernel
theorem dX9_way_21 : decode cX9_way 21 = .ok (.iload_n 2, 1) := by decide +kernel
theorem dX9_way_22 : decode cX9_way 22 = .ok (.iload_n 3, 1) := by decide +kernel
theorem dX9_way_23 : decode cX9_way 23 = .ok (.iload 4, 2) := by decide +kernel
theorem dX9_way_25 : decode cX9_way 25 = .ok (.iconst 0, 1) := by decide +kernel
theorem dX9_way_26 : decode cX9_way 26 = .ok (.invokevirtual 145, 3) := by decide +kernel
theorem dX9_way_29 : decode cX9_way 29 = .ok (.goto 4, 3) := by decide +kernel
theorem dX9_way_32 : decode cX9_way 32 = .ok (.iconst (-1), 1) := by decide +kernel
theorem dX9_way_33 : decode cX9_way 33 = .ok (.ireturn, 1) := by decide +kernel
theorem dX9_cause_0 : decode cX9_cause 0 = .ok (.aload_n 0, 1) := by decide +kernel
theorem dX9_cause_1 : decode cX9_cause 1 = .ok (.iload_n 1, 1) := by decide +kernel
theorem dX9_cause_2 : decode cX9_cause 2 = .ok (.iload_n 2, 1) := by decide +kernel
theorem dX9_cause_3 : decode cX9_cause 3 = .ok (.invokevirtual 142, 3) := by decide +kernel
theorem dX9_cause_6 : decode cX9_cause 6 = .ok (.ifCond .eq 26, 3) := by decide +kernel
theorem dX9_cause_9 : decode cX9_cause 9 = .ok (.aload_n 0, 1) := by decide +kernel
theorem dX9_cause_10 : decode cX9_cause 10 = .ok (.iload_n 3, 1) := by decide +kernel
theorem dX9_cause_11 : decode cX9_cause 11 = .ok (.iload 4, 2) := by decide +kernel
theorem dX9_cause_13 : decode cX9_cause 13 = .ok (.invokevirtual 142, 3) := by decide +kernel
theorem dX9_cause_16 : decode cX9_cause 16 = .ok (.ifCond .eq 16, 3) := by decide +kernel
theorem dX9_cause_19 : decode cX9_cause 19 = .ok (.aload_n 0, 1) := by decide +kernel
theorem dX9_cause_20 : decode cX9_cause 20 = .ok (.iload_n 1, 1) := by decide +kernel
theorem dX9_cause_21 : decode cX9_cause 21 = .ok (.iload_n 2, 1) := by decide +kernel
theorem dX9_cause_22 : decode cX9_cause 22 = .ok (.iload_n 3, 1) := by decide +kernel
theorem dX9_cause_23 : decode cX9_cause 23 = .ok (.iload 4, 2) := by decide +kernel
theorem dX9_cause_25 : decode cX9_cause 25 = .ok (.iconst 1, 1) := by decide +kernel
theorem dX9_cause_26 : decode cX9_cause 26 = .ok (.invokevirtual 145, 3) := by decide +kernel
theorem dX9_cause_29 : decode cX9_cause 29 = .ok (.goto 4, 3) := by decide +kernel
theorem dX9_cause_32 : decode cX9_cause 32 = .ok (.iconst (-1), 1) := by decide +kernel
theorem dX9_cause_33 : decode cX9_cause 33 = .ok (.ireturn, 1) := by decide +kernel
theorem dX9_idle_0 : decode cX9_idle 0 = .ok (.aload_n 0, 1) := by decide +kernel
theorem dX9_idle_1 : decode cX9_idle 1 = .ok (.iload_n 1, 1) := by decide +kernel
theorem dX9_idle_2 : decode cX9_idle 2 = .ok (.iload_n 2, 1) := by decide +kernel
theorem dX9_idle_3 : decode cX9_idle 3 = .ok (.iload_n 1, 1) := by decide +kernel
theorem dX9_idle_4 : decode cX9_idle 4 = .ok (.iload_n 2, 1) := by decide +kernel
theorem dX9_idle_5 : decode cX9_idle 5 = .ok (.iconst 0, 1) := by decide +kernel
theorem dX9_idle_6 : decode cX9_idle 6 = .ok (.invokevirtual 145, 3) := by decide +kernel
theorem dX9_idle_9 : decode cX9_idle 9 = .ok (.ifCond .le 7, 3) := by decide +kernel
theorem dX9_idle_12 : decode cX9_idle 12 = .ok (.iconst 1, 1) := by decide +kernel
theorem dX9_idle_13 : decode cX9_idle 13 = .ok (.goto 4, 3) := by decide +kernel
theorem dX9_idle_16 : decode cX9_idle 16 = .ok (.iconst 0, 1) := by decide +kernel
theorem dX9_idle_17 : decode cX9_idle 17 = .ok (.ireturn, 1) := by decide +kernel
theorem dX9_needed_0 : decode cX9_needed 0 = .ok (.iconst 1, 1) := by decide +kernel
theorem dX9_needed_1 : decode cX9_needed 1 = .ok (.istore_n 3, 1) := by decide +kernel
theorem dX9_needed_2 : decode cX9_needed 2 = .ok (.iload_n 3, 1) := by decide +kernel
theorem dX9_needed_3 : decode cX9_needed 3 = .ok (.iconst 1, 1) := by decide +kernel
theorem dX9_needed_4 : decode cX9_needed 4 = .ok (.aload_n 0, 1) := by decide +kernel
theorem dX9_needed_5 : decode cX9_needed 5 = .ok (.getfield 13, 3) := by decide +kernel
theorem dX9_needed_8 : decode cX9_needed 8 = .ok (.iconst 0, 1) := by decide +kernel
theorem dX9_needed_9 : decode cX9_needed 9 = .ok (.iaload, 1) := by decide +kernel
theorem dX9_needed_10 : decode cX9_needed 10 = .ok (.ishl, 1) := by decide +kernel
theorem dX9_needed_11 : decode cX9_needed 11 = .ok (.if_icmp .ge 26, 3) := by decide +kernel
theorem dX9_needed_14 : decode cX9_needed 14 = .ok (.aload_n 0, 1) := by decide +kernel
theorem dX9_needed_15 : decode cX9_needed 15 = .ok (.iload_n 3, 1) := by decide +kernel
theorem dX9_needed_16 : decode cX9_needed 16 = .ok (.invokevirtual 130, 3) := by decide +kernel
theorem dX9_needed_19 : decode cX9_needed 19 = .ok (.aload_n 0, 1) := by decide +kernel
theorem dX9_needed_20 : decode cX9_needed 20 = .ok (.getfield 22, 3) := by decide +kernel
theorem dX9_needed_23 : decode cX9_needed 23 = .ok (.iload_n 1, 1) := by decide +kernel
theorem dX9_needed_24 : decode cX9_needed 24 = .ok (.iaload, 1) := by decide +kernel
theorem dX9_needed_25 : decode cX9_needed 25 = .ok (.iload_n 2, 1) := by decide +kernel
theorem dX9_needed_26 : decode cX9_needed 26 = .ok (.if_icmp .ne 5, 3) := by decide +kernel
theorem dX9_needed_29 : decode cX9_needed 29 = .ok (.iconst 1, 1) := by decide +kernel
theorem dX9_needed_30 : decode cX9_needed 30 = .ok (.ireturn, 1) := by decide +kernel
theorem dX9_needed_31 : decode cX9_needed 31 = .ok (.iinc 3 1, 3) := by decide +kernel
theorem dX9_needed_34 : decode cX9_needed 34 = .ok (.goto (-32), 3) := by decide +kernel
theorem dX9_needed_37 : decode cX9_needed 37 = .ok (.iconst 0, 1) := by decide +kernel
theorem dX9_needed_38 : decode cX9_needed 38 = .ok (.ireturn, 1) := by decide +kernel
theorem dX9_savedThat_0 : decode cX9_savedThat 0 = .ok (.iconst 0, 1) := by decide +kernel
theorem dX9_savedThat_1 : decode cX9_savedThat 1 = .ok (.istore_n 3, 1) := by decide +kernel
theorem dX9_savedThat_2 : decode cX9_savedThat 2 = .ok (.iconst 0, 1) := by decide +kernel
theorem dX9_savedThat_3 : decode cX9_savedThat 3 = .ok (.istore 4, 2) := by decide +kernel
theorem dX9_savedThat_5 : decode cX9_savedThat 5 = .ok (.iload 4, 2) := by decide +kernel
theorem dX9_savedThat_7 : decode cX9_savedThat 7 = .ok (.aload_n 0, 1) := by decide +kernel
theorem dX9_savedThat_8 : decode cX9_savedThat 8 = .ok (.getfield 13, 3) := by decide +kernel
theorem dX9_savedThat_11 : decode cX9_savedThat 11 = .ok (.bipush 10, 2) := by decide +kernel
theorem dX9_savedThat_13 : decode cX9_savedThat 13 = .ok (.iload_n 1, 1) := by decide +kernel
theorem dX9_savedThat_14 : decode cX9_savedThat 14 = .ok (.iadd, 1) := by decide +kernel
theorem dX9_savedThat_15 : decode cX9_savedThat 15 = .ok (.iaload, 1) := by decide +kernel
theorem dX9_savedThat_16 : decode cX9_savedThat 16 = .ok (.if_icmp .ge 81, 3) := by decide +kernel
theorem dX9_savedThat_19 : decode cX9_savedThat 19 = .ok (.iload_n 3, 1) := by decide +kernel
theorem dX9_savedThat_20 : decode cX9_savedThat 20 = .ok (.iload_n 2, 1) := by decide +kernel
theorem dX9_savedThat_21 : decode cX9_savedThat 21 = .ok (.iconst 2, 1) := by decide +kernel
theorem dX9_savedThat_22 : decode cX9_savedThat 22 = .ok (.if_icmp .ne 21, 3) := by decide +kernel
theorem dX9_savedThat_25 : decode cX9_savedThat 25 = .ok (.aload_n 0, 1) := by decide +kernel
theorem dX9_savedThat_26 : decode cX9_savedThat 26 = .ok (.getfield 13, 3) := by decide +kernel
theorem dX9_savedThat_29 : decode cX9_savedThat 29 = .ok (.bipush 110, 2) := by decide +kernel
theorem dX9_savedThat_31 : decode cX9_savedThat 31 = .ok (.bipush 12, 2) := by decide +kernel
theorem dX9_savedThat_33 : decode cX9_savedThat 33 = .ok (.iload_n 1, 1) := by decide +kernel
theorem dX9_savedThat_34 : decode cX9_savedThat 34 = .ok (.imul, 1) := by decide +kernel
theorem dX9_savedThat_35 : decode cX9_savedThat 35 = .ok (.iadd, 1) := by decide +kernel
theorem dX9_savedThat_36 : decode cX9_savedThat 36 = .ok (.iload 4, 2) := by decide +kernel
theorem dX9_savedThat_38 : decode cX9_savedThat 38 = .ok (.iadd, 1) := by decide +kernel
theorem dX9_savedThat_39 : decode cX9_savedThat 39 = .ok (.iaload, 1) := by decide +kernel
theorem dX9_savedThat_40 : decode cX9_savedThat 40 = .ok (.goto 49, 3) := by decide +kernel
theorem dX9_savedThat_43 : decode cX9_savedThat 43 = .ok (.iload_n 2, 1) := by decide +kernel
theorem dX9_savedThat_44 : decode cX9_savedThat 44 = .ok (.iconst 3, 1) := by decide +kernel
theorem dX9_savedThat_45 : decode cX9_savedThat 45 = .ok (.if_icmp .ne 22, 3) := by decide +kernel
theorem dX9_savedThat_48 : decode cX9_savedThat 48 = .ok (.aload_n 0, 1) := by decide +kernel
theorem dX9_savedThat_49 : decode cX9_savedThat 49 = .ok (.getfield 13, 3) := by decide +kernel
theorem dX9_savedThat_52 : decode cX9_savedThat 52 = .ok (.sipush 170, 3) := by decide +kernel
theorem dX9_savedThat_55 : decode cX9_savedThat 55 = .ok (.bipush 12, 2) := by decide +kernel
theorem dX9_savedThat_57 : decode cX9_savedThat 57 = .ok (.iload_n 1, 1) := by decide +kernel
theorem dX9_savedThat_58 : decode cX9_savedThat 58 = .ok (.imul, 1) := by decide +kernel
theorem dX9_savedThat_59 : decode cX9_savedThat 59 = .ok (.iadd, 1) := by decide +kernel
theorem dX9_savedThat_60 : decode cX9_savedThat 60 = .ok (.iload 4, 2) := by decide +kernel
theorem dX9_savedThat_62 : decode cX9_savedThat 62 = .ok (.iadd, 1) := by decide +kernel
theorem dX9_savedThat_63 : decode cX9_savedThat 63 = .ok (.iaload, 1) := by decide +kernel
theorem dX9_savedThat_64 : decode cX9_savedThat 64 = .ok (.goto 25, 3) := by decide +kernel
theorem dX9_savedThat_67 : decode cX9_savedThat 67 = .ok (.iload_n 2, 1) := by decide +kernel
theorem dX9_savedThat_68 : decode cX9_savedThat 68 = .ok (.iconst 4, 1) := by decide +kernel
theorem dX9_savedThat_69 : decode cX9_savedThat 69 = .ok (.if_icmp .ne 13, 3) := by decide +kernel
theorem dX9_savedThat_72 : decode cX9_savedThat 72 = .ok (.aload_n 0, 1) := by decide +kernel
theorem dX9_savedThat_73 : decode cX9_savedThat 73 = .ok (.iload_n 1, 1) := by decide +kernel
theorem dX9_savedThat_74 : decode cX9_savedThat 74 = .ok (.iload 4, 2) := by decide +kernel
theorem dX9_savedThat_76 : decode cX9_savedThat 76 = .ok (.invokevirtual 149, 3) := by decide +kernel
theorem dX9_savedThat_79 : decode cX9_savedThat 79 = .ok (.goto 10, 3) := by decide +kernel
theorem dX9_savedThat_82 : decode cX9_savedThat 82 = .ok (.aload_n 0, 1) := by decide +kernel
theorem dX9_savedThat_83 : decode cX9_savedThat 83 = .ok (.iload_n 1, 1) := by decide +kernel
theorem dX9_savedThat_84 : decode cX9_savedThat 84 = .ok (.iload 4, 2) := by decide +kernel
theorem dX9_savedThat_86 : decode cX9_savedThat 86 = .ok (.invokevirtual 152, 3) := by decide +kernel
theorem dX9_savedThat_89 : decode cX9_savedThat 89 = .ok (.iadd, 1) := by decide +kernel
theorem dX9_savedThat_90 : decode cX9_savedThat 90 = .ok (.istore_n 3, 1) := by decide +kernel
theorem dX9_savedThat_91 : decode cX9_savedThat 91 = .ok (.iinc 4 1, 3) := by decide +kernel
theorem dX9_savedThat_94 : decode cX9_savedThat 94 = .ok (.goto (-89), 3) := by decide +kernel
theorem dX9_savedThat_97 : decode cX9_savedThat 97 = .ok (.iload_n 3, 1) := by decide +kernel
theorem dX9_savedThat_98 : decode cX9_savedThat 98 = .ok (.ireturn, 1) := by decide +kernel
theorem dX9_process_0 : decode cX9_process 0 = .ok (.aload_n 0, 1) := by decide +kernel
theorem dX9_process_1 : decode cX9_process 1 = .ok (.iload_n 1, 1) := by decide +kernel
theorem dX9_process_2 : decode cX9_process 2 = .ok (.invokevirtual 54, 3) := by decide +kernel
theorem dX9_process_5 : decode cX9_process 5 = .ok (.ifCond .eq 13, 3) := by decide +kernel
theorem dX9_process_8 : decode cX9_process 8 = .ok (.iload_n 2, 1) := by decide +kernel
theorem dX9_process_9 : decode cX9_process 9 = .ok (.iconst 0, 1) := by decide +kernel
theorem dX9_process_10 : decode cX9_process 10 = .ok (.bipush 6, 2) := by decide +kernel
theorem dX9_process_12 : decode cX9_process 12 = .ok (.invokestatic 50, 3) := by decide +kernel
theorem dX9_process_15 : decode cX9_process 15 = .ok (.ifCond .ne 5, 3) := by decide +kernel
theorem dX9_process_18 : decode cX9_process 18 = .ok (.iconst (-1), 1) := by decide +kernel
theorem dX9_process_19 : decode cX9_process 19 = .ok (.ireturn, 1) := by decide +kernel
theorem dX9_process_20 : decode cX9_process 20 = .ok (.iload_n 2, 1) := by decide +kernel
theorem dX9_process_21 : decode cX9_process 21 = .ok (.iconst 2, 1) := by decide +kernel
theorem dX9_process_22 : decode cX9_process 22 = .ok (.if_icmp .ge 29, 3) := by decide +kernel
theorem dX9_process_25 : decode cX9_process 25 = .ok (.iload_n 2, 1) := by decide +kernel
theorem dX9_process_26 : decode cX9_process 26 = .ok (.ifCond .ne 15, 3) := by decide +kernel
theorem dX9_process_29 : decode cX9_process 29 = .ok (.aload_n 0, 1) := by decide +kernel
theorem dX9_process_30 : decode cX9_process 30 = .ok (.getfield 13, 3) := by decide +kernel
theorem dX9_process_33 : decode cX9_process 33 = .ok (.bipush 10, 2) := by decide +kernel
theorem dX9_process_35 : decode cX9_process 35 = .ok (.iload_n 1, 1) := by decide +kernel
theorem dX9_process_36 : decode cX9_process 36 = .ok (.iadd, 1) := by decide +kernel
theorem dX9_process_37 : decode cX9_process 37 = .ok (.iaload, 1) := by decide +kernel
theorem dX9_process_38 : decode cX9_process 38 = .ok (.goto 12, 3) := by decide +kernel
theorem dX9_process_41 : decode cX9_process 41 = .ok (.aload_n 0, 1) := by decide +kernel
theorem dX9_process_42 : decode cX9_process 42 = .ok (.getfield 13, 3) := by decide +kernel
theorem dX9_process_45 : decode cX9_process 45 = .ok (.bipush 15, 2) := by decide +kernel
theorem dX9_process_47 : decode cX9_process 47 = .ok (.iload_n 1, 1) := by decide +kernel
theorem dX9_process_48 : decode cX9_process 48 = .ok (.iadd, 1) := by decide +kernel
theorem dX9_process_49 : decode cX9_process 49 = .ok (.iaload, 1) := by decide +kernel
theorem dX9_process_50 : decode cX9_process 50 = .ok (.ireturn, 1) := by decide +kernel
theorem dX9_process_51 : decode cX9_process 51 = .ok (.iload_n 2, 1) := by decide +kernel
theorem dX9_process_52 : decode cX9_process 52 = .ok (.bipush 6, 2) := by decide +kernel
theorem dX9_process_54 : decode cX9_process 54 = .ok (.if_icmp .ne 11, 3) := by decide +kernel
theorem dX9_process_57 : decode cX9_process 57 = .ok (.aload_n 0, 1) := by decide +kernel
theorem dX9_process_58 : decode cX9_process 58 = .ok (.iload_n 1, 1) := by decide +kernel
theorem dX9_process_59 : decode cX9_process 59 = .ok (.invokevirtual 69, 3) := by decide +kernel
theorem dX9_process_62 : decode cX9_process 62 = .ok (.goto 9, 3) := by decide +kernel
theorem dX9_process_65 : decode cX9_process 65 = .ok (.aload_n 0, 1) := by decide +kernel
theorem dX9_process_66 : decode cX9_process 66 = .ok (.iload_n 1, 1) := by decide +kernel
theorem dX9_process_67 : decode cX9_process 67 = .ok (.iload_n 2, 1) := by decide +kernel
theorem dX9_process_68 : decode cX9_process 68 = .ok (.invokevirtual 155, 3) := by decide +kernel
theorem dX9_process_71 : decode cX9_process 71 = .ok (.ireturn, 1) := by decide +kernel
theorem dX9_knows_0 : decode cX9_knows 0 = .ok (.aload_n 0, 1) := by decide +kernel
theorem dX9_knows_1 : decode cX9_knows 1 = .ok (.iload_n 1, 1) := by decide +kernel
theorem dX9_knows_2 : decode cX9_knows 2 = .ok (.iload_n 2, 1) := by decide +kernel
theorem dX9_knows_3 : decode cX9_knows 3 = .ok (.invokevirtual 142, 3) := by decide +kernel
theorem dX9_knows_6 : decode cX9_knows 6 = .ok (.ifCond .eq 11, 3) := by decide +kernel
theorem dX9_knows_9 : decode cX9_knows 9 = .ok (.aload_n 0, 1) := by decide +kernel
theorem dX9_knows_10 : decode cX9_knows 10 = .ok (.iload_n 3, 1) := by decide +kernel
theorem dX9_knows_11 : decode cX9_knows 11 = .ok (.invokevirtual 54, 3) := by decide +kernel
theorem dX9_knows_14 : decode cX9_knows 14 = .ok (.ifCond .ne 5, 3) := by decide +kernel
theorem dX9_knows_17 : decode cX9_knows 17 = .ok (.iconst (-1), 1) := by decide +kernel
theorem dX9_knows_18 : decode cX9_knows 18 = .ok (.ireturn, 1) := by decide +kernel
theorem dX9_knows_19 : decode cX9_knows 19 = .ok (.iload_n 2, 1) := by decide +kernel
theorem dX9_knows_20 : decode cX9_knows 20 = .ok (.aload_n 0, 1) := by decide +kernel
theorem dX9_knows_21 : decode cX9_knows 21 = .ok (.getfield 13, 3) := by decide +kernel
theorem dX9_knows_24 : decode cX9_knows 24 = .ok (.bipush 10, 2) := by decide +kernel
theorem dX9_knows_26 : decode cX9_knows 26 = .ok (.iload_n 1, 1) := by decide +kernel
theorem dX9_knows_27 : decode cX9_knows 27 = .ok (.iadd, 1) := by decide +kernel
theorem dX9_knows_28 : decode cX9_knows 28 = .ok (.iaload, 1) := by decide +kernel
theorem dX9_knows_29 : decode cX9_knows 29 = .ok (.if_icmp .ne 19, 3) := by decide +kernel
theorem dX9_knows_32 : decode cX9_knows 32 = .ok (.aload_n 0, 1) := by decide +kernel
theorem dX9_knows_33 : decode cX9_knows 33 = .ok (.getfield 13, 3) := by decide +kernel
theorem dX9_knows_36 : decode cX9_knows 36 = .ok (.bipush 20, 2) := by decide +kernel
theorem dX9_knows_38 : decode cX9_knows 38 = .ok (.iconst 5, 1) := by decide +kernel
theorem dX9_knows_39 : decode cX9_knows 39 = .ok (.iload_n 1, 1) := by decide +kernel
theorem dX9_knows_40 : decode cX9_knows 40 = .ok (.imul, 1) := by decide +kernel
theorem dX9_knows_41 : decode cX9_knows 41 = .ok (.iadd, 1) := by decide +kernel
theorem dX9_knows_42 : decode cX9_knows 42 = .ok (.iload_n 3, 1) := by decide +kernel
theorem dX9_knows_43 : decode cX9_knows 43 = .ok (.iadd, 1) := by decide +kernel
theorem dX9_knows_44 : decode cX9_knows 44 = .ok (.iaload, 1) := by decide +kernel
theorem dX9_knows_45 : decode cX9_knows 45 = .ok (.goto 22, 3) := by decide +kernel
theorem dX9_knows_48 : decode cX9_knows 48 = .ok (.aload_n 0, 1) := by decide +kernel
theorem dX9_knows_49 : decode cX9_knows 49 = .ok (.getfield 13, 3) := by decide +kernel
theorem dX9_knows_52 : decode cX9_knows 52 = .ok (.sipush 230, 3) := by decide +kernel
theorem dX9_knows_55 : decode cX9_knows 55 = .ok (.iconst 5, 1) := by decide +kernel
theorem dX9_knows_56 : decode cX9_knows 56 = .ok (.bipush 12, 2) := by decide +kernel
theorem dX9_knows_58 : decode cX9_knows 58 = .ok (.iload_n 1, 1) := by decide +kernel
theorem dX9_knows_59 : decode cX9_knows 59 = .ok (.imul, 1) := by decide +kernel
theorem dX9_knows_60 : decode cX9_knows 60 = .ok (.iload_n 2, 1) := by decide +kernel
theorem dX9_knows_61 : decode cX9_knows 61 = .ok (.iadd, 1) := by decide +kernel
theorem dX9_knows_62 : decode cX9_knows 62 = .ok (.imul, 1) := by decide +kernel
theorem dX9_knows_63 : decode cX9_knows 63 = .ok (.iadd, 1) := by decide +kernel
theorem dX9_knows_64 : decode cX9_knows 64 = .ok (.iload_n 3, 1) := by decide +kernel
theorem dX9_knows_65 : decode cX9_knows 65 = .ok (.iadd, 1) := by decide +kernel
theorem dX9_knows_66 : decode cX9_knows 66 = .ok (.iaload, 1) := by decide +kernel
theorem dX9_knows_67 : decode cX9_knows 67 = .ok (.ireturn, 1) := by decide +kernel
theorem dX9_saved_0 : decode cX9_saved 0 = .ok (.aload_n 0, 1) := by decide +kernel
theorem dX9_saved_1 : decode cX9_saved 1 = .ok (.iload_n 1, 1) := by decide +kernel
theorem dX9_saved_2 : decode cX9_saved 2 = .ok (.invokevirtual 54, 3) := by decide +kernel
theorem dX9_saved_5 : decode cX9_saved 5 = .ok (.ifCond .eq 31, 3) := by decide +kernel
