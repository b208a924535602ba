theorem dX9_send_131 : decode cX9_send 131 = .ok (.iconst 0, 1) := by decide +kernel
theorem dX9_send_132 : decode cX9_send 132 = .ok (.istore 4, 2) := by decide +kernel
theorem dX9_send_134 : decode cX9_send 134 = .ok (.iload 4, 2) := by decide +kernel
theorem dX9_send_136 : decode cX9_send 136 = .ok (.iconst 5, 1) := by decide +kernel
theorem dX9_send_137 : decode cX9_send 137 = .ok (.if_icmp .ge 33, 3) := by decide +kernel
theorem dX9_send_140 : decode cX9_send 140 = .ok (.aload_n 0, 1) := by decide +kernel
theorem dX9_send_141 : decode cX9_send 141 = .ok (.iload_n 3, 1) := by decide +kernel
theorem dX9_send_142 : decode cX9_send 142 = .ok (.bipush 8, 2) := by decide +kernel
theorem dX9_send_144 : decode cX9_send 144 = .ok (.iload 4, 2) := by decide +kernel
theorem dX9_send_146 : decode cX9_send 146 = .ok (.iadd, 1) := by decide +kernel
theorem dX9_send_147 : decode cX9_send 147 = .ok (.aload_n 0, 1) := by decide +kernel
theorem dX9_send_148 : decode cX9_send 148 = .ok (.getfield 13, 3) := by decide +kernel
theorem dX9_send_151 : decode cX9_send 151 = .ok (.bipush 20, 2) := by decide +kernel
theorem dX9_send_153 : decode cX9_send 153 = .ok (.iconst 5, 1) := by decide +kernel
theorem dX9_send_154 : decode cX9_send 154 = .ok (.iload_n 1, 1) := by decide +kernel
theorem dX9_send_155 : decode cX9_send 155 = .ok (.imul, 1) := by decide +kernel
theorem dX9_send_156 : decode cX9_send 156 = .ok (.iadd, 1) := by decide +kernel
theorem dX9_send_157 : decode cX9_send 157 = .ok (.iload 4, 2) := by decide +kernel
theorem dX9_send_159 : decode cX9_send 159 = .ok (.iadd, 1) := by decide +kernel
theorem dX9_send_160 : decode cX9_send 160 = .ok (.iaload, 1) := by decide +kernel
theorem dX9_send_161 : decode cX9_send 161 = .ok (.invokevirtual 62, 3) := by decide +kernel
theorem dX9_send_164 : decode cX9_send 164 = .ok (.iinc 4 1, 3) := by decide +kernel
theorem dX9_send_167 : decode cX9_send 167 = .ok (.goto (-33), 3) := by decide +kernel
theorem dX9_send_170 : decode cX9_send 170 = .ok (.aload_n 0, 1) := by decide +kernel
theorem dX9_send_171 : decode cX9_send 171 = .ok (.getfield 13, 3) := by decide +kernel
theorem dX9_send_174 : decode cX9_send 174 = .ok (.iconst 4, 1) := by decide +kernel
theorem dX9_send_175 : decode cX9_send 175 = .ok (.dup2, 1) := by decide +kernel
theorem dX9_send_176 : decode cX9_send 176 = .ok (.iaload, 1) := by decide +kernel
theorem dX9_send_177 : decode cX9_send 177 = .ok (.iconst 1, 1) := by decide +kernel
theorem dX9_send_178 : decode cX9_send 178 = .ok (.iadd, 1) := by decide +kernel
theorem dX9_send_179 : decode cX9_send 179 = .ok (.iastore, 1) := by decide +kernel
theorem dX9_send_180 : decode cX9_send 180 = .ok (.aload_n 0, 1) := by decide +kernel
theorem dX9_send_181 : decode cX9_send 181 = .ok (.getfield 13, 3) := by decide +kernel
theorem dX9_send_184 : decode cX9_send 184 = .ok (.sipush 1310, 3) := by decide +kernel
theorem dX9_send_187 : decode cX9_send 187 = .ok (.aload_n 0, 1) := by decide +kernel
theorem dX9_send_188 : decode cX9_send 188 = .ok (.getfield 13, 3) := by decide +kernel
theorem dX9_send_191 : decode cX9_send 191 = .ok (.iconst 3, 1) := by decide +kernel
theorem dX9_send_192 : decode cX9_send 192 = .ok (.iaload, 1) := by decide +kernel
theorem dX9_send_193 : decode cX9_send 193 = .ok (.iadd, 1) := by decide +kernel
theorem dX9_send_194 : decode cX9_send 194 = .ok (.iload_n 3, 1) := by decide +kernel
theorem dX9_send_195 : decode cX9_send 195 = .ok (.iastore, 1) := by decide +kernel
theorem dX9_send_196 : decode cX9_send 196 = .ok (.aload_n 0, 1) := by decide +kernel
theorem dX9_send_197 : decode cX9_send 197 = .ok (.getfield 13, 3) := by decide +kernel
theorem dX9_send_200 : decode cX9_send 200 = .ok (.iconst 3, 1) := by decide +kernel
theorem dX9_send_201 : decode cX9_send 201 = .ok (.dup2, 1) := by decide +kernel
theorem dX9_send_202 : decode cX9_send 202 = .ok (.iaload, 1) := by decide +kernel
theorem dX9_send_203 : decode cX9_send 203 = .ok (.iconst 1, 1) := by decide +kernel
theorem dX9_send_204 : decode cX9_send 204 = .ok (.iadd, 1) := by decide +kernel
theorem dX9_send_205 : decode cX9_send 205 = .ok (.iastore, 1) := by decide +kernel
theorem dX9_send_206 : decode cX9_send 206 = .ok (.iload_n 3, 1) := by decide +kernel
theorem dX9_send_207 : decode cX9_send 207 = .ok (.ireturn, 1) := by decide +kernel
theorem dX9_sentNow_0 : decode cX9_sentNow 0 = .ok (.iconst 0, 1) := by decide +kernel
theorem dX9_sentNow_1 : decode cX9_sentNow 1 = .ok (.istore_n 2, 1) := by decide +kernel
theorem dX9_sentNow_2 : decode cX9_sentNow 2 = .ok (.iconst 0, 1) := by decide +kernel
theorem dX9_sentNow_3 : decode cX9_sentNow 3 = .ok (.istore_n 3, 1) := by decide +kernel
theorem dX9_sentNow_4 : decode cX9_sentNow 4 = .ok (.iload_n 3, 1) := by decide +kernel
theorem dX9_sentNow_5 : decode cX9_sentNow 5 = .ok (.aload_n 0, 1) := by decide +kernel
theorem dX9_sentNow_6 : decode cX9_sentNow 6 = .ok (.getfield 13, 3) := by decide +kernel
theorem dX9_sentNow_9 : decode cX9_sentNow 9 = .ok (.iconst 2, 1) := by decide +kernel
theorem dX9_sentNow_10 : decode cX9_sentNow 10 = .ok (.iaload, 1) := by decide +kernel
theorem dX9_sentNow_11 : decode cX9_sentNow 11 = .ok (.if_icmp .ge 57, 3) := by decide +kernel
theorem dX9_sentNow_14 : decode cX9_sentNow 14 = .ok (.iload_n 2, 1) := by decide +kernel
theorem dX9_sentNow_15 : decode cX9_sentNow 15 = .ok (.aload_n 0, 1) := by decide +kernel
theorem dX9_sentNow_16 : decode cX9_sentNow 16 = .ok (.iload_n 3, 1) := by decide +kernel
theorem dX9_sentNow_17 : decode cX9_sentNow 17 = .ok (.iconst 0, 1) := by decide +kernel
theorem dX9_sentNow_18 : decode cX9_sentNow 18 = .ok (.invokevirtual 65, 3) := by decide +kernel
theorem dX9_sentNow_21 : decode cX9_sentNow 21 = .ok (.iload_n 1, 1) := by decide +kernel
theorem dX9_sentNow_22 : decode cX9_sentNow 22 = .ok (.if_icmp .ne 37, 3) := by decide +kernel
theorem dX9_sentNow_25 : decode cX9_sentNow 25 = .ok (.aload_n 0, 1) := by decide +kernel
theorem dX9_sentNow_26 : decode cX9_sentNow 26 = .ok (.iload_n 3, 1) := by decide +kernel
theorem dX9_sentNow_27 : decode cX9_sentNow 27 = .ok (.iconst 2, 1) := by decide +kernel
theorem dX9_sentNow_28 : decode cX9_sentNow 28 = .ok (.invokevirtual 65, 3) := by decide +kernel
theorem dX9_sentNow_31 : decode cX9_sentNow 31 = .ok (.aload_n 0, 1) := by decide +kernel
theorem dX9_sentNow_32 : decode cX9_sentNow 32 = .ok (.getfield 13, 3) := by decide +kernel
theorem dX9_sentNow_35 : decode cX9_sentNow 35 = .ok (.bipush 10, 2) := by decide +kernel
theorem dX9_sentNow_37 : decode cX9_sentNow 37 = .ok (.iload_n 1, 1) := by decide +kernel
theorem dX9_sentNow_38 : decode cX9_sentNow 38 = .ok (.iadd, 1) := by decide +kernel
theorem dX9_sentNow_39 : decode cX9_sentNow 39 = .ok (.iaload, 1) := by decide +kernel
theorem dX9_sentNow_40 : decode cX9_sentNow 40 = .ok (.iconst 1, 1) := by decide +kernel
theorem dX9_sentNow_41 : decode cX9_sentNow 41 = .ok (.isub, 1) := by decide +kernel
theorem dX9_sentNow_42 : decode cX9_sentNow 42 = .ok (.if_icmp .ne 17, 3) := by decide +kernel
theorem dX9_sentNow_45 : decode cX9_sentNow 45 = .ok (.aload_n 0, 1) := by decide +kernel
theorem dX9_sentNow_46 : decode cX9_sentNow 46 = .ok (.iload_n 3, 1) := by decide +kernel
theorem dX9_sentNow_47 : decode cX9_sentNow 47 = .ok (.iconst 5, 1) := by decide +kernel
theorem dX9_sentNow_48 : decode cX9_sentNow 48 = .ok (.invokevirtual 65, 3) := by decide +kernel
theorem dX9_sentNow_51 : decode cX9_sentNow 51 = .ok (.iconst 2, 1) := by decide +kernel
theorem dX9_sentNow_52 : decode cX9_sentNow 52 = .ok (.if_icmp .ge 7, 3) := by decide +kernel
theorem dX9_sentNow_55 : decode cX9_sentNow 55 = .ok (.iconst 1, 1) := by decide +kernel
theorem dX9_sentNow_56 : decode cX9_sentNow 56 = .ok (.goto 4, 3) := by decide +kernel
theorem dX9_sentNow_59 : decode cX9_sentNow 59 = .ok (.iconst 0, 1) := by decide +kernel
theorem dX9_sentNow_60 : decode cX9_sentNow 60 = .ok (.iadd, 1) := by decide +kernel
theorem dX9_sentNow_61 : decode cX9_sentNow 61 = .ok (.istore_n 2, 1) := by decide +kernel
theorem dX9_sentNow_62 : decode cX9_sentNow 62 = .ok (.iinc 3 1, 3) := by decide +kernel
theorem dX9_sentNow_65 : decode cX9_sentNow 65 = .ok (.goto (-61), 3) := by decide +kernel
theorem dX9_sentNow_68 : decode cX9_sentNow 68 = .ok (.iload_n 2, 1) := by decide +kernel
theorem dX9_sentNow_69 : decode cX9_sentNow 69 = .ok (.ireturn, 1) := by decide +kernel
theorem dX9_isForced_0 : decode cX9_isForced 0 = .ok (.aload_n 0, 1) := by decide +kernel
theorem dX9_isForced_1 : decode cX9_isForced 1 = .ok (.iload_n 1, 1) := by decide +kernel
theorem dX9_isForced_2 : decode cX9_isForced 2 = .ok (.iconst 1, 1) := by decide +kernel
theorem dX9_isForced_3 : decode cX9_isForced 3 = .ok (.invokevirtual 65, 3) := by decide +kernel
theorem dX9_isForced_6 : decode cX9_isForced 6 = .ok (.istore_n 2, 1) := by decide +kernel
theorem dX9_isForced_7 : decode cX9_isForced 7 = .ok (.aload_n 0, 1) := by decide +kernel
theorem dX9_isForced_8 : decode cX9_isForced 8 = .ok (.getfield 13, 3) := by decide +kernel
theorem dX9_isForced_11 : decode cX9_isForced 11 = .ok (.iconst 1, 1) := by decide +kernel
theorem dX9_isForced_12 : decode cX9_isForced 12 = .ok (.iaload, 1) := by decide +kernel
theorem dX9_isForced_13 : decode cX9_isForced 13 = .ok (.iconst 1, 1) := by decide +kernel
theorem dX9_isForced_14 : decode cX9_isForced 14 = .ok (.if_icmp .ne 27, 3) := by decide +kernel
theorem dX9_isForced_17 : decode cX9_isForced 17 = .ok (.aload_n 0, 1) := by decide +kernel
theorem dX9_isForced_18 : decode cX9_isForced 18 = .ok (.iload_n 1, 1) := by decide +kernel
theorem dX9_isForced_19 : decode cX9_isForced 19 = .ok (.iconst 4, 1) := by decide +kernel
theorem dX9_isForced_20 : decode cX9_isForced 20 = .ok (.invokevirtual 65, 3) := by decide +kernel
theorem dX9_isForced_23 : decode cX9_isForced 23 = .ok (.aload_n 0, 1) := by decide +kernel
theorem dX9_isForced_24 : decode cX9_isForced 24 = .ok (.getfield 13, 3) := by decide +kernel
theorem dX9_isForced_27 : decode cX9_isForced 27 = .ok (.bipush 15, 2) := by decide +kernel
theorem dX9_isForced_29 : decode cX9_isForced 29 = .ok (.iload_n 2, 1) := by decide +kernel
theorem dX9_isForced_30 : decode cX9_isForced 30 = .ok (.iadd, 1) := by decide +kernel
theorem dX9_isForced_31 : decode cX9_isForced 31 = .ok (.iaload, 1) := by decide +kernel
theorem dX9_isForced_32 : decode cX9_isForced 32 = .ok (.if_icmp .le 7, 3) := by decide +kernel
theorem dX9_isForced_35 : decode cX9_isForced 35 = .ok (.iconst 1, 1) := by decide +kernel
theorem dX9_isForced_36 : decode cX9_isForced 36 = .ok (.goto 4, 3) := by decide +kernel
theorem dX9_isForced_39 : decode cX9_isForced 39 = .ok (.iconst 0, 1) := by decide +kernel
theorem dX9_isForced_40 : decode cX9_isForced 40 = .ok (.ireturn, 1) := by decide +kernel
theorem dX9_isForced_41 : decode cX9_isForced 41 = .ok (.aload_n 0, 1) := by decide +kernel
theorem dX9_isForced_42 : decode cX9_isForced 42 = .ok (.getfield 13, 3) := by decide +kernel
theorem dX9_isForced_45 : decode cX9_isForced 45 = .ok (.iconst 1, 1) := by decide +kernel
theorem dX9_isForced_46 : decode cX9_isForced 46 = .ok (.iaload, 1) := by decide +kernel
theorem dX9_isForced_47 : decode cX9_isForced 47 = .ok (.ifCond .eq 11, 3) := by decide +kernel
theorem dX9_isForced_50 : decode cX9_isForced 50 = .ok (.aload_n 0, 1) := by decide +kernel
theorem dX9_isForced_51 : decode cX9_isForced 51 = .ok (.iload_n 2, 1) := by decide +kernel
theorem dX9_isForced_52 : decode cX9_isForced 52 = .ok (.invokevirtual 69, 3) := by decide +kernel
theorem dX9_isForced_55 : decode cX9_isForced 55 = .ok (.ifCond .ne 5, 3) := by decide +kernel
theorem dX9_isForced_58 : decode cX9_isForced 58 = .ok (.iconst 0, 1) := by decide +kernel
theorem dX9_isForced_59 : decode cX9_isForced 59 = .ok (.ireturn, 1) := by decide +kernel
theorem dX9_isForced_60 : decode cX9_isForced 60 = .ok (.aload_n 0, 1) := by decide +kernel
theorem dX9_isForced_61 : decode cX9_isForced 61 = .ok (.getfield 13, 3) := by decide +kernel
theorem dX9_isForced_64 : decode cX9_isForced 64 = .ok (.iconst 1, 1) := by decide +kernel
theorem dX9_isForced_65 : decode cX9_isForced 65 = .ok (.iaload, 1) := by decide +kernel
theorem dX9_isForced_66 : decode cX9_isForced 66 = .ok (.iconst 3, 1) := by decide +kernel
theorem dX9_isForced_67 : decode cX9_isForced 67 = .ok (.if_icmp .ne 7, 3) := by decide +kernel
theorem dX9_isForced_70 : decode cX9_isForced 70 = .ok (.iconst 1, 1) := by decide +kernel
theorem dX9_isForced_71 : decode cX9_isForced 71 = .ok (.goto 4, 3) := by decide +kernel
theorem dX9_isForced_74 : decode cX9_isForced 74 = .ok (.iconst 0, 1) := by decide +kernel
theorem dX9_isForced_75 : decode cX9_isForced 75 = .ok (.istore_n 3, 1) := by decide +kernel
theorem dX9_isForced_76 : decode cX9_isForced 76 = .ok (.iconst 0, 1) := by decide +kernel
theorem dX9_isForced_77 : decode cX9_isForced 77 = .ok (.istore 4, 2) := by decide +kernel
theorem dX9_isForced_79 : decode cX9_isForced 79 = .ok (.iload 4, 2) := by decide +kernel
theorem dX9_isForced_81 : decode cX9_isForced 81 = .ok (.aload_n 0, 1) := by decide +kernel
theorem dX9_isForced_82 : decode cX9_isForced 82 = .ok (.getfield 13, 3) := by decide +kernel
theorem dX9_isForced_85 : decode cX9_isForced 85 = .ok (.iconst 0, 1) := by decide +kernel
theorem dX9_isForced_86 : decode cX9_isForced 86 = .ok (.iaload, 1) := by decide +kernel
theorem dX9_isForced_87 : decode cX9_isForced 87 = .ok (.if_icmp .ge 52, 3) := by decide +kernel
theorem dX9_isForced_90 : decode cX9_isForced 90 = .ok (.iload_n 3, 1) := by decide +kernel
theorem dX9_isForced_91 : decode cX9_isForced 91 = .ok (.ifCond .ne 36, 3) := by decide +kernel
theorem dX9_isForced_94 : decode cX9_isForced 94 = .ok (.iload 4, 2) := by decide +kernel
theorem dX9_isForced_96 : decode cX9_isForced 96 = .ok (.iload_n 2, 1) := by decide +kernel
theorem dX9_isForced_97 : decode cX9_isForced 97 = .ok (.if_icmp .eq 34, 3) := by decide +kernel
theorem dX9_isForced_100 : decode cX9_isForced 100 = .ok (.aload_n 0, 1) := by decide +kernel
theorem dX9_isForced_101 : decode cX9_isForced 101 = .ok (.iload_n 1, 1) := by decide +kernel
theorem dX9_isForced_102 : decode cX9_isForced 102 = .ok (.bipush 8, 2) := by decide +kernel
theorem dX9_isForced_104 : decode cX9_isForced 104 = .ok (.iload 4, 2) := by decide +kernel
theorem dX9_isForced_106 : decode cX9_isForced 106 = .ok (.iadd, 1) := by decide +kernel
theorem dX9_isForced_107 : decode cX9_isForced 107 = .ok (.invokevirtual 65, 3) := by decide +kernel
theorem dX9_isForced_110 : decode cX9_isForced 110 = .ok (.aload_n 0, 1) := by decide +kernel
theorem dX9_isForced_111 : decode cX9_isForced 111 = .ok (.getfield 13, 3) := by decide +kernel
theorem dX9_isForced_114 : decode cX9_isForced 114 = .ok (.bipush 20, 2) := by decide +kernel
theorem dX9_isForced_116 : decode cX9_isForced 116 = .ok (.iconst 5, 1) := by decide +kernel
theorem dX9_isForced_117 : decode cX9_isForced 117 = .ok (.iload_n 2, 1) := by decide +kernel
theorem dX9_isForced_118 : decode cX9_isForced 118 = .ok (.imul, 1) := by decide +kernel
theorem dX9_isForced_119 : decode cX9_isForced 119 = .ok (.iadd, 1) := by decide +kernel
theorem dX9_isForced_120 : decode cX9_isForced 120 = .ok (.iload 4, 2) := by decide +kernel
theorem dX9_isForced_122 : decode cX9_isForced 122 = .ok (.iadd, 1) := by decide +kernel
theorem dX9_isForced_123 : decode cX9_isForced 123 = .ok (.iaload, 1) := by decide +kernel
theorem dX9_isForced_124 : decode cX9_isForced 124 = .ok (.if_icmp .le 7, 3) := by decide +kernel
theorem dX9_isForced_127 : decode cX9_isForced 127 = .ok (.iconst 1, 1) := by decide +kernel
theorem dX9_isForced_128 : decode cX9_isForced 128 = .ok (.goto 4, 3) := by decide +kernel
theorem dX9_isForced_131 : decode cX9_isForced 131 = .ok (.iconst 0, 1) := by decide +kernel
theorem dX9_isForced_132 : decode cX9_isForced 132 = .ok (.istore_n 3, 1) := by decide +kernel
theorem dX9_isForced_133 : decode cX9_isForced 133 = .ok (.iinc 4 1, 3) := by decide +kernel
theorem dX9_isForced_136 : decode cX9_isForced 136 = .ok (.goto (-57), 3) := by decide +kernel
theorem dX9_isForced_139 : decode cX9_isForced 139 = .ok (.iload_n 3, 1) := by decide +kernel
theorem dX9_isForced_140 : decode cX9_isForced 140 = .ok (.ireturn, 1) := by decide +kernel
theorem dX9_leavesWay_0 : decode cX9_leavesWay 0 = .ok (.iconst 0, 1) := by decide +kernel
theorem dX9_leavesWay_1 : decode cX9_leavesWay 1 = .ok (.istore_n 2, 1) := by decide +kernel
theorem dX9_leavesWay_2 : decode cX9_leavesWay 2 = .ok (.aload_n 0, 1) := by decide +kernel
theorem dX9_leavesWay_3 : decode cX9_leavesWay 3 = .ok (.getfield 13, 3) := by decide +kernel
theorem dX9_leavesWay_6 : decode cX9_leavesWay 6 = .ok (.sipush 1310, 3) := by decide +kernel
theorem dX9_leavesWay_9 : decode cX9_leavesWay 9 = .ok (.iload_n 2, 1) := by decide +kernel
theorem dX9_leavesWay_10 : decode cX9_leavesWay 10 = .ok (.iadd, 1) := by decide +kernel
theorem dX9_leavesWay_11 : decode cX9_leavesWay 11 = .ok (.iaload, 1) := by decide +kernel
theorem dX9_leavesWay_12 : decode cX9_leavesWay 12 = .ok (.iload_n 1, 1) := by decide +kernel
theorem dX9_leavesWay_13 : decode cX9_leavesWay 13 = .ok (.if_icmp .eq 9, 3) := by decide +kernel
theorem dX9_leavesWay_16 : decode cX9_leavesWay 16 = .ok (.iinc 2 1, 3) := by decide +kernel
theorem dX9_leavesWay_19 : decode cX9_leavesWay 19 = .ok (.goto (-17), 3) := by decide +kernel
theorem dX9_leavesWay_22 : decode cX9_leavesWay 22 = .ok (.aload_n 0, 1) := by decide +kernel
theorem dX9_leavesWay_23 : decode cX9_leavesWay 23 = .ok (.getfield 13, 3) := by decide +kernel
theorem dX9_leavesWay_26 : decode cX9_leavesWay 26 = .ok (.iconst 3, 1) := by decide +kernel
theorem dX9_leavesWay_27 : decode cX9_leavesWay 27 = .ok (.dup2, 1) := by decide +kernel
theorem dX9_leavesWay_28 : decode cX9_leavesWay 28 = .ok (.iaload, 1) := by decide +kernel
theorem dX9_leavesWay_29 : decode cX9_leavesWay 29 = .ok (.iconst 1, 1) := by decide +kernel
theorem dX9_leavesWay_30 : decode cX9_leavesWay 30 = .ok (.isub, 1) := by decide +kernel
theorem dX9_leavesWay_31 : decode cX9_leavesWay 31 = .ok (.iastore, 1) := by decide +kernel
theorem dX9_leavesWay_32 : decode cX9_leavesWay 32 = .ok (.iload_n 2, 1) := by decide +kernel
theorem dX9_leavesWay_33 : decode cX9_leavesWay 33 = .ok (.istore_n 3, 1) := by decide +kernel
theorem dX9_leavesWay_34 : decode cX9_leavesWay 34 = .ok (.iload_n 3, 1) := by decide +kernel
theorem dX9_leavesWay_35 : decode cX9_leavesWay 35 = .ok (.aload_n 0, 1) := by decide +kernel
theorem dX9_leavesWay_36 : decode cX9_leavesWay 36 = .ok (.getfield 13, 3) := by decide +kernel
theorem dX9_leavesWay_39 : decode cX9_leavesWay 39 = .ok (.iconst 3, 1) := by decide +kernel
theorem dX9_leavesWay_40 : decode cX9_leavesWay 40 = .ok (.iaload, 1) := by decide +kernel
theorem dX9_leavesWay_41 : decode cX9_leavesWay 41 = .ok (.if_icmp .ge 29, 3) := by decide +kernel
theorem dX9_leavesWay_44 : decode cX9_leavesWay 44 = .ok (.aload_n 0, 1) := by decide +kernel
theorem dX9_leavesWay_45 : decode cX9_leavesWay 45 = .ok (.getfield 13, 3) := by decide +kernel
theorem dX9_leavesWay_48 : decode cX9_leavesWay 48 = .ok (.sipush 1310, 3) := by decide +kernel
theorem dX9_leavesWay_51 : decode cX9_leavesWay 51 = .ok (.iload_n 3, 1) := by decide +kernel
theorem dX9_leavesWay_52 : decode cX9_leavesWay 52 = .ok (.iadd, 1) := by decide +kernel
theorem dX9_leavesWay_53 : decode cX9_leavesWay 53 = .ok (.aload_n 0, 1) := by decide +kernel
theorem dX9_leavesWay_54 : decode cX9_leavesWay 54 = .ok (.getfield 13, 3) := by decide +kernel
theorem dX9_leavesWay_57 : decode cX9_leavesWay 57 = .ok (.sipush 1311, 3) := by decide +kernel
theorem dX9_leavesWay_60 : decode cX9_leavesWay 60 = .ok (.iload_n 3, 1) := by decide +kernel
theorem dX9_leavesWay_61 : decode cX9_leavesWay 61 = .ok (.iadd, 1) := by decide +kernel
theorem dX9_leavesWay_62 : decode cX9_leavesWay 62 = .ok (.iaload, 1) := by decide +kernel
theorem dX9_leavesWay_63 : decode cX9_leavesWay 63 = .ok (.iastore, 1) := by decide +kernel
theorem dX9_leavesWay_64 : decode cX9_leavesWay 64 = .ok (.iinc 3 1, 3) := by decide +kernel
theorem dX9_leavesWay_67 : decode cX9_leavesWay 67 = .ok (.goto (-33), 3) := by decide +kernel
theorem dX9_leavesWay_70 : decode cX9_leavesWay 70 = .ok (.return_, 1) := by decide +kernel
theorem dX9_receive_0 : decode cX9_receive 0 = .ok (.aload_n 0, 1) := by decide +kernel
theorem dX9_receive_1 : decode cX9_receive 1 = .ok (.iload_n 1, 1) := by decide +kernel
theorem dX9_receive_2 : decode cX9_receive 2 = .ok (.invokevirtual 73, 3) := by decide +kernel
theorem dX9_receive_5 : decode cX9_receive 5 = .ok (.ifCond .ne 5, 3) := by decide +kernel
theorem dX9_receive_8 : decode cX9_receive 8 = .ok (.iconst (-1), 1) := by decide +kernel
theorem dX9_receive_9 : decode cX9_receive 9 = .ok (.ireturn, 1) := by decide +kernel
theorem dX9_receive_10 : decode cX9_receive 10 = .ok (.aload_n 0, 1) := by decide +kernel
theorem dX9_receive_11 : decode cX9_receive 11 = .ok (.iload_n 1, 1) := by decide +kernel
theorem dX9_receive_12 : decode cX9_receive 12 = .ok (.iconst 5, 1) := by decide +kernel
theorem dX9_receive_13 : decode cX9_receive 13 = .ok (.invokevirtual 65, 3) := by decide +kernel
theorem dX9_receive_16 : decode cX9_receive 16 = .ok (.ifCond .eq 6, 3) := by decide +kernel
theorem dX9_receive_19 : decode cX9_receive 19 = .ok (.bipush (-2), 2) := by decide +kernel
theorem dX9_receive_21 : decode cX9_receive 21 = .ok (.ireturn, 1) := by decide +kernel
theorem dX9_receive_22 : decode cX9_receive 22 = .ok (.aload_n 0, 1) := by decide +kernel
theorem dX9_receive_23 : decode cX9_receive 23 = .ok (.iload_n 1, 1) := by decide +kernel
theorem dX9_receive_24 : decode cX9_receive 24 = .ok (.iconst 1, 1) := by decide +kernel
theorem dX9_receive_25 : decode cX9_receive 25 = .ok (.invokevirtual 65, 3) := by decide +kernel
theorem dX9_receive_28 : decode cX9_receive 28 = .ok (.istore_n 2, 1) := by decide +kernel
theorem dX9_receive_29 : decode cX9_receive 29 = .ok (.aload_n 0, 1) := by decide +kernel
theorem dX9_receive_30 : decode cX9_receive 30 = .ok (.iload_n 1, 1) := by decide +kernel
theorem dX9_receive_31 : decode cX9_receive 31 = .ok (.invokevirtual 76, 3) := by decide +kernel
theorem dX9_receive_34 : decode cX9_receive 34 = .ok (.istore_n 3, 1) := by decide +kernel
theorem dX9_receive_35 : decode cX9_receive 35 = .ok (.iload_n 3, 1) := by decide +kernel
theorem dX9_receive_36 : decode cX9_receive 36 = .ok (.ifCond .eq 20, 3) := by decide +kernel
theorem dX9_receive_39 : decode cX9_receive 39 = .ok (.aload_n 0, 1) := by decide +kernel
theorem dX9_receive_40 : decode cX9_receive 40 = .ok (.getfield 13, 3) := by decide +kernel
theorem dX9_receive_43 : decode cX9_receive 43 = .ok (.bipush 10, 2) := by decide +kernel
theorem dX9_receive_45 : decode cX9_receive 45 = .ok (.iload_n 2, 1) := by decide +kernel
theorem dX9_receive_46 : decode cX9_receive 46 = .ok (.iadd, 1) := by decide +kernel
theorem dX9_receive_47 : decode cX9_receive 47 = .ok (.iaload, 1) := by decide +kernel
theorem dX9_receive_48 : decode cX9_receive 48 = .ok (.bipush 12, 2) := by decide +kernel
theorem dX9_receive_50 : decode cX9_receive 50 = .ok (.if_icmp .ne 6, 3) := by decide +kernel
theorem dX9_receive_53 : decode cX9_receive 53 = .ok (.bipush (-3), 2) := by decide +kernel
theorem dX9_receive_55 : decode cX9_receive 55 = .ok (.ireturn, 1) := by decide +kernel
theorem dX9_receive_56 : decode cX9_receive 56 = .ok (.iload_n 3, 1) := by decide +kernel
theorem dX9_receive_57 : decode cX9_receive 57 = .ok (.ifCond .eq 39, 3) := by decide +kernel
theorem dX9_receive_60 : decode cX9_receive 60 = .ok (.aload_n 0, 1) := by decide +kernel
theorem dX9_receive_61 : decode cX9_receive 61 = .ok (.iload_n 2, 1) := by decide +kernel
theorem dX9_receive_62 : decode cX9_receive 62 = .ok (.aload_n 0, 1) := by decide +kernel
theorem dX9_receive_63 : decode cX9_receive 63 = .ok (.getfield 13, 3) := by decide +kernel
theorem dX9_receive_66 : decode cX9_receive 66 = .ok (.iconst 1, 1) := by decide +kernel
theorem dX9_receive_67 : decode cX9_receive 67 = .ok (.iaload, 1) := by decide +kernel
theorem dX9_receive_68 : decode cX9_receive 68 = .ok (.iconst 1, 1) := by decide +kernel
theorem dX9_receive_69 : decode cX9_receive 69 = .ok (.if_icmp .ne 12, 3) := by decide +kernel
theorem dX9_receive_72 : decode cX9_receive 72 = .ok (.aload_n 0, 1) := by decide +kernel
theorem dX9_receive_73 : decode cX9_receive 73 = .ok (.iload_n 1, 1) := by decide +kernel
theorem dX9_receive_74 : decode cX9_receive 74 = .ok (.iconst 4, 1) := by decide +kernel
theorem dX9_receive_75 : decode cX9_receive 75 = .ok (.invokevirtual 65, 3) := by decide +kernel
theorem dX9_receive_78 : decode cX9_receive 78 = .ok (.goto 14, 3) := by decide +kernel
theorem dX9_receive_81 : decode cX9_receive 81 = .ok (.aload_n 0, 1) := by decide +kernel
theorem dX9_receive_82 : decode cX9_receive 82 = .ok (.getfield 13, 3) := by decide +kernel
theorem dX9_receive_85 : decode cX9_receive 85 = .ok (.bipush 15, 2) := by decide +kernel
theorem dX9_receive_87 : decode cX9_receive 87 = .ok (.iload_n 2, 1) := by decide +kernel
theorem dX9_receive_88 : decode cX9_receive 88 = .ok (.iadd, 1) := by decide +kernel
theorem dX9_receive_89 : decode cX9_receive 89 = .ok (.iaload, 1) := by decide +kernel
theorem dX9_receive_90 : decode cX9_receive 90 = .ok (.iconst 1, 1) := by decide +kernel
theorem dX9_receive_91 : decode cX9_receive 91 = .ok (.iadd, 1) := by decide +kernel
theorem dX9_receive_92 : decode cX9_receive 92 = .ok (.iconst 1, 1) := by decide +kernel
theorem dX9_receive_93 : decode cX9_receive 93 = .ok (.invokevirtual 58, 3) := by decide +kernel
theorem dX9_receive_96 : decode cX9_receive 96 = .ok (.iconst 0, 1) := by decide +kernel
theorem dX9_receive_97 : decode cX9_receive 97 = .ok (.istore 4, 2) := by decide +kernel
theorem dX9_receive_99 : decode cX9_receive 99 = .ok (.iload 4, 2) := by decide +kernel
theorem dX9_receive_101 : decode cX9_receive 101 = .ok (.iconst 5, 1) := by decide +kernel
theorem dX9_receive_102 : decode cX9_receive 102 = .ok (.if_icmp .ge 66, 3) := by decide +kernel
theorem dX9_receive_105 : decode cX9_receive 105 = .ok (.iload 4, 2) := by decide +kernel
theorem dX9_receive_107 : decode cX9_receive 107 = .ok (.iload_n 2, 1) := by decide +kernel
theorem dX9_receive_108 : decode cX9_receive 108 = .ok (.if_icmp .eq 54, 3) := by decide +kernel
theorem dX9_receive_111 : decode cX9_receive 111 = .ok (.aload_n 0, 1) := by decide +kernel
theorem dX9_receive_112 : decode cX9_receive 112 = .ok (.iload_n 1, 1) := by decide +kernel
theorem dX9_receive_113 : decode cX9_receive 113 = .ok (.bipush 8, 2) := by decide +kernel
theorem dX9_receive_115 : decode cX9_receive 115 = .ok (.iload 4, 2) := by decide +kernel
theorem dX9_receive_117 : decode cX9_receive 117 = .ok (.iadd, 1) := by decide +kernel
theorem dX9_receive_118 : decode cX9_receive 118 = .ok (.invokevirtual 65, 3) := by decide +kernel
theorem dX9_receive_121 : decode cX9_receive 121 = .ok (.aload_n 0, 1) := by decide +kernel
theorem dX9_receive_122 : decode cX9_receive 122 = .ok (.getfield 13, 3) := by decide +kernel
theorem dX9_receive_125 : decode cX9_receive 125 = .ok (.bipush 20, 2) := by decide +kernel
theorem dX9_receive_127 : decode cX9_receive 127 = .ok (.iconst 5, 1) := by decide +kernel
theorem dX9_receive_128 : decode cX9_receive 128 = .ok (.iload_n 2, 1) := by decide +kernel
theorem dX9_receive_129 : decode cX9_receive 129 = .ok (.imul, 1) := by decide +kernel
theorem dX9_receive_130 : decode cX9_receive 130 = .ok (.iadd, 1) := by decide +kernel
theorem dX9_receive_131 : decode cX9_receive 131 = .ok (.iload 4, 2) := by decide +kernel
theorem dX9_receive_133 : decode cX9_receive 133 = .ok (.iadd, 1) := by decide +kernel
theorem dX9_receive_134 : decode cX9_receive 134 = .ok (.iaload, 1) := by decide +kernel
theorem dX9_receive_135 : decode cX9_receive 135 = .ok (.if_icmp .le 27, 3) := by decide +kernel
theorem dX9_receive_138 : decode cX9_receive 138 = .ok (.aload_n 0, 1) := by decide +kernel
theorem dX9_receive_139 : decode cX9_receive 139 = .ok (.getfield 13, 3) := by decide +kernel
theorem dX9_receive_142 : decode cX9_receive 142 = .ok (.bipush 20, 2) := by decide +kernel
theorem dX9_receive_144 : decode cX9_receive 144 = .ok (.iconst 5, 1) := by decide +kernel
theorem dX9_receive_145 : decode cX9_receive 145 = .ok (.iload_n 2, 1) := by decide +kernel
theorem dX9_receive_146 : decode cX9_receive 146 = .ok (.imul, 1) := by decide +kernel
theorem dX9_receive_147 : decode cX9_receive 147 = .ok (.iadd, 1) := by decide +kernel
theorem dX9_receive_148 : decode cX9_receive 148 = .ok (.iload 4, 2) := by decide +kernel
theorem dX9_receive_150 : decode cX9_receive 150 = .ok (.iadd, 1) := by decide +kernel
theorem dX9_receive_151 : decode cX9_receive 151 = .ok (.aload_n 0, 1) := by decide +kernel
theorem dX9_receive_152 : decode cX9_receive 152 = .ok (.iload_n 1, 1) := by decide +kernel
theorem dX9_receive_153 : decode cX9_receive 153 = .ok (.bipush 8, 2) := by decide +kernel
theorem dX9_receive_155 : decode cX9_receive 155 = .ok (.iload 4, 2) := by decide +kernel
theorem dX9_receive_157 : decode cX9_receive 157 = .ok (.iadd, 1) := by decide +kernel
theorem dX9_receive_158 : decode cX9_receive 158 = .ok (.invokevirtual 65, 3) := by decide +kernel
theorem dX9_receive_161 : decode cX9_receive 161 = .ok (.iastore, 1) := by decide +kernel
theorem dX9_receive_162 : decode cX9_receive 162 = .ok (.iinc 4 1, 3) := by decide +kernel
theorem dX9_receive_165 : decode cX9_receive 165 = .ok (.goto (-66), 3) := by decide +kernel
theorem dX9_receive_168 : decode cX9_receive 168 = .ok (.aload_n 0, 1) := by decide +kernel
theorem dX9_receive_169 : decode cX9_receive 169 = .ok (.iload_n 1, 1) := by decide +kernel
theorem dX9_receive_170 : decode cX9_receive 170 = .ok (.iconst 3, 1) := by decide +kernel
theorem dX9_receive_171 : decode cX9_receive 171 = .ok (.aload_n 0, 1) := by decide +kernel
theorem dX9_receive_172 : decode cX9_receive 172 = .ok (.getfield 13, 3) := by decide +kernel
theorem dX9_receive_175 : decode cX9_receive 175 = .ok (.bipush 10, 2) := by decide +kernel
theorem dX9_receive_177 : decode cX9_receive 177 = .ok (.iload_n 2, 1) := by decide +kernel
theorem dX9_receive_178 : decode cX9_receive 178 = .ok (.iadd, 1) := by decide +kernel
theorem dX9_receive_179 : decode cX9_receive 179 = .ok (.iaload, 1) := by decide +kernel
theorem dX9_receive_180 : decode cX9_receive 180 = .ok (.iconst 1, 1) := by decide +kernel
theorem dX9_receive_181 : decode cX9_receive 181 = .ok (.isub, 1) := by decide +kernel
theorem dX9_receive_182 : decode cX9_receive 182 = .ok (.invokevirtual 62, 3) := by decide +kernel
theorem dX9_receive_185 : decode cX9_receive 185 = .ok (.aload_n 0, 1) := by decide +kernel
theorem dX9_receive_186 : decode cX9_receive 186 = .ok (.iload_n 1, 1) := by decide +kernel
theorem dX9_receive_187 : decode cX9_receive 187 = .ok (.iconst 5, 1) := by decide +kernel
theorem dX9_receive_188 : decode cX9_receive 188 = .ok (.iconst 1, 1) := by decide +kernel
theorem dX9_receive_189 : decode cX9_receive 189 = .ok (.invokevirtual 62, 3) := by decide +kernel
theorem dX9_receive_192 : decode cX9_receive 192 = .ok (.aload_n 0, 1) := by decide +kernel
theorem dX9_receive_193 : decode cX9_receive 193 = .ok (.iload_n 1, 1) := by decide +kernel
theorem dX9_receive_194 : decode cX9_receive 194 = .ok (.bipush 7, 2) := by decide +kernel
theorem dX9_receive_196 : decode cX9_receive 196 = .ok (.aload_n 0, 1) := by decide +kernel
theorem dX9_receive_197 : decode cX9_receive 197 = .ok (.getfield 13, 3) := by decide +kernel
theorem dX9_receive_200 : decode cX9_receive 200 = .ok (.iconst 4, 1) := by decide +kernel
theorem dX9_receive_201 : decode cX9_receive 201 = .ok (.iaload, 1) := by decide +kernel
theorem dX9_receive_202 : decode cX9_receive 202 = .ok (.invokevirtual 62, 3) := by decide +kernel
theorem dX9_receive_205 : decode cX9_receive 205 = .ok (.aload_n 0, 1) := by decide +kernel
theorem dX9_receive_206 : decode cX9_receive 206 = .ok (.getfield 13, 3) := by decide +kernel
theorem dX9_receive_209 : decode cX9_receive 209 = .ok (.iconst 4, 1) := by decide +kernel
theorem dX9_receive_210 : decode cX9_receive 210 = .ok (.dup2, 1) := by decide +kernel
theorem dX9_receive_211 : decode cX9_receive 211 = .ok (.iaload, 1) := by decide +kernel
theorem dX9_receive_212 : decode cX9_receive 212 = .ok (.iconst 1, 1) := by decide +kernel
theorem dX9_receive_213 : decode cX9_receive 213 = .ok (.iadd, 1) := by decide +kernel
theorem dX9_receive_214 : decode cX9_receive 214 = .ok (.iastore, 1) := by decide +kernel
theorem dX9_receive_215 : decode cX9_receive 215 = .ok (.aload_n 0, 1) := by decide +kernel
theorem dX9_receive_216 : decode cX9_receive 216 = .ok (.iload_n 1, 1) := by decide +kernel
theorem dX9_receive_217 : decode cX9_receive 217 = .ok (.invokevirtual 79, 3) := by decide +kernel
theorem dX9_receive_220 : decode cX9_receive 220 = .ok (.iload_n 3, 1) := by decide +kernel
theorem dX9_receive_221 : decode cX9_receive 221 = .ok (.ifCond .eq 7, 3) := by decide +kernel
theorem dX9_receive_224 : decode cX9_receive 224 = .ok (.iconst 1, 1) := by decide +kernel
theorem dX9_receive_225 : decode cX9_receive 225 = .ok (.goto 4, 3) := by decide +kernel
theorem dX9_receive_228 : decode cX9_receive 228 = .ok (.iconst 0, 1) := by decide +kernel
theorem dX9_receive_229 : decode cX9_receive 229 = .ok (.ireturn, 1) := by decide +kernel
theorem dX9_letterAt_0 : decode cX9_letterAt 0 = .ok (.iload_n 1, 1) := by decide +kernel
theorem dX9_letterAt_1 : decode cX9_letterAt 1 = .ok (.aload_n 0, 1) := by decide +kernel
theorem dX9_letterAt_2 : decode cX9_letterAt 2 = .ok (.getfield 82, 3) := by decide +kernel
theorem dX9_letterAt_5 : decode cX9_letterAt 5 = .ok (.if_icmp .ge 12, 3) := by decide +kernel
theorem dX9_letterAt_8 : decode cX9_letterAt 8 = .ok (.aload_n 0, 1) := by decide +kernel
theorem dX9_letterAt_9 : decode cX9_letterAt 9 = .ok (.getfield 7, 3) := by decide +kernel
theorem dX9_letterAt_12 : decode cX9_letterAt 12 = .ok (.iload_n 1, 1) := by decide +kernel
theorem dX9_letterAt_13 : decode cX9_letterAt 13 = .ok (.iaload, 1) := by decide +kernel
theorem dX9_letterAt_14 : decode cX9_letterAt 14 = .ok (.goto 4, 3) := by decide +kernel
theorem dX9_letterAt_17 : decode cX9_letterAt 17 = .ok (.iconst 0, 1) := by decide +kernel
theorem dX9_letterAt_18 : decode cX9_letterAt 18 = .ok (.ireturn, 1) := by decide +kernel
theorem dX9_figure_0 : decode cX9_figure 0 = .ok (.aload_n 0, 1) := by decide +kernel
theorem dX9_figure_1 : decode cX9_figure 1 = .ok (.iload_n 1, 1) := by decide +kernel
theorem dX9_figure_2 : decode cX9_figure 2 = .ok (.invokevirtual 86, 3) := by decide +kernel
theorem dX9_figure_5 : decode cX9_figure 5 = .ok (.istore_n 2, 1) := by decide +kernel
theorem dX9_figure_6 : decode cX9_figure 6 = .ok (.iload_n 2, 1) := by decide +kernel
theorem dX9_figure_7 : decode cX9_figure 7 = .ok (.bipush 48, 2) := by decide +kernel
theorem dX9_figure_9 : decode cX9_figure 9 = .ok (.if_icmp .lt 16, 3) := by decide +kernel
theorem dX9_figure_12 : decode cX9_figure 12 = .ok (.iload_n 2, 1) := by decide +kernel
theorem dX9_figure_13 : decode cX9_figure 13 = .ok (.bipush 57, 2) := by decide +kernel
theorem dX9_figure_15 : decode cX9_figure 15 = .ok (.if_icmp .gt 10, 3) := by decide +kernel
theorem dX9_figure_18 : decode cX9_figure 18 = .ok (.iload_n 2, 1) := by decide +kernel
theorem dX9_figure_19 : decode cX9_figure 19 = .ok (.bipush 48, 2) := by decide +kernel
theorem dX9_figure_21 : decode cX9_figure 21 = .ok (.isub, 1) := by decide +kernel
theorem dX9_figure_22 : decode cX9_figure 22 = .ok (.goto 4, 3) := by decide +kernel
theorem dX9_figure_25 : decode cX9_figure 25 = .ok (.iconst (-1), 1) := by decide +kernel
theorem dX9_figure_26 : decode cX9_figure 26 = .ok (.ireturn, 1) := by decide +kernel
theorem dX9_acts_0 : decode cX9_acts 0 = .ok (.iload_n 1, 1) := by decide +kernel
theorem dX9_acts_1 : decode cX9_acts 1 = .ok (.bipush 109, 2) := by decide +kernel
theorem dX9_acts_3 : decode cX9_acts 3 = .ok (.if_icmp .ne 24, 3) := by decide +kernel
theorem dX9_acts_6 : decode cX9_acts 6 = .ok (.aload_n 0, 1) := by decide +kernel
theorem dX9_acts_7 : decode cX9_acts 7 = .ok (.iload_n 2, 1) := by decide +kernel
theorem dX9_acts_8 : decode cX9_acts 8 = .ok (.invokevirtual 89, 3) := by decide +kernel
theorem dX9_acts_11 : decode cX9_acts 11 = .ok (.istore 4, 2) := by decide +kernel
theorem dX9_acts_13 : decode cX9_acts 13 = .ok (.iload 4, 2) := by decide +kernel
theorem dX9_acts_15 : decode cX9_acts 15 = .ok (.bipush (-2), 2) := by decide +kernel
theorem dX9_acts_17 : decode cX9_acts 17 = .ok (.if_icmp .ne 7, 3) := by decide +kernel
theorem dX9_acts_20 : decode cX9_acts 20 = .ok (.iconst 0, 1) := by decide +kernel
theorem dX9_acts_21 : decode cX9_acts 21 = .ok (.goto 5, 3) := by decide +kernel
theorem dX9_acts_24 : decode cX9_acts 24 = .ok (.iload 4, 2) := by decide +kernel
theorem dX9_acts_26 : decode cX9_acts 26 = .ok (.ireturn, 1) := by decide +kernel
theorem dX9_acts_27 : decode cX9_acts 27 = .ok (.iload_n 1, 1) := by decide +kernel
theorem dX9_acts_28 : decode cX9_acts 28 = .ok (.bipush 115, 2) := by decide +kernel
theorem dX9_acts_30 : decode cX9_acts 30 = .ok (.if_icmp .ne 10, 3) := by decide +kernel
theorem dX9_acts_33 : decode cX9_acts 33 = .ok (.aload_n 0, 1) := by decide +kernel
theorem dX9_acts_34 : decode cX9_acts 34 = .ok (.iload_n 2, 1) := by decide +kernel
theorem dX9_acts_35 : decode cX9_acts 35 = .ok (.iload_n 3, 1) := by decide +kernel
theorem dX9_acts_36 : decode cX9_acts 36 = .ok (.invokevirtual 92, 3) := by decide +kernel
theorem dX9_acts_39 : decode cX9_acts 39 = .ok (.ireturn, 1) := by decide +kernel
theorem dX9_acts_40 : decode cX9_acts 40 = .ok (.iload_n 1, 1) := by decide +kernel
theorem dX9_acts_41 : decode cX9_acts 41 = .ok (.bipush 114, 2) := by decide +kernel
theorem dX9_acts_43 : decode cX9_acts 43 = .ok (.if_icmp .ne 16, 3) := by decide +kernel
theorem dX9_acts_46 : decode cX9_acts 46 = .ok (.aload_n 0, 1) := by decide +kernel
theorem dX9_acts_47 : decode cX9_acts 47 = .ok (.bipush 10, 2) := by decide +kernel
theorem dX9_acts_49 : decode cX9_acts 49 = .ok (.iload_n 2, 1) := by decide +kernel
theorem dX9_acts_50 : decode cX9_acts 50 = .ok (.imul, 1) := by decide +kernel
theorem dX9_acts_51 : decode cX9_acts 51 = .ok (.iload_n 3, 1) := by decide +kernel
theorem dX9_acts_52 : decode cX9_acts 52 = .ok (.iadd, 1) := by decide +kernel
theorem dX9_acts_53 : decode cX9_acts 53 = .ok (.invokevirtual 95, 3) := by decide +kernel
theorem dX9_acts_56 : decode cX9_acts 56 = .ok (.goto 18, 3) := by decide +kernel
theorem dX9_acts_59 : decode cX9_acts 59 = .ok (.iload_n 1, 1) := by decide +kernel
theorem dX9_acts_60 : decode cX9_acts 60 = .ok (.bipush 99, 2) := by decide +kernel
theorem dX9_acts_62 : decode cX9_acts 62 = .ok (.if_icmp .ne 11, 3) := by decide +kernel
theorem dX9_acts_65 : decode cX9_acts 65 = .ok (.aload_n 0, 1) := by decide +kernel
theorem dX9_acts_66 : decode cX9_acts 66 = .ok (.iload_n 2, 1) := by decide +kernel
theorem dX9_acts_67 : decode cX9_acts 67 = .ok (.invokevirtual 98, 3) := by decide +kernel
theorem dX9_acts_70 : decode cX9_acts 70 = .ok (.goto 4, 3) := by decide +kernel
theorem dX9_acts_73 : decode cX9_acts 73 = .ok (.iconst (-1), 1) := by decide +kernel
theorem dX9_acts_74 : decode cX9_acts 74 = .ok (.ireturn, 1) := by decide +kernel
theorem dX9_does_0 : decode cX9_does 0 = .ok (.iconst 0, 1) := by decide +kernel
theorem dX9_does_1 : decode cX9_does 1 = .ok (.istore_n 1, 1) := by decide +kernel
theorem dX9_does_2 : decode cX9_does 2 = .ok (.iload_n 1, 1) := by decide +kernel
theorem dX9_does_3 : decode cX9_does 3 = .ok (.aload_n 0, 1) := by decide +kernel
theorem dX9_does_4 : decode cX9_does 4 = .ok (.getfield 82, 3) := by decide +kernel
theorem dX9_does_7 : decode cX9_does 7 = .ok (.if_icmp .ge 153, 3) := by decide +kernel
theorem dX9_does_10 : decode cX9_does 10 = .ok (.aload_n 0, 1) := by decide +kernel
theorem dX9_does_11 : decode cX9_does 11 = .ok (.getfield 7, 3) := by decide +kernel
theorem dX9_does_14 : decode cX9_does 14 = .ok (.iload_n 1, 1) := by decide +kernel
theorem dX9_does_15 : decode cX9_does 15 = .ok (.iaload, 1) := by decide +kernel
theorem dX9_does_16 : decode cX9_does 16 = .ok (.istore_n 2, 1) := by decide +kernel
theorem dX9_does_17 : decode cX9_does 17 = .ok (.aload_n 0, 1) := by decide +kernel
theorem dX9_does_18 : decode cX9_does 18 = .ok (.iload_n 1, 1) := by decide +kernel
theorem dX9_does_19 : decode cX9_does 19 = .ok (.iconst 1, 1) := by decide +kernel
theorem dX9_does_20 : decode cX9_does 20 = .ok (.iadd, 1) := by decide +kernel
theorem dX9_does_21 : decode cX9_does 21 = .ok (.invokevirtual 101, 3) := by decide +kernel
theorem dX9_does_24 : decode cX9_does 24 = .ok (.istore_n 3, 1) := by decide +kernel
theorem dX9_does_25 : decode cX9_does 25 = .ok (.iload_n 2, 1) := by decide +kernel
theorem dX9_does_26 : decode cX9_does 26 = .ok (.bipush 115, 2) := by decide +kernel
theorem dX9_does_28 : decode cX9_does 28 = .ok (.if_icmp .eq 9, 3) := by decide +kernel
theorem dX9_does_31 : decode cX9_does 31 = .ok (.iload_n 2, 1) := by decide +kernel
theorem dX9_does_32 : decode cX9_does 32 = .ok (.bipush 114, 2) := by decide +kernel
theorem dX9_does_34 : decode cX9_does 34 = .ok (.if_icmp .ne 7, 3) := by decide +kernel
theorem dX9_does_37 : decode cX9_does 37 = .ok (.iconst 2, 1) := by decide +kernel
theorem dX9_does_38 : decode cX9_does 38 = .ok (.goto 4, 3) := by decide +kernel
theorem dX9_does_41 : decode cX9_does 41 = .ok (.iconst 1, 1) := by decide +kernel
theorem dX9_does_42 : decode cX9_does 42 = .ok (.istore 4, 2) := by decide +kernel
theorem dX9_does_44 : decode cX9_does 44 = .ok (.iload 4, 2) := by decide +kernel
theorem dX9_does_46 : decode cX9_does 46 = .ok (.iconst 2, 1) := by decide +kernel
theorem dX9_does_47 : decode cX9_does 47 = .ok (.if_icmp .ne 13, 3) := by decide +kernel
theorem dX9_does_50 : decode cX9_does 50 = .ok (.aload_n 0, 1) := by decide +kernel
theorem dX9_does_51 : decode cX9_does 51 = .ok (.iload_n 1, 1) := by decide +kernel
theorem dX9_does_52 : decode cX9_does 52 = .ok (.iconst 2, 1) := by decide +kernel
theorem dX9_does_53 : decode cX9_does 53 = .ok (.iadd, 1) := by decide +kernel
theorem dX9_does_54 : decode cX9_does 54 = .ok (.invokevirtual 101, 3) := by decide +kernel
theorem dX9_does_57 : decode cX9_does 57 = .ok (.goto 4, 3) := by decide +kernel
theorem dX9_does_60 : decode cX9_does 60 = .ok (.iconst 0, 1) := by decide +kernel
theorem dX9_does_61 : decode cX9_does 61 = .ok (.istore 5, 2) := by decide +kernel
theorem dX9_does_63 : decode cX9_does 63 = .ok (.iload_n 3, 1) := by decide +kernel
theorem dX9_does_64 : decode cX9_does 64 = .ok (.ifCond .lt 46, 3) := by decide +kernel
theorem dX9_does_67 : decode cX9_does 67 = .ok (.iload 5, 2) := by decide +kernel
theorem dX9_does_69 : decode cX9_does 69 = .ok (.ifCond .lt 41, 3) := by decide +kernel
theorem dX9_does_72 : decode cX9_does 72 = .ok (.aload_n 0, 1) := by decide +kernel
theorem dX9_does_73 : decode cX9_does 73 = .ok (.iload_n 1, 1) := by decide +kernel
theorem dX9_does_74 : decode cX9_does 74 = .ok (.iconst 1, 1) := by decide +kernel
theorem dX9_does_75 : decode cX9_does 75 = .ok (.iadd, 1) := by decide +kernel
theorem dX9_does_76 : decode cX9_does 76 = .ok (.iload 4, 2) := by decide +kernel
theorem dX9_does_78 : decode cX9_does 78 = .ok (.iadd, 1) := by decide +kernel
theorem dX9_does_79 : decode cX9_does 79 = .ok (.invokevirtual 86, 3) := by decide +kernel
theorem dX9_does_82 : decode cX9_does 82 = .ok (.bipush 59, 2) := by decide +kernel
theorem dX9_does_84 : decode cX9_does 84 = .ok (.if_icmp .ne 26, 3) := by decide +kernel
theorem dX9_does_87 : decode cX9_does 87 = .ok (.iload_n 1, 1) := by decide +kernel
theorem dX9_does_88 : decode cX9_does 88 = .ok (.ifCond .ne 7, 3) := by decide +kernel
theorem dX9_does_91 : decode cX9_does 91 = .ok (.iconst 1, 1) := by decide +kernel
theorem dX9_does_92 : decode cX9_does 92 = .ok (.goto 4, 3) := by decide +kernel
theorem dX9_does_95 : decode cX9_does 95 = .ok (.iconst 0, 1) := by decide +kernel
theorem dX9_does_96 : decode cX9_does 96 = .ok (.iload_n 2, 1) := by decide +kernel
theorem dX9_does_97 : decode cX9_does 97 = .ok (.bipush 110, 2) := by decide +kernel
theorem dX9_does_99 : decode cX9_does 99 = .ok (.if_icmp .ne 7, 3) := by decide +kernel
theorem dX9_does_102 : decode cX9_does 102 = .ok (.iconst 1, 1) := by decide +kernel
theorem dX9_does_103 : decode cX9_does 103 = .ok (.goto 4, 3) := by decide +kernel
theorem dX9_does_106 : decode cX9_does 106 = .ok (.iconst 0, 1) := by decide +kernel
theorem dX9_does_107 : decode cX9_does 107 = .ok (.if_icmp .eq 5, 3) := by decide +kernel
theorem dX9_does_110 : decode cX9_does 110 = .ok (.iload_n 1, 1) := by decide +kernel
theorem dX9_does_111 : decode cX9_does 111 = .ok (.ireturn, 1) := by decide +kernel
theorem dX9_does_112 : decode cX9_does 112 = .ok (.iload_n 2, 1) := by decide +kernel
theorem dX9_does_113 : decode cX9_does 113 = .ok (.bipush 110, 2) := by decide +kernel
theorem dX9_does_115 : decode cX9_does 115 = .ok (.if_icmp .ne 22, 3) := by decide +kernel
theorem dX9_does_118 : decode cX9_does 118 = .ok (.iload_n 3, 1) := by decide +kernel
theorem dX9_does_119 : decode cX9_does 119 = .ok (.iconst 2, 1) := by decide +kernel
theorem dX9_does_120 : decode cX9_does 120 = .ok (.iconst 5, 1) := by decide +kernel
theorem dX9_does_121 : decode cX9_does 121 = .ok (.invokestatic 50, 3) := by decide +kernel
theorem dX9_does_124 : decode cX9_does 124 = .ok (.ifCond .ne 5, 3) := by decide +kernel
theorem dX9_does_127 : decode cX9_does 127 = .ok (.iload_n 1, 1) := by decide +kernel
theorem dX9_does_128 : decode cX9_does 128 = .ok (.ireturn, 1) := by decide +kernel
theorem dX9_does_129 : decode cX9_does 129 = .ok (.aload_n 0, 1) := by decide +kernel
theorem dX9_does_130 : decode cX9_does 130 = .ok (.iload_n 3, 1) := by decide +kernel
theorem dX9_does_131 : decode cX9_does 131 = .ok (.invokevirtual 34, 3) := by decide +kernel
theorem dX9_does_134 : decode cX9_does 134 = .ok (.goto 16, 3) := by decide +kernel
theorem dX9_does_137 : decode cX9_does 137 = .ok (.aload_n 0, 1) := by decide +kernel
theorem dX9_does_138 : decode cX9_does 138 = .ok (.iload_n 2, 1) := by decide +kernel
theorem dX9_does_139 : decode cX9_does 139 = .ok (.iload_n 3, 1) := by decide +kernel
theorem dX9_does_140 : decode cX9_does 140 = .ok (.iload 5, 2) := by decide +kernel
theorem dX9_does_142 : decode cX9_does 142 = .ok (.invokevirtual 38, 3) := by decide +kernel
theorem dX9_does_145 : decode cX9_does 145 = .ok (.ifCond .ge 5, 3) := by decide +kernel
theorem dX9_does_148 : decode cX9_does 148 = .ok (.iload_n 1, 1) := by decide +kernel
theorem dX9_does_149 : decode cX9_does 149 = .ok (.ireturn, 1) := by decide +kernel
theorem dX9_does_150 : decode cX9_does 150 = .ok (.iload_n 1, 1) := by decide +kernel
theorem dX9_does_151 : decode cX9_does 151 = .ok (.iload 4, 2) := by decide +kernel
theorem dX9_does_153 : decode cX9_does 153 = .ok (.iconst 2, 1) := by decide +kernel
theorem dX9_does_154 : decode cX9_does 154 = .ok (.iadd, 1) := by decide +kernel
theorem dX9_does_155 : decode cX9_does 155 = .ok (.iadd, 1) := by decide +kernel
theorem dX9_does_156 : decode cX9_does 156 = .ok (.istore_n 1, 1) := by decide +kernel
theorem dX9_does_157 : decode cX9_does 157 = .ok (.goto (-155), 3) := by decide +kernel
theorem dX9_does_160 : decode cX9_does 160 = .ok (.bipush (-4), 2) := by decide +kernel
theorem dX9_does_162 : decode cX9_does 162 = .ok (.ireturn, 1) := by decide +kernel
theorem dX9_write_0 : decode cX9_write 0 = .ok (.iload_n 1, 1) := by decide +kernel
theorem dX9_write_1 : decode cX9_write 1 = .ok (.bipush 32, 2) := by decide +kernel
theorem dX9_write_3 : decode cX9_write 3 = .ok (.if_icmp .lt 9, 3) := by decide +kernel
theorem dX9_write_6 : decode cX9_write 6 = .ok (.iload_n 1, 1) := by decide +kernel
theorem dX9_write_7 : decode cX9_write 7 = .ok (.bipush 126, 2) := by decide +kernel
theorem dX9_write_9 : decode cX9_write 9 = .ok (.if_icmp .le 5, 3) := by decide +kernel
theorem dX9_write_12 : decode cX9_write 12 = .ok (.iconst (-1), 1) := by decide +kernel
theorem dX9_write_13 : decode cX9_write 13 = .ok (.ireturn, 1) := by decide +kernel
theorem dX9_write_14 : decode cX9_write 14 = .ok (.aload_n 0, 1) := by decide +kernel
theorem dX9_write_15 : decode cX9_write 15 = .ok (.getfield 82, 3) := by decide +kernel
theorem dX9_write_18 : decode cX9_write 18 = .ok (.sipush 200, 3) := by decide +kernel
theorem dX9_write_21 : decode cX9_write 21 = .ok (.if_icmp .ne 6, 3) := by decide +kernel
theorem dX9_write_24 : decode cX9_write 24 = .ok (.bipush (-3), 2) := by decide +kernel
theorem dX9_write_26 : decode cX9_write 26 = .ok (.ireturn, 1) := by decide +kernel
theorem dX9_write_27 : decode cX9_write 27 = .ok (.aload_n 0, 1) := by decide +kernel
theorem dX9_write_28 : decode cX9_write 28 = .ok (.getfield 7, 3) := by decide +kernel
theorem dX9_write_31 : decode cX9_write 31 = .ok (.aload_n 0, 1) := by decide +kernel
theorem dX9_write_32 : decode cX9_write 32 = .ok (.getfield 82, 3) := by decide +kernel
theorem dX9_write_35 : decode cX9_write 35 = .ok (.iload_n 1, 1) := by decide +kernel
theorem dX9_write_36 : decode cX9_write 36 = .ok (.iastore, 1) := by decide +kernel
theorem dX9_write_37 : decode cX9_write 37 = .ok (.aload_n 0, 1) := by decide +kernel
theorem dX9_write_38 : decode cX9_write 38 = .ok (.dup, 1) := by decide +kernel
theorem dX9_write_39 : decode cX9_write 39 = .ok (.getfield 82, 3) := by decide +kernel
theorem dX9_write_42 : decode cX9_write 42 = .ok (.iconst 1, 1) := by decide +kernel
theorem dX9_write_43 : decode cX9_write 43 = .ok (.iadd, 1) := by decide +kernel
theorem dX9_write_44 : decode cX9_write 44 = .ok (.putfield 82, 3) := by decide +kernel
theorem dX9_write_47 : decode cX9_write 47 = .ok (.aload_n 0, 1) := by decide +kernel
theorem dX9_write_48 : decode cX9_write 48 = .ok (.getfield 82, 3) := by decide +kernel
theorem dX9_write_51 : decode cX9_write 51 = .ok (.ireturn, 1) := by decide +kernel
theorem dX9_wipe_0 : decode cX9_wipe 0 = .ok (.aload_n 0, 1) := by decide +kernel
theorem dX9_wipe_1 : decode cX9_wipe 1 = .ok (.getfield 82, 3) := by decide +kernel
theorem dX9_wipe_4 : decode cX9_wipe 4 = .ok (.istore_n 1, 1) := by decide +kernel
theorem dX9_wipe_5 : decode cX9_wipe 5 = .ok (.aload_n 0, 1) := by decide +kernel
theorem dX9_wipe_6 : decode cX9_wipe 6 = .ok (.iconst 0, 1) := by decide +kernel
theorem dX9_wipe_7 : decode cX9_wipe 7 = .ok (.putfield 82, 3) := by decide +kernel
theorem dX9_wipe_10 : decode cX9_wipe 10 = .ok (.iload_n 1, 1) := by decide +kernel
theorem dX9_wipe_11 : decode cX9_wipe 11 = .ok (.ireturn, 1) := by decide +kernel
theorem dX9_copies_0 : decode cX9_copies 0 = .ok (.iconst 0, 1) := by decide +kernel
theorem dX9_copies_1 : decode cX9_copies 1 = .ok (.istore_n 3, 1) := by decide +kernel
theorem dX9_copies_2 : decode cX9_copies 2 = .ok (.iload_n 3, 1) := by decide +kernel
theorem dX9_copies_3 : decode cX9_copies 3 = .ok (.sipush 1370, 3) := by decide +kernel
theorem dX9_copies_6 : decode cX9_copies 6 = .ok (.if_icmp .ge 15, 3) := by decide +kernel
theorem dX9_copies_9 : decode cX9_copies 9 = .ok (.aload_n 2, 1) := by decide +kernel
theorem dX9_copies_10 : decode cX9_copies 10 = .ok (.iload_n 3, 1) := by decide +kernel
theorem dX9_copies_11 : decode cX9_copies 11 = .ok (.aload_n 1, 1) := by decide +kernel
theorem dX9_copies_12 : decode cX9_copies 12 = .ok (.iload_n 3, 1) := by decide +kernel
theorem dX9_copies_13 : decode cX9_copies 13 = .ok (.iaload, 1) := by decide +kernel
theorem dX9_copies_14 : decode cX9_copies 14 = .ok (.iastore, 1) := by decide +kernel
theorem dX9_copies_15 : decode cX9_copies 15 = .ok (.iinc 3 1, 3) := by decide +kernel
theorem dX9_copies_18 : decode cX9_copies 18 = .ok (.goto (-16), 3) := by decide +kernel
theorem dX9_copies_21 : decode cX9_copies 21 = .ok (.return_, 1) := by decide +kernel
theorem dX9_fault_0 : decode cX9_fault 0 = .ok (.aload_n 0, 1) := by decide +kernel
theorem dX9_fault_1 : decode cX9_fault 1 = .ok (.aload_n 0, 1) := by decide +kernel
theorem dX9_fault_2 : decode cX9_fault 2 = .ok (.getfield 13, 3) := by decide +kernel
theorem dX9_fault_5 : decode cX9_fault 5 = .ok (.aload_n 0, 1) := by decide +kernel
theorem dX9_fault_6 : decode cX9_fault 6 = .ok (.getfield 16, 3) := by decide +kernel
theorem dX9_fault_9 : decode cX9_fault 9 = .ok (.invokevirtual 104, 3) := by decide +kernel
theorem dX9_fault_12 : decode cX9_fault 12 = .ok (.aload_n 0, 1) := by decide +kernel
theorem dX9_fault_13 : decode cX9_fault 13 = .ok (.invokevirtual 108, 3) := by decide +kernel
theorem dX9_fault_16 : decode cX9_fault 16 = .ok (.istore_n 1, 1) := by decide +kernel
theorem dX9_fault_17 : decode cX9_fault 17 = .ok (.aload_n 0, 1) := by decide +kernel
theorem dX9_fault_18 : decode cX9_fault 18 = .ok (.aload_n 0, 1) := by decide +kernel
theorem dX9_fault_19 : decode cX9_fault 19 = .ok (.getfield 16, 3) := by decide +kernel
theorem dX9_fault_22 : decode cX9_fault 22 = .ok (.aload_n 0, 1) := by decide +kernel
theorem dX9_fault_23 : decode cX9_fault 23 = .ok (.getfield 13, 3) := by decide +kernel
theorem dX9_fault_26 : decode cX9_fault 26 = .ok (.invokevirtual 104, 3) := by decide +kernel
theorem dX9_fault_29 : decode cX9_fault 29 = .ok (.iload_n 1, 1) := by decide +kernel
