theorem dX5_tell_0 : decode cX5_tell 0 = .ok (.iconst 0, 1) := by decide +kernel
theorem dX5_tell_1 : decode cX5_tell 1 = .ok (.istore_n 2, 1) := by decide +kernel
theorem dX5_tell_2 : decode cX5_tell 2 = .ok (.iconst 0, 1) := by decide +kernel
theorem dX5_tell_3 : decode cX5_tell 3 = .ok (.istore_n 3, 1) := by decide +kernel
theorem dX5_tell_4 : decode cX5_tell 4 = .ok (.iload_n 3, 1) := by decide +kernel
theorem dX5_tell_5 : decode cX5_tell 5 = .ok (.sipush 200, 3) := by decide +kernel
theorem dX5_tell_8 : decode cX5_tell 8 = .ok (.if_icmp .ge 49, 3) := by decide +kernel
theorem dX5_tell_11 : decode cX5_tell 11 = .ok (.iload_n 2, 1) := by decide +kernel
theorem dX5_tell_12 : decode cX5_tell 12 = .ok (.aload_n 0, 1) := by decide +kernel
theorem dX5_tell_13 : decode cX5_tell 13 = .ok (.getfield 9, 3) := by decide +kernel
theorem dX5_tell_16 : decode cX5_tell 16 = .ok (.if_icmp .ge 41, 3) := by decide +kernel
theorem dX5_tell_19 : decode cX5_tell 19 = .ok (.aload_n 0, 1) := by decide +kernel
theorem dX5_tell_20 : decode cX5_tell 20 = .ok (.iload_n 2, 1) := by decide +kernel
theorem dX5_tell_21 : decode cX5_tell 21 = .ok (.invokestatic 15, 3) := by decide +kernel
theorem dX5_tell_24 : decode cX5_tell 24 = .ok (.istore 4, 2) := by decide +kernel
theorem dX5_tell_26 : decode cX5_tell 26 = .ok (.iload 4, 2) := by decide +kernel
theorem dX5_tell_28 : decode cX5_tell 28 = .ok (.ifCond .eq 14, 3) := by decide +kernel
theorem dX5_tell_31 : decode cX5_tell 31 = .ok (.aload_n 0, 1) := by decide +kernel
theorem dX5_tell_32 : decode cX5_tell 32 = .ok (.iload_n 2, 1) := by decide +kernel
theorem dX5_tell_33 : decode cX5_tell 33 = .ok (.iload 4, 2) := by decide +kernel
theorem dX5_tell_35 : decode cX5_tell 35 = .ok (.aload_n 1, 1) := by decide +kernel
theorem dX5_tell_36 : decode cX5_tell 36 = .ok (.invokestatic 21, 3) := by decide +kernel
theorem dX5_tell_39 : decode cX5_tell 39 = .ok (.ifCond .ne 5, 3) := by decide +kernel
theorem dX5_tell_42 : decode cX5_tell 42 = .ok (.iload_n 2, 1) := by decide +kernel
theorem dX5_tell_43 : decode cX5_tell 43 = .ok (.ireturn, 1) := by decide +kernel
theorem dX5_tell_44 : decode cX5_tell 44 = .ok (.iload_n 2, 1) := by decide +kernel
theorem dX5_tell_45 : decode cX5_tell 45 = .ok (.iload 4, 2) := by decide +kernel
theorem dX5_tell_47 : decode cX5_tell 47 = .ok (.iconst 2, 1) := by decide +kernel
theorem dX5_tell_48 : decode cX5_tell 48 = .ok (.iadd, 1) := by decide +kernel
theorem dX5_tell_49 : decode cX5_tell 49 = .ok (.iadd, 1) := by decide +kernel
theorem dX5_tell_50 : decode cX5_tell 50 = .ok (.istore_n 2, 1) := by decide +kernel
theorem dX5_tell_51 : decode cX5_tell 51 = .ok (.iinc 3 1, 3) := by decide +kernel
theorem dX5_tell_54 : decode cX5_tell 54 = .ok (.goto (-50), 3) := by decide +kernel
theorem dX5_tell_57 : decode cX5_tell 57 = .ok (.bipush (-4), 2) := by decide +kernel
theorem dX5_tell_59 : decode cX5_tell 59 = .ok (.ireturn, 1) := by decide +kernel
theorem dX5_figuresBehind_0 : decode cX5_figuresBehind 0 = .ok (.aload_n 0, 1) := by decide +kernel
theorem dX5_figuresBehind_1 : decode cX5_figuresBehind 1 = .ok (.iload_n 1, 1) := by decide +kernel
theorem dX5_figuresBehind_2 : decode cX5_figuresBehind 2 = .ok (.iconst 1, 1) := by decide +kernel
theorem dX5_figuresBehind_3 : decode cX5_figuresBehind 3 = .ok (.iadd, 1) := by decide +kernel
theorem dX5_figuresBehind_4 : decode cX5_figuresBehind 4 = .ok (.invokevirtual 25, 3) := by decide +kernel
theorem dX5_figuresBehind_7 : decode cX5_figuresBehind 7 = .ok (.ifCond .ge 5, 3) := by decide +kernel
theorem dX5_figuresBehind_10 : decode cX5_figuresBehind 10 = .ok (.iconst 0, 1) := by decide +kernel
theorem dX5_figuresBehind_11 : decode cX5_figuresBehind 11 = .ok (.ireturn, 1) := by decide +kernel
theorem dX5_figuresBehind_12 : decode cX5_figuresBehind 12 = .ok (.aload_n 0, 1) := by decide +kernel
theorem dX5_figuresBehind_13 : decode cX5_figuresBehind 13 = .ok (.iload_n 1, 1) := by decide +kernel
theorem dX5_figuresBehind_14 : decode cX5_figuresBehind 14 = .ok (.iconst 2, 1) := by decide +kernel
theorem dX5_figuresBehind_15 : decode cX5_figuresBehind 15 = .ok (.iadd, 1) := by decide +kernel
theorem dX5_figuresBehind_16 : decode cX5_figuresBehind 16 = .ok (.invokevirtual 29, 3) := by decide +kernel
theorem dX5_figuresBehind_19 : decode cX5_figuresBehind 19 = .ok (.bipush 59, 2) := by decide +kernel
theorem dX5_figuresBehind_21 : decode cX5_figuresBehind 21 = .ok (.if_icmp .ne 5, 3) := by decide +kernel
theorem dX5_figuresBehind_24 : decode cX5_figuresBehind 24 = .ok (.iconst 1, 1) := by decide +kernel
theorem dX5_figuresBehind_25 : decode cX5_figuresBehind 25 = .ok (.ireturn, 1) := by decide +kernel
theorem dX5_figuresBehind_26 : decode cX5_figuresBehind 26 = .ok (.aload_n 0, 1) := by decide +kernel
theorem dX5_figuresBehind_27 : decode cX5_figuresBehind 27 = .ok (.iload_n 1, 1) := by decide +kernel
theorem dX5_figuresBehind_28 : decode cX5_figuresBehind 28 = .ok (.iconst 2, 1) := by decide +kernel
theorem dX5_figuresBehind_29 : decode cX5_figuresBehind 29 = .ok (.iadd, 1) := by decide +kernel
theorem dX5_figuresBehind_30 : decode cX5_figuresBehind 30 = .ok (.invokevirtual 25, 3) := by decide +kernel
theorem dX5_figuresBehind_33 : decode cX5_figuresBehind 33 = .ok (.ifCond .lt 19, 3) := by decide +kernel
theorem dX5_figuresBehind_36 : decode cX5_figuresBehind 36 = .ok (.aload_n 0, 1) := by decide +kernel
theorem dX5_figuresBehind_37 : decode cX5_figuresBehind 37 = .ok (.iload_n 1, 1) := by decide +kernel
theorem dX5_figuresBehind_38 : decode cX5_figuresBehind 38 = .ok (.iconst 3, 1) := by decide +kernel
theorem dX5_figuresBehind_39 : decode cX5_figuresBehind 39 = .ok (.iadd, 1) := by decide +kernel
theorem dX5_figuresBehind_40 : decode cX5_figuresBehind 40 = .ok (.invokevirtual 29, 3) := by decide +kernel
theorem dX5_figuresBehind_43 : decode cX5_figuresBehind 43 = .ok (.bipush 59, 2) := by decide +kernel
theorem dX5_figuresBehind_45 : decode cX5_figuresBehind 45 = .ok (.if_icmp .ne 7, 3) := by decide +kernel
theorem dX5_figuresBehind_48 : decode cX5_figuresBehind 48 = .ok (.iconst 2, 1) := by decide +kernel
theorem dX5_figuresBehind_49 : decode cX5_figuresBehind 49 = .ok (.goto 4, 3) := by decide +kernel
theorem dX5_figuresBehind_52 : decode cX5_figuresBehind 52 = .ok (.iconst 0, 1) := by decide +kernel
theorem dX5_figuresBehind_53 : decode cX5_figuresBehind 53 = .ok (.ireturn, 1) := by decide +kernel
theorem dX5_doItem_0 : decode cX5_doItem 0 = .ok (.aload_n 0, 1) := by decide +kernel
theorem dX5_doItem_1 : decode cX5_doItem 1 = .ok (.iload_n 1, 1) := by decide +kernel
theorem dX5_doItem_2 : decode cX5_doItem 2 = .ok (.invokevirtual 29, 3) := by decide +kernel
theorem dX5_doItem_5 : decode cX5_doItem 5 = .ok (.istore 4, 2) := by decide +kernel
theorem dX5_doItem_7 : decode cX5_doItem 7 = .ok (.iload_n 1, 1) := by decide +kernel
theorem dX5_doItem_8 : decode cX5_doItem 8 = .ok (.ifCond .ne 7, 3) := by decide +kernel
theorem dX5_doItem_11 : decode cX5_doItem 11 = .ok (.iconst 1, 1) := by decide +kernel
theorem dX5_doItem_12 : decode cX5_doItem 12 = .ok (.goto 4, 3) := by decide +kernel
theorem dX5_doItem_15 : decode cX5_doItem 15 = .ok (.iconst 0, 1) := by decide +kernel
theorem dX5_doItem_16 : decode cX5_doItem 16 = .ok (.iload 4, 2) := by decide +kernel
theorem dX5_doItem_18 : decode cX5_doItem 18 = .ok (.bipush 110, 2) := by decide +kernel
theorem dX5_doItem_20 : decode cX5_doItem 20 = .ok (.if_icmp .ne 7, 3) := by decide +kernel
theorem dX5_doItem_23 : decode cX5_doItem 23 = .ok (.iconst 1, 1) := by decide +kernel
theorem dX5_doItem_24 : decode cX5_doItem 24 = .ok (.goto 4, 3) := by decide +kernel
theorem dX5_doItem_27 : decode cX5_doItem 27 = .ok (.iconst 0, 1) := by decide +kernel
theorem dX5_doItem_28 : decode cX5_doItem 28 = .ok (.if_icmp .eq 5, 3) := by decide +kernel
theorem dX5_doItem_31 : decode cX5_doItem 31 = .ok (.iconst 0, 1) := by decide +kernel
theorem dX5_doItem_32 : decode cX5_doItem 32 = .ok (.ireturn, 1) := by decide +kernel
theorem dX5_doItem_33 : decode cX5_doItem 33 = .ok (.aload_n 0, 1) := by decide +kernel
theorem dX5_doItem_34 : decode cX5_doItem 34 = .ok (.iload_n 1, 1) := by decide +kernel
theorem dX5_doItem_35 : decode cX5_doItem 35 = .ok (.iconst 1, 1) := by decide +kernel
theorem dX5_doItem_36 : decode cX5_doItem 36 = .ok (.iadd, 1) := by decide +kernel
theorem dX5_doItem_37 : decode cX5_doItem 37 = .ok (.invokevirtual 25, 3) := by decide +kernel
theorem dX5_doItem_40 : decode cX5_doItem 40 = .ok (.istore 5, 2) := by decide +kernel
theorem dX5_doItem_42 : decode cX5_doItem 42 = .ok (.iload_n 2, 1) := by decide +kernel
theorem dX5_doItem_43 : decode cX5_doItem 43 = .ok (.iconst 1, 1) := by decide +kernel
theorem dX5_doItem_44 : decode cX5_doItem 44 = .ok (.if_icmp .ne 12, 3) := by decide +kernel
theorem dX5_doItem_47 : decode cX5_doItem 47 = .ok (.iload 4, 2) := by decide +kernel
theorem dX5_doItem_49 : decode cX5_doItem 49 = .ok (.iload 5, 2) := by decide +kernel
theorem dX5_doItem_51 : decode cX5_doItem 51 = .ok (.aload_n 3, 1) := by decide +kernel
theorem dX5_doItem_52 : decode cX5_doItem 52 = .ok (.invokestatic 33, 3) := by decide +kernel
theorem dX5_doItem_55 : decode cX5_doItem 55 = .ok (.ireturn, 1) := by decide +kernel
theorem dX5_doItem_56 : decode cX5_doItem 56 = .ok (.aload_n 0, 1) := by decide +kernel
theorem dX5_doItem_57 : decode cX5_doItem 57 = .ok (.iload_n 1, 1) := by decide +kernel
theorem dX5_doItem_58 : decode cX5_doItem 58 = .ok (.iconst 2, 1) := by decide +kernel
theorem dX5_doItem_59 : decode cX5_doItem 59 = .ok (.iadd, 1) := by decide +kernel
theorem dX5_doItem_60 : decode cX5_doItem 60 = .ok (.invokevirtual 25, 3) := by decide +kernel
theorem dX5_doItem_63 : decode cX5_doItem 63 = .ok (.istore 6, 2) := by decide +kernel
theorem dX5_doItem_65 : decode cX5_doItem 65 = .ok (.iload 4, 2) := by decide +kernel
theorem dX5_doItem_67 : decode cX5_doItem 67 = .ok (.lookupswitch 63 #[(114, 42), (115, 25)], 25) := by decide +kernel
theorem dX5_doItem_92 : decode cX5_doItem 92 = .ok (.aload_n 3, 1) := by decide +kernel
theorem dX5_doItem_93 : decode cX5_doItem 93 = .ok (.iload 5, 2) := by decide +kernel
theorem dX5_doItem_95 : decode cX5_doItem 95 = .ok (.iload 6, 2) := by decide +kernel
theorem dX5_doItem_97 : decode cX5_doItem 97 = .ok (.invokevirtual 37, 3) := by decide +kernel
theorem dX5_doItem_100 : decode cX5_doItem 100 = .ok (.ifCond .lt 7, 3) := by decide +kernel
theorem dX5_doItem_103 : decode cX5_doItem 103 = .ok (.iconst 1, 1) := by decide +kernel
theorem dX5_doItem_104 : decode cX5_doItem 104 = .ok (.goto 4, 3) := by decide +kernel
theorem dX5_doItem_107 : decode cX5_doItem 107 = .ok (.iconst 0, 1) := by decide +kernel
theorem dX5_doItem_108 : decode cX5_doItem 108 = .ok (.ireturn, 1) := by decide +kernel
theorem dX5_doItem_109 : decode cX5_doItem 109 = .ok (.aload_n 3, 1) := by decide +kernel
theorem dX5_doItem_110 : decode cX5_doItem 110 = .ok (.bipush 10, 2) := by decide +kernel
theorem dX5_doItem_112 : decode cX5_doItem 112 = .ok (.iload 5, 2) := by decide +kernel
theorem dX5_doItem_114 : decode cX5_doItem 114 = .ok (.imul, 1) := by decide +kernel
theorem dX5_doItem_115 : decode cX5_doItem 115 = .ok (.iload 6, 2) := by decide +kernel
theorem dX5_doItem_117 : decode cX5_doItem 117 = .ok (.iadd, 1) := by decide +kernel
theorem dX5_doItem_118 : decode cX5_doItem 118 = .ok (.invokevirtual 43, 3) := by decide +kernel
theorem dX5_doItem_121 : decode cX5_doItem 121 = .ok (.ifCond .lt 7, 3) := by decide +kernel
theorem dX5_doItem_124 : decode cX5_doItem 124 = .ok (.iconst 1, 1) := by decide +kernel
theorem dX5_doItem_125 : decode cX5_doItem 125 = .ok (.goto 4, 3) := by decide +kernel
theorem dX5_doItem_128 : decode cX5_doItem 128 = .ok (.iconst 0, 1) := by decide +kernel
theorem dX5_doItem_129 : decode cX5_doItem 129 = .ok (.ireturn, 1) := by decide +kernel
theorem dX5_doItem_130 : decode cX5_doItem 130 = .ok (.iconst 0, 1) := by decide +kernel
theorem dX5_doItem_131 : decode cX5_doItem 131 = .ok (.ireturn, 1) := by decide +kernel
theorem dX5_doShortItem_0 : decode cX5_doShortItem 0 = .ok (.iload_n 0, 1) := by decide +kernel
theorem dX5_doShortItem_1 : decode cX5_doShortItem 1 = .ok (.lookupswitch 69 #[(99, 41), (109, 55), (110, 35)], 35) := by decide +kernel
theorem dX5_doShortItem_36 : decode cX5_doShortItem 36 = .ok (.aload_n 2, 1) := by decide +kernel
theorem dX5_doShortItem_37 : decode cX5_doShortItem 37 = .ok (.iload_n 1, 1) := by decide +kernel
theorem dX5_doShortItem_38 : decode cX5_doShortItem 38 = .ok (.invokevirtual 46, 3) := by decide +kernel
theorem dX5_doShortItem_41 : decode cX5_doShortItem 41 = .ok (.ireturn, 1) := by decide +kernel
theorem dX5_doShortItem_42 : decode cX5_doShortItem 42 = .ok (.aload_n 2, 1) := by decide +kernel
theorem dX5_doShortItem_43 : decode cX5_doShortItem 43 = .ok (.iload_n 1, 1) := by decide +kernel
theorem dX5_doShortItem_44 : decode cX5_doShortItem 44 = .ok (.invokevirtual 50, 3) := by decide +kernel
theorem dX5_doShortItem_47 : decode cX5_doShortItem 47 = .ok (.ifCond .lt 7, 3) := by decide +kernel
theorem dX5_doShortItem_50 : decode cX5_doShortItem 50 = .ok (.iconst 1, 1) := by decide +kernel
theorem dX5_doShortItem_51 : decode cX5_doShortItem 51 = .ok (.goto 4, 3) := by decide +kernel
theorem dX5_doShortItem_54 : decode cX5_doShortItem 54 = .ok (.iconst 0, 1) := by decide +kernel
theorem dX5_doShortItem_55 : decode cX5_doShortItem 55 = .ok (.ireturn, 1) := by decide +kernel
theorem dX5_doShortItem_56 : decode cX5_doShortItem 56 = .ok (.iload_n 1, 1) := by decide +kernel
theorem dX5_doShortItem_57 : decode cX5_doShortItem 57 = .ok (.iconst 3, 1) := by decide +kernel
theorem dX5_doShortItem_58 : decode cX5_doShortItem 58 = .ok (.if_icmp .le 5, 3) := by decide +kernel
theorem dX5_doShortItem_61 : decode cX5_doShortItem 61 = .ok (.iconst 0, 1) := by decide +kernel
theorem dX5_doShortItem_62 : decode cX5_doShortItem 62 = .ok (.ireturn, 1) := by decide +kernel
theorem dX5_doShortItem_63 : decode cX5_doShortItem 63 = .ok (.aload_n 2, 1) := by decide +kernel
theorem dX5_doShortItem_64 : decode cX5_doShortItem 64 = .ok (.iload_n 1, 1) := by decide +kernel
theorem dX5_doShortItem_65 : decode cX5_doShortItem 65 = .ok (.putfield 53, 3) := by decide +kernel
theorem dX5_doShortItem_68 : decode cX5_doShortItem 68 = .ok (.iconst 1, 1) := by decide +kernel
theorem dX5_doShortItem_69 : decode cX5_doShortItem 69 = .ok (.ireturn, 1) := by decide +kernel
theorem dX5_doShortItem_70 : decode cX5_doShortItem 70 = .ok (.iconst 0, 1) := by decide +kernel
theorem dX5_doShortItem_71 : decode cX5_doShortItem 71 = .ok (.ireturn, 1) := by decide +kernel
