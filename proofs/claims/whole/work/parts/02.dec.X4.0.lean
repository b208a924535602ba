theorem dX4_init_0 : decode cX4_init 0 = .ok (.aload_n 0, 1) := by decide +kernel
theorem dX4_init_1 : decode cX4_init 1 = .ok (.invokespecial 3, 3) := by decide +kernel
theorem dX4_init_4 : decode cX4_init 4 = .ok (.aload_n 0, 1) := by decide +kernel
theorem dX4_init_5 : decode cX4_init 5 = .ok (.iconst 5, 1) := by decide +kernel
theorem dX4_init_6 : decode cX4_init 6 = .ok (.newarray .int, 2) := by decide +kernel
theorem dX4_init_8 : decode cX4_init 8 = .ok (.dup, 1) := by decide +kernel
theorem dX4_init_9 : decode cX4_init 9 = .ok (.iconst 0, 1) := by decide +kernel
theorem dX4_init_10 : decode cX4_init 10 = .ok (.iconst (-1), 1) := by decide +kernel
theorem dX4_init_11 : decode cX4_init 11 = .ok (.iastore, 1) := by decide +kernel
theorem dX4_init_12 : decode cX4_init 12 = .ok (.dup, 1) := by decide +kernel
theorem dX4_init_13 : decode cX4_init 13 = .ok (.iconst 1, 1) := by decide +kernel
theorem dX4_init_14 : decode cX4_init 14 = .ok (.iconst (-1), 1) := by decide +kernel
theorem dX4_init_15 : decode cX4_init 15 = .ok (.iastore, 1) := by decide +kernel
theorem dX4_init_16 : decode cX4_init 16 = .ok (.dup, 1) := by decide +kernel
theorem dX4_init_17 : decode cX4_init 17 = .ok (.iconst 2, 1) := by decide +kernel
theorem dX4_init_18 : decode cX4_init 18 = .ok (.iconst (-1), 1) := by decide +kernel
theorem dX4_init_19 : decode cX4_init 19 = .ok (.iastore, 1) := by decide +kernel
theorem dX4_init_20 : decode cX4_init 20 = .ok (.dup, 1) := by decide +kernel
theorem dX4_init_21 : decode cX4_init 21 = .ok (.iconst 3, 1) := by decide +kernel
theorem dX4_init_22 : decode cX4_init 22 = .ok (.iconst (-1), 1) := by decide +kernel
theorem dX4_init_23 : decode cX4_init 23 = .ok (.iastore, 1) := by decide +kernel
theorem dX4_init_24 : decode cX4_init 24 = .ok (.dup, 1) := by decide +kernel
theorem dX4_init_25 : decode cX4_init 25 = .ok (.iconst 4, 1) := by decide +kernel
theorem dX4_init_26 : decode cX4_init 26 = .ok (.iconst (-1), 1) := by decide +kernel
theorem dX4_init_27 : decode cX4_init 27 = .ok (.iastore, 1) := by decide +kernel
theorem dX4_init_28 : decode cX4_init 28 = .ok (.putfield 9, 3) := by decide +kernel
theorem dX4_init_31 : decode cX4_init 31 = .ok (.return_, 1) := by decide +kernel
theorem dX4_has_0 : decode cX4_has 0 = .ok (.aload_n 0, 1) := by decide +kernel
theorem dX4_has_1 : decode cX4_has 1 = .ok (.getfield 9, 3) := by decide +kernel
theorem dX4_has_4 : decode cX4_has 4 = .ok (.iload_n 1, 1) := by decide +kernel
theorem dX4_has_5 : decode cX4_has 5 = .ok (.iaload, 1) := by decide +kernel
theorem dX4_has_6 : decode cX4_has 6 = .ok (.iconst (-1), 1) := by decide +kernel
theorem dX4_has_7 : decode cX4_has 7 = .ok (.if_icmp .eq 7, 3) := by decide +kernel
theorem dX4_has_10 : decode cX4_has 10 = .ok (.iconst 1, 1) := by decide +kernel
theorem dX4_has_11 : decode cX4_has 11 = .ok (.goto 4, 3) := by decide +kernel
theorem dX4_has_14 : decode cX4_has 14 = .ok (.iconst 0, 1) := by decide +kernel
theorem dX4_has_15 : decode cX4_has 15 = .ok (.ireturn, 1) := by decide +kernel
theorem dX4_size_0 : decode cX4_size 0 = .ok (.iconst 0, 1) := by decide +kernel
theorem dX4_size_1 : decode cX4_size 1 = .ok (.istore_n 1, 1) := by decide +kernel
theorem dX4_size_2 : decode cX4_size 2 = .ok (.iconst 0, 1) := by decide +kernel
theorem dX4_size_3 : decode cX4_size 3 = .ok (.istore_n 2, 1) := by decide +kernel
theorem dX4_size_4 : decode cX4_size 4 = .ok (.iload_n 2, 1) := by decide +kernel
theorem dX4_size_5 : decode cX4_size 5 = .ok (.iconst 5, 1) := by decide +kernel
theorem dX4_size_6 : decode cX4_size 6 = .ok (.if_icmp .ge 20, 3) := by decide +kernel
theorem dX4_size_9 : decode cX4_size 9 = .ok (.aload_n 0, 1) := by decide +kernel
theorem dX4_size_10 : decode cX4_size 10 = .ok (.iload_n 2, 1) := by decide +kernel
theorem dX4_size_11 : decode cX4_size 11 = .ok (.invokevirtual 15, 3) := by decide +kernel
theorem dX4_size_14 : decode cX4_size 14 = .ok (.ifCond .eq 6, 3) := by decide +kernel
theorem dX4_size_17 : decode cX4_size 17 = .ok (.iinc 1 1, 3) := by decide +kernel
theorem dX4_size_20 : decode cX4_size 20 = .ok (.iinc 2 1, 3) := by decide +kernel
theorem dX4_size_23 : decode cX4_size 23 = .ok (.goto (-19), 3) := by decide +kernel
theorem dX4_size_26 : decode cX4_size 26 = .ok (.iload_n 1, 1) := by decide +kernel
theorem dX4_size_27 : decode cX4_size 27 = .ok (.ireturn, 1) := by decide +kernel
theorem dX4_clear_0 : decode cX4_clear 0 = .ok (.aload_n 0, 1) := by decide +kernel
theorem dX4_clear_1 : decode cX4_clear 1 = .ok (.invokevirtual 19, 3) := by decide +kernel
theorem dX4_clear_4 : decode cX4_clear 4 = .ok (.istore_n 1, 1) := by decide +kernel
theorem dX4_clear_5 : decode cX4_clear 5 = .ok (.iconst 0, 1) := by decide +kernel
theorem dX4_clear_6 : decode cX4_clear 6 = .ok (.istore_n 2, 1) := by decide +kernel
theorem dX4_clear_7 : decode cX4_clear 7 = .ok (.iload_n 2, 1) := by decide +kernel
theorem dX4_clear_8 : decode cX4_clear 8 = .ok (.iconst 5, 1) := by decide +kernel
theorem dX4_clear_9 : decode cX4_clear 9 = .ok (.if_icmp .ge 16, 3) := by decide +kernel
theorem dX4_clear_12 : decode cX4_clear 12 = .ok (.aload_n 0, 1) := by decide +kernel
theorem dX4_clear_13 : decode cX4_clear 13 = .ok (.getfield 9, 3) := by decide +kernel
theorem dX4_clear_16 : decode cX4_clear 16 = .ok (.iload_n 2, 1) := by decide +kernel
theorem dX4_clear_17 : decode cX4_clear 17 = .ok (.iconst (-1), 1) := by decide +kernel
theorem dX4_clear_18 : decode cX4_clear 18 = .ok (.iastore, 1) := by decide +kernel
theorem dX4_clear_19 : decode cX4_clear 19 = .ok (.iinc 2 1, 3) := by decide +kernel
theorem dX4_clear_22 : decode cX4_clear 22 = .ok (.goto (-15), 3) := by decide +kernel
theorem dX4_clear_25 : decode cX4_clear 25 = .ok (.iload_n 1, 1) := by decide +kernel
theorem dX4_clear_26 : decode cX4_clear 26 = .ok (.ireturn, 1) := by decide +kernel
theorem dX4_someAbove_0 : decode cX4_someAbove 0 = .ok (.iconst 0, 1) := by decide +kernel
theorem dX4_someAbove_1 : decode cX4_someAbove 1 = .ok (.istore_n 2, 1) := by decide +kernel
theorem dX4_someAbove_2 : decode cX4_someAbove 2 = .ok (.iload_n 2, 1) := by decide +kernel
theorem dX4_someAbove_3 : decode cX4_someAbove 3 = .ok (.aload_n 1, 1) := by decide +kernel
theorem dX4_someAbove_4 : decode cX4_someAbove 4 = .ok (.getfield 23, 3) := by decide +kernel
theorem dX4_someAbove_7 : decode cX4_someAbove 7 = .ok (.if_icmp .ge 29, 3) := by decide +kernel
theorem dX4_someAbove_10 : decode cX4_someAbove 10 = .ok (.aload_n 0, 1) := by decide +kernel
theorem dX4_someAbove_11 : decode cX4_someAbove 11 = .ok (.getfield 9, 3) := by decide +kernel
theorem dX4_someAbove_14 : decode cX4_someAbove 14 = .ok (.iload_n 2, 1) := by decide +kernel
theorem dX4_someAbove_15 : decode cX4_someAbove 15 = .ok (.iaload, 1) := by decide +kernel
theorem dX4_someAbove_16 : decode cX4_someAbove 16 = .ok (.aload_n 1, 1) := by decide +kernel
theorem dX4_someAbove_17 : decode cX4_someAbove 17 = .ok (.getfield 29, 3) := by decide +kernel
theorem dX4_someAbove_20 : decode cX4_someAbove 20 = .ok (.iload_n 2, 1) := by decide +kernel
theorem dX4_someAbove_21 : decode cX4_someAbove 21 = .ok (.aaload, 1) := by decide +kernel
theorem dX4_someAbove_22 : decode cX4_someAbove 22 = .ok (.getfield 33, 3) := by decide +kernel
theorem dX4_someAbove_25 : decode cX4_someAbove 25 = .ok (.if_icmp .le 5, 3) := by decide +kernel
theorem dX4_someAbove_28 : decode cX4_someAbove 28 = .ok (.iconst 1, 1) := by decide +kernel
theorem dX4_someAbove_29 : decode cX4_someAbove 29 = .ok (.ireturn, 1) := by decide +kernel
theorem dX4_someAbove_30 : decode cX4_someAbove 30 = .ok (.iinc 2 1, 3) := by decide +kernel
theorem dX4_someAbove_33 : decode cX4_someAbove 33 = .ok (.goto (-31), 3) := by decide +kernel
theorem dX4_someAbove_36 : decode cX4_someAbove 36 = .ok (.iconst 0, 1) := by decide +kernel
theorem dX4_someAbove_37 : decode cX4_someAbove 37 = .ok (.ireturn, 1) := by decide +kernel
theorem dX4_areOn_0 : decode cX4_areOn 0 = .ok (.iconst 0, 1) := by decide +kernel
theorem dX4_areOn_1 : decode cX4_areOn 1 = .ok (.istore_n 2, 1) := by decide +kernel
theorem dX4_areOn_2 : decode cX4_areOn 2 = .ok (.iload_n 2, 1) := by decide +kernel
theorem dX4_areOn_3 : decode cX4_areOn 3 = .ok (.iconst 5, 1) := by decide +kernel
theorem dX4_areOn_4 : decode cX4_areOn 4 = .ok (.if_icmp .ge 31, 3) := by decide +kernel
theorem dX4_areOn_7 : decode cX4_areOn 7 = .ok (.aload_n 0, 1) := by decide +kernel
theorem dX4_areOn_8 : decode cX4_areOn 8 = .ok (.iload_n 2, 1) := by decide +kernel
theorem dX4_areOn_9 : decode cX4_areOn 9 = .ok (.invokevirtual 15, 3) := by decide +kernel
theorem dX4_areOn_12 : decode cX4_areOn 12 = .ok (.ifCond .eq 17, 3) := by decide +kernel
theorem dX4_areOn_15 : decode cX4_areOn 15 = .ok (.aload_n 0, 1) := by decide +kernel
theorem dX4_areOn_16 : decode cX4_areOn 16 = .ok (.getfield 9, 3) := by decide +kernel
theorem dX4_areOn_19 : decode cX4_areOn 19 = .ok (.iload_n 2, 1) := by decide +kernel
theorem dX4_areOn_20 : decode cX4_areOn 20 = .ok (.iaload, 1) := by decide +kernel
theorem dX4_areOn_21 : decode cX4_areOn 21 = .ok (.aload_n 1, 1) := by decide +kernel
theorem dX4_areOn_22 : decode cX4_areOn 22 = .ok (.iload_n 2, 1) := by decide +kernel
theorem dX4_areOn_23 : decode cX4_areOn 23 = .ok (.iaload, 1) := by decide +kernel
theorem dX4_areOn_24 : decode cX4_areOn 24 = .ok (.if_icmp .eq 5, 3) := by decide +kernel
theorem dX4_areOn_27 : decode cX4_areOn 27 = .ok (.iconst 0, 1) := by decide +kernel
theorem dX4_areOn_28 : decode cX4_areOn 28 = .ok (.ireturn, 1) := by decide +kernel
theorem dX4_areOn_29 : decode cX4_areOn 29 = .ok (.iinc 2 1, 3) := by decide +kernel
theorem dX4_areOn_32 : decode cX4_areOn 32 = .ok (.goto (-30), 3) := by decide +kernel
theorem dX4_areOn_35 : decode cX4_areOn 35 = .ok (.iconst 1, 1) := by decide +kernel
theorem dX4_areOn_36 : decode cX4_areOn 36 = .ok (.ireturn, 1) := by decide +kernel
