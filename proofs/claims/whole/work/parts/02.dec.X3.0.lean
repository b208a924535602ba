theorem dX3_init_0 : decode cX3_init 0 = .ok (.aload_n 0, 1) := by decide +kernel
theorem dX3_init_1 : decode cX3_init 1 = .ok (.invokespecial 3, 3) := by decide +kernel
theorem dX3_init_4 : decode cX3_init 4 = .ok (.aload_n 0, 1) := by decide +kernel
theorem dX3_init_5 : decode cX3_init 5 = .ok (.iconst 5, 1) := by decide +kernel
theorem dX3_init_6 : decode cX3_init 6 = .ok (.newarray .int, 2) := by decide +kernel
theorem dX3_init_8 : decode cX3_init 8 = .ok (.putfield 9, 3) := by decide +kernel
theorem dX3_init_11 : decode cX3_init 11 = .ok (.return_, 1) := by decide +kernel
theorem dX3_crosses_0 : decode cX3_crosses 0 = .ok (.aload_n 0, 1) := by decide +kernel
theorem dX3_crosses_1 : decode cX3_crosses 1 = .ok (.getfield 15, 3) := by decide +kernel
theorem dX3_crosses_4 : decode cX3_crosses 4 = .ok (.iconst 1, 1) := by decide +kernel
theorem dX3_crosses_5 : decode cX3_crosses 5 = .ok (.if_icmp .ne 33, 3) := by decide +kernel
theorem dX3_crosses_8 : decode cX3_crosses 8 = .ok (.aload_n 0, 1) := by decide +kernel
theorem dX3_crosses_9 : decode cX3_crosses 9 = .ok (.getfield 19, 3) := by decide +kernel
theorem dX3_crosses_12 : decode cX3_crosses 12 = .ok (.aload_n 1, 1) := by decide +kernel
theorem dX3_crosses_13 : decode cX3_crosses 13 = .ok (.aload_n 0, 1) := by decide +kernel
theorem dX3_crosses_14 : decode cX3_crosses 14 = .ok (.getfield 22, 3) := by decide +kernel
theorem dX3_crosses_17 : decode cX3_crosses 17 = .ok (.iaload, 1) := by decide +kernel
theorem dX3_crosses_18 : decode cX3_crosses 18 = .ok (.if_icmp .ge 20, 3) := by decide +kernel
theorem dX3_crosses_21 : decode cX3_crosses 21 = .ok (.aload_n 0, 1) := by decide +kernel
theorem dX3_crosses_22 : decode cX3_crosses 22 = .ok (.getfield 25, 3) := by decide +kernel
theorem dX3_crosses_25 : decode cX3_crosses 25 = .ok (.aload_n 1, 1) := by decide +kernel
theorem dX3_crosses_26 : decode cX3_crosses 26 = .ok (.aload_n 0, 1) := by decide +kernel
theorem dX3_crosses_27 : decode cX3_crosses 27 = .ok (.getfield 28, 3) := by decide +kernel
theorem dX3_crosses_30 : decode cX3_crosses 30 = .ok (.iaload, 1) := by decide +kernel
theorem dX3_crosses_31 : decode cX3_crosses 31 = .ok (.if_icmp .lt 7, 3) := by decide +kernel
theorem dX3_crosses_34 : decode cX3_crosses 34 = .ok (.iconst 1, 1) := by decide +kernel
theorem dX3_crosses_35 : decode cX3_crosses 35 = .ok (.goto 4, 3) := by decide +kernel
theorem dX3_crosses_38 : decode cX3_crosses 38 = .ok (.iconst 0, 1) := by decide +kernel
theorem dX3_crosses_39 : decode cX3_crosses 39 = .ok (.ireturn, 1) := by decide +kernel
theorem dX3_isLostBehind_0 : decode cX3_isLostBehind 0 = .ok (.aload_n 0, 1) := by decide +kernel
theorem dX3_isLostBehind_1 : decode cX3_isLostBehind 1 = .ok (.getfield 15, 3) := by decide +kernel
theorem dX3_isLostBehind_4 : decode cX3_isLostBehind 4 = .ok (.iconst 2, 1) := by decide +kernel
theorem dX3_isLostBehind_5 : decode cX3_isLostBehind 5 = .ok (.if_icmp .eq 20, 3) := by decide +kernel
theorem dX3_isLostBehind_8 : decode cX3_isLostBehind 8 = .ok (.aload_n 0, 1) := by decide +kernel
theorem dX3_isLostBehind_9 : decode cX3_isLostBehind 9 = .ok (.getfield 25, 3) := by decide +kernel
theorem dX3_isLostBehind_12 : decode cX3_isLostBehind 12 = .ok (.aload_n 1, 1) := by decide +kernel
theorem dX3_isLostBehind_13 : decode cX3_isLostBehind 13 = .ok (.aload_n 0, 1) := by decide +kernel
theorem dX3_isLostBehind_14 : decode cX3_isLostBehind 14 = .ok (.getfield 28, 3) := by decide +kernel
theorem dX3_isLostBehind_17 : decode cX3_isLostBehind 17 = .ok (.iaload, 1) := by decide +kernel
theorem dX3_isLostBehind_18 : decode cX3_isLostBehind 18 = .ok (.if_icmp .lt 7, 3) := by decide +kernel
theorem dX3_isLostBehind_21 : decode cX3_isLostBehind 21 = .ok (.iconst 1, 1) := by decide +kernel
theorem dX3_isLostBehind_22 : decode cX3_isLostBehind 22 = .ok (.goto 4, 3) := by decide +kernel
theorem dX3_isLostBehind_25 : decode cX3_isLostBehind 25 = .ok (.iconst 0, 1) := by decide +kernel
theorem dX3_isLostBehind_26 : decode cX3_isLostBehind 26 = .ok (.ireturn, 1) := by decide +kernel
theorem dX3_isAgainBehind_0 : decode cX3_isAgainBehind 0 = .ok (.aload_n 0, 1) := by decide +kernel
theorem dX3_isAgainBehind_1 : decode cX3_isAgainBehind 1 = .ok (.getfield 15, 3) := by decide +kernel
theorem dX3_isAgainBehind_4 : decode cX3_isAgainBehind 4 = .ok (.iconst 1, 1) := by decide +kernel
theorem dX3_isAgainBehind_5 : decode cX3_isAgainBehind 5 = .ok (.if_icmp .ne 33, 3) := by decide +kernel
theorem dX3_isAgainBehind_8 : decode cX3_isAgainBehind 8 = .ok (.aload_n 0, 1) := by decide +kernel
theorem dX3_isAgainBehind_9 : decode cX3_isAgainBehind 9 = .ok (.getfield 19, 3) := by decide +kernel
theorem dX3_isAgainBehind_12 : decode cX3_isAgainBehind 12 = .ok (.aload_n 1, 1) := by decide +kernel
theorem dX3_isAgainBehind_13 : decode cX3_isAgainBehind 13 = .ok (.aload_n 0, 1) := by decide +kernel
theorem dX3_isAgainBehind_14 : decode cX3_isAgainBehind 14 = .ok (.getfield 22, 3) := by decide +kernel
theorem dX3_isAgainBehind_17 : decode cX3_isAgainBehind 17 = .ok (.iaload, 1) := by decide +kernel
theorem dX3_isAgainBehind_18 : decode cX3_isAgainBehind 18 = .ok (.if_icmp .lt 20, 3) := by decide +kernel
theorem dX3_isAgainBehind_21 : decode cX3_isAgainBehind 21 = .ok (.aload_n 0, 1) := by decide +kernel
theorem dX3_isAgainBehind_22 : decode cX3_isAgainBehind 22 = .ok (.getfield 25, 3) := by decide +kernel
theorem dX3_isAgainBehind_25 : decode cX3_isAgainBehind 25 = .ok (.aload_n 1, 1) := by decide +kernel
theorem dX3_isAgainBehind_26 : decode cX3_isAgainBehind 26 = .ok (.aload_n 0, 1) := by decide +kernel
theorem dX3_isAgainBehind_27 : decode cX3_isAgainBehind 27 = .ok (.getfield 28, 3) := by decide +kernel
theorem dX3_isAgainBehind_30 : decode cX3_isAgainBehind 30 = .ok (.iaload, 1) := by decide +kernel
theorem dX3_isAgainBehind_31 : decode cX3_isAgainBehind 31 = .ok (.if_icmp .ge 7, 3) := by decide +kernel
theorem dX3_isAgainBehind_34 : decode cX3_isAgainBehind 34 = .ok (.iconst 1, 1) := by decide +kernel
theorem dX3_isAgainBehind_35 : decode cX3_isAgainBehind 35 = .ok (.goto 4, 3) := by decide +kernel
theorem dX3_isAgainBehind_38 : decode cX3_isAgainBehind 38 = .ok (.iconst 0, 1) := by decide +kernel
theorem dX3_isAgainBehind_39 : decode cX3_isAgainBehind 39 = .ok (.ireturn, 1) := by decide +kernel
