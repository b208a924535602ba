theorem dX8_init_0 : decode cX8_init 0 = .ok (.aload_n 0, 1) := by decide +kernel
theorem dX8_init_1 : decode cX8_init 1 = .ok (.invokespecial 3, 3) := by decide +kernel
theorem dX8_init_4 : decode cX8_init 4 = .ok (.aload_n 0, 1) := by decide +kernel
theorem dX8_init_5 : decode cX8_init 5 = .ok (.new 9, 3) := by decide +kernel
theorem dX8_init_8 : decode cX8_init 8 = .ok (.dup, 1) := by decide +kernel
theorem dX8_init_9 : decode cX8_init 9 = .ok (.invokespecial 11, 3) := by decide +kernel
theorem dX8_init_12 : decode cX8_init 12 = .ok (.putfield 12, 3) := by decide +kernel
theorem dX8_init_15 : decode cX8_init 15 = .ok (.aload_n 0, 1) := by decide +kernel
theorem dX8_init_16 : decode cX8_init 16 = .ok (.new 16, 3) := by decide +kernel
theorem dX8_init_19 : decode cX8_init 19 = .ok (.dup, 1) := by decide +kernel
theorem dX8_init_20 : decode cX8_init 20 = .ok (.invokespecial 18, 3) := by decide +kernel
theorem dX8_init_23 : decode cX8_init 23 = .ok (.putfield 19, 3) := by decide +kernel
theorem dX8_init_26 : decode cX8_init 26 = .ok (.aload_n 0, 1) := by decide +kernel
theorem dX8_init_27 : decode cX8_init 27 = .ok (.new 23, 3) := by decide +kernel
theorem dX8_init_30 : decode cX8_init 30 = .ok (.dup, 1) := by decide +kernel
theorem dX8_init_31 : decode cX8_init 31 = .ok (.invokespecial 25, 3) := by decide +kernel
theorem dX8_init_34 : decode cX8_init 34 = .ok (.putfield 26, 3) := by decide +kernel
theorem dX8_init_37 : decode cX8_init 37 = .ok (.aload_n 0, 1) := by decide +kernel
theorem dX8_init_38 : decode cX8_init 38 = .ok (.new 30, 3) := by decide +kernel
theorem dX8_init_41 : decode cX8_init 41 = .ok (.dup, 1) := by decide +kernel
theorem dX8_init_42 : decode cX8_init 42 = .ok (.invokespecial 32, 3) := by decide +kernel
theorem dX8_init_45 : decode cX8_init 45 = .ok (.putfield 33, 3) := by decide +kernel
theorem dX8_init_48 : decode cX8_init 48 = .ok (.aload_n 0, 1) := by decide +kernel
theorem dX8_init_49 : decode cX8_init 49 = .ok (.new 37, 3) := by decide +kernel
theorem dX8_init_52 : decode cX8_init 52 = .ok (.dup, 1) := by decide +kernel
theorem dX8_init_53 : decode cX8_init 53 = .ok (.invokespecial 39, 3) := by decide +kernel
theorem dX8_init_56 : decode cX8_init 56 = .ok (.putfield 40, 3) := by decide +kernel
theorem dX8_init_59 : decode cX8_init 59 = .ok (.aload_n 0, 1) := by decide +kernel
theorem dX8_init_60 : decode cX8_init 60 = .ok (.new 37, 3) := by decide +kernel
theorem dX8_init_63 : decode cX8_init 63 = .ok (.dup, 1) := by decide +kernel
theorem dX8_init_64 : decode cX8_init 64 = .ok (.invokespecial 39, 3) := by decide +kernel
theorem dX8_init_67 : decode cX8_init 67 = .ok (.putfield 44, 3) := by decide +kernel
theorem dX8_init_70 : decode cX8_init 70 = .ok (.iconst 0, 1) := by decide +kernel
theorem dX8_init_71 : decode cX8_init 71 = .ok (.istore_n 1, 1) := by decide +kernel
theorem dX8_init_72 : decode cX8_init 72 = .ok (.iload_n 1, 1) := by decide +kernel
theorem dX8_init_73 : decode cX8_init 73 = .ok (.ldc 47, 2) := by decide +kernel
theorem dX8_init_75 : decode cX8_init 75 = .ok (.invokevirtual 49, 3) := by decide +kernel
theorem dX8_init_78 : decode cX8_init 78 = .ok (.if_icmp .ge 23, 3) := by decide +kernel
theorem dX8_init_81 : decode cX8_init 81 = .ok (.aload_n 0, 1) := by decide +kernel
theorem dX8_init_82 : decode cX8_init 82 = .ok (.getfield 12, 3) := by decide +kernel
theorem dX8_init_85 : decode cX8_init 85 = .ok (.ldc 47, 2) := by decide +kernel
theorem dX8_init_87 : decode cX8_init 87 = .ok (.iload_n 1, 1) := by decide +kernel
theorem dX8_init_88 : decode cX8_init 88 = .ok (.invokevirtual 55, 3) := by decide +kernel
theorem dX8_init_91 : decode cX8_init 91 = .ok (.invokevirtual 59, 3) := by decide +kernel
theorem dX8_init_94 : decode cX8_init 94 = .ok (.pop, 1) := by decide +kernel
theorem dX8_init_95 : decode cX8_init 95 = .ok (.iinc 1 1, 3) := by decide +kernel
theorem dX8_init_98 : decode cX8_init 98 = .ok (.goto (-26), 3) := by decide +kernel
theorem dX8_init_101 : decode cX8_init 101 = .ok (.aload_n 0, 1) := by decide +kernel
theorem dX8_init_102 : decode cX8_init 102 = .ok (.getfield 12, 3) := by decide +kernel
theorem dX8_init_105 : decode cX8_init 105 = .ok (.aload_n 0, 1) := by decide +kernel
theorem dX8_init_106 : decode cX8_init 106 = .ok (.getfield 40, 3) := by decide +kernel
theorem dX8_init_109 : decode cX8_init 109 = .ok (.invokestatic 63, 3) := by decide +kernel
theorem dX8_init_112 : decode cX8_init 112 = .ok (.pop, 1) := by decide +kernel
theorem dX8_init_113 : decode cX8_init 113 = .ok (.aload_n 0, 1) := by decide +kernel
theorem dX8_init_114 : decode cX8_init 114 = .ok (.getfield 12, 3) := by decide +kernel
theorem dX8_init_117 : decode cX8_init 117 = .ok (.invokevirtual 69, 3) := by decide +kernel
theorem dX8_init_120 : decode cX8_init 120 = .ok (.pop, 1) := by decide +kernel
theorem dX8_init_121 : decode cX8_init 121 = .ok (.return_, 1) := by decide +kernel
theorem dX8_write_0 : decode cX8_write 0 = .ok (.iload_n 1, 1) := by decide +kernel
theorem dX8_write_1 : decode cX8_write 1 = .ok (.bipush 32, 2) := by decide +kernel
theorem dX8_write_3 : decode cX8_write 3 = .ok (.if_icmp .lt 9, 3) := by decide +kernel
theorem dX8_write_6 : decode cX8_write 6 = .ok (.iload_n 1, 1) := by decide +kernel
theorem dX8_write_7 : decode cX8_write 7 = .ok (.bipush 126, 2) := by decide +kernel
theorem dX8_write_9 : decode cX8_write 9 = .ok (.if_icmp .le 5, 3) := by decide +kernel
theorem dX8_write_12 : decode cX8_write 12 = .ok (.iconst (-1), 1) := by decide +kernel
theorem dX8_write_13 : decode cX8_write 13 = .ok (.ireturn, 1) := by decide +kernel
theorem dX8_write_14 : decode cX8_write 14 = .ok (.aload_n 0, 1) := by decide +kernel
theorem dX8_write_15 : decode cX8_write 15 = .ok (.getfield 12, 3) := by decide +kernel
theorem dX8_write_18 : decode cX8_write 18 = .ok (.iload_n 1, 1) := by decide +kernel
theorem dX8_write_19 : decode cX8_write 19 = .ok (.i2c, 1) := by decide +kernel
theorem dX8_write_20 : decode cX8_write 20 = .ok (.invokevirtual 59, 3) := by decide +kernel
theorem dX8_write_23 : decode cX8_write 23 = .ok (.ifCond .eq 13, 3) := by decide +kernel
theorem dX8_write_26 : decode cX8_write 26 = .ok (.aload_n 0, 1) := by decide +kernel
theorem dX8_write_27 : decode cX8_write 27 = .ok (.getfield 12, 3) := by decide +kernel
theorem dX8_write_30 : decode cX8_write 30 = .ok (.getfield 72, 3) := by decide +kernel
theorem dX8_write_33 : decode cX8_write 33 = .ok (.goto 5, 3) := by decide +kernel
theorem dX8_write_36 : decode cX8_write 36 = .ok (.bipush (-3), 2) := by decide +kernel
theorem dX8_write_38 : decode cX8_write 38 = .ok (.ireturn, 1) := by decide +kernel
theorem dX8_wipe_0 : decode cX8_wipe 0 = .ok (.aload_n 0, 1) := by decide +kernel
theorem dX8_wipe_1 : decode cX8_wipe 1 = .ok (.getfield 12, 3) := by decide +kernel
theorem dX8_wipe_4 : decode cX8_wipe 4 = .ok (.invokevirtual 69, 3) := by decide +kernel
theorem dX8_wipe_7 : decode cX8_wipe 7 = .ok (.ireturn, 1) := by decide +kernel
theorem dX8_fault_0 : decode cX8_fault 0 = .ok (.aload_n 0, 1) := by decide +kernel
theorem dX8_fault_1 : decode cX8_fault 1 = .ok (.getfield 12, 3) := by decide +kernel
theorem dX8_fault_4 : decode cX8_fault 4 = .ok (.aload_n 0, 1) := by decide +kernel
theorem dX8_fault_5 : decode cX8_fault 5 = .ok (.getfield 44, 3) := by decide +kernel
theorem dX8_fault_8 : decode cX8_fault 8 = .ok (.invokestatic 63, 3) := by decide +kernel
theorem dX8_fault_11 : decode cX8_fault 11 = .ok (.ireturn, 1) := by decide +kernel
theorem dX8_lay_0 : decode cX8_lay 0 = .ok (.aload_n 0, 1) := by decide +kernel
theorem dX8_lay_1 : decode cX8_lay 1 = .ok (.getfield 12, 3) := by decide +kernel
theorem dX8_lay_4 : decode cX8_lay 4 = .ok (.getfield 72, 3) := by decide +kernel
theorem dX8_lay_7 : decode cX8_lay 7 = .ok (.ifCond .eq 19, 3) := by decide +kernel
theorem dX8_lay_10 : decode cX8_lay 10 = .ok (.aload_n 0, 1) := by decide +kernel
theorem dX8_lay_11 : decode cX8_lay 11 = .ok (.getfield 12, 3) := by decide +kernel
theorem dX8_lay_14 : decode cX8_lay 14 = .ok (.aload_n 0, 1) := by decide +kernel
theorem dX8_lay_15 : decode cX8_lay 15 = .ok (.getfield 44, 3) := by decide +kernel
theorem dX8_lay_18 : decode cX8_lay 18 = .ok (.invokestatic 63, 3) := by decide +kernel
theorem dX8_lay_21 : decode cX8_lay 21 = .ok (.bipush (-4), 2) := by decide +kernel
theorem dX8_lay_23 : decode cX8_lay 23 = .ok (.if_icmp .eq 6, 3) := by decide +kernel
theorem dX8_lay_26 : decode cX8_lay 26 = .ok (.bipush (-2), 2) := by decide +kernel
theorem dX8_lay_28 : decode cX8_lay 28 = .ok (.ireturn, 1) := by decide +kernel
theorem dX8_lay_29 : decode cX8_lay 29 = .ok (.aload_n 0, 1) := by decide +kernel
theorem dX8_lay_30 : decode cX8_lay 30 = .ok (.getfield 44, 3) := by decide +kernel
theorem dX8_lay_33 : decode cX8_lay 33 = .ok (.astore_n 1, 1) := by decide +kernel
theorem dX8_lay_34 : decode cX8_lay 34 = .ok (.aload_n 0, 1) := by decide +kernel
theorem dX8_lay_35 : decode cX8_lay 35 = .ok (.aload_n 0, 1) := by decide +kernel
theorem dX8_lay_36 : decode cX8_lay 36 = .ok (.getfield 40, 3) := by decide +kernel
theorem dX8_lay_39 : decode cX8_lay 39 = .ok (.putfield 44, 3) := by decide +kernel
theorem dX8_lay_42 : decode cX8_lay 42 = .ok (.aload_n 0, 1) := by decide +kernel
theorem dX8_lay_43 : decode cX8_lay 43 = .ok (.aload_n 1, 1) := by decide +kernel
theorem dX8_lay_44 : decode cX8_lay 44 = .ok (.putfield 40, 3) := by decide +kernel
theorem dX8_lay_47 : decode cX8_lay 47 = .ok (.aload_n 0, 1) := by decide +kernel
theorem dX8_lay_48 : decode cX8_lay 48 = .ok (.getfield 19, 3) := by decide +kernel
theorem dX8_lay_51 : decode cX8_lay 51 = .ok (.invokevirtual 75, 3) := by decide +kernel
theorem dX8_lay_54 : decode cX8_lay 54 = .ok (.pop, 1) := by decide +kernel
theorem dX8_lay_55 : decode cX8_lay 55 = .ok (.aload_n 0, 1) := by decide +kernel
theorem dX8_lay_56 : decode cX8_lay 56 = .ok (.getfield 40, 3) := by decide +kernel
theorem dX8_lay_59 : decode cX8_lay 59 = .ok (.getfield 76, 3) := by decide +kernel
theorem dX8_lay_62 : decode cX8_lay 62 = .ok (.ireturn, 1) := by decide +kernel
theorem dX8_mode_0 : decode cX8_mode 0 = .ok (.iload_n 1, 1) := by decide +kernel
theorem dX8_mode_1 : decode cX8_mode 1 = .ok (.ifCond .lt 8, 3) := by decide +kernel
theorem dX8_mode_4 : decode cX8_mode 4 = .ok (.iload_n 1, 1) := by decide +kernel
theorem dX8_mode_5 : decode cX8_mode 5 = .ok (.iconst 3, 1) := by decide +kernel
theorem dX8_mode_6 : decode cX8_mode 6 = .ok (.if_icmp .le 5, 3) := by decide +kernel
theorem dX8_mode_9 : decode cX8_mode 9 = .ok (.iconst (-1), 1) := by decide +kernel
theorem dX8_mode_10 : decode cX8_mode 10 = .ok (.ireturn, 1) := by decide +kernel
theorem dX8_mode_11 : decode cX8_mode 11 = .ok (.iload_n 1, 1) := by decide +kernel
theorem dX8_mode_12 : decode cX8_mode 12 = .ok (.aload_n 0, 1) := by decide +kernel
theorem dX8_mode_13 : decode cX8_mode 13 = .ok (.getfield 40, 3) := by decide +kernel
theorem dX8_mode_16 : decode cX8_mode 16 = .ok (.getfield 79, 3) := by decide +kernel
theorem dX8_mode_19 : decode cX8_mode 19 = .ok (.if_icmp .ne 6, 3) := by decide +kernel
theorem dX8_mode_22 : decode cX8_mode 22 = .ok (.bipush (-2), 2) := by decide +kernel
theorem dX8_mode_24 : decode cX8_mode 24 = .ok (.ireturn, 1) := by decide +kernel
theorem dX8_mode_25 : decode cX8_mode 25 = .ok (.aload_n 0, 1) := by decide +kernel
theorem dX8_mode_26 : decode cX8_mode 26 = .ok (.getfield 40, 3) := by decide +kernel
theorem dX8_mode_29 : decode cX8_mode 29 = .ok (.getfield 79, 3) := by decide +kernel
theorem dX8_mode_32 : decode cX8_mode 32 = .ok (.istore_n 2, 1) := by decide +kernel
theorem dX8_mode_33 : decode cX8_mode 33 = .ok (.aload_n 0, 1) := by decide +kernel
theorem dX8_mode_34 : decode cX8_mode 34 = .ok (.getfield 40, 3) := by decide +kernel
theorem dX8_mode_37 : decode cX8_mode 37 = .ok (.iload_n 1, 1) := by decide +kernel
theorem dX8_mode_38 : decode cX8_mode 38 = .ok (.putfield 79, 3) := by decide +kernel
theorem dX8_mode_41 : decode cX8_mode 41 = .ok (.iload_n 2, 1) := by decide +kernel
theorem dX8_mode_42 : decode cX8_mode 42 = .ok (.ireturn, 1) := by decide +kernel
theorem dX8_save_0 : decode cX8_save 0 = .ok (.aload_n 0, 1) := by decide +kernel
theorem dX8_save_1 : decode cX8_save 1 = .ok (.getfield 40, 3) := by decide +kernel
theorem dX8_save_4 : decode cX8_save 4 = .ok (.iload_n 1, 1) := by decide +kernel
theorem dX8_save_5 : decode cX8_save 5 = .ok (.invokevirtual 82, 3) := by decide +kernel
theorem dX8_save_8 : decode cX8_save 8 = .ok (.ireturn, 1) := by decide +kernel
theorem dX8_send_0 : decode cX8_send 0 = .ok (.aload_n 0, 1) := by decide +kernel
theorem dX8_send_1 : decode cX8_send 1 = .ok (.getfield 40, 3) := by decide +kernel
theorem dX8_send_4 : decode cX8_send 4 = .ok (.iload_n 1, 1) := by decide +kernel
theorem dX8_send_5 : decode cX8_send 5 = .ok (.iload_n 2, 1) := by decide +kernel
theorem dX8_send_6 : decode cX8_send 6 = .ok (.invokevirtual 86, 3) := by decide +kernel
theorem dX8_send_9 : decode cX8_send 9 = .ok (.ireturn, 1) := by decide +kernel
theorem dX8_receive_0 : decode cX8_receive 0 = .ok (.aload_n 0, 1) := by decide +kernel
theorem dX8_receive_1 : decode cX8_receive 1 = .ok (.getfield 40, 3) := by decide +kernel
theorem dX8_receive_4 : decode cX8_receive 4 = .ok (.iload_n 1, 1) := by decide +kernel
theorem dX8_receive_5 : decode cX8_receive 5 = .ok (.invokevirtual 90, 3) := by decide +kernel
theorem dX8_receive_8 : decode cX8_receive 8 = .ok (.ireturn, 1) := by decide +kernel
theorem dX8_fail_0 : decode cX8_fail 0 = .ok (.iload_n 1, 1) := by decide +kernel
theorem dX8_fail_1 : decode cX8_fail 1 = .ok (.ifCond .eq 14, 3) := by decide +kernel
theorem dX8_fail_4 : decode cX8_fail 4 = .ok (.aload_n 0, 1) := by decide +kernel
theorem dX8_fail_5 : decode cX8_fail 5 = .ok (.getfield 40, 3) := by decide +kernel
theorem dX8_fail_8 : decode cX8_fail 8 = .ok (.iload_n 1, 1) := by decide +kernel
theorem dX8_fail_9 : decode cX8_fail 9 = .ok (.invokevirtual 93, 3) := by decide +kernel
theorem dX8_fail_12 : decode cX8_fail 12 = .ok (.ifCond .ne 5, 3) := by decide +kernel
theorem dX8_fail_15 : decode cX8_fail 15 = .ok (.iconst (-1), 1) := by decide +kernel
theorem dX8_fail_16 : decode cX8_fail 16 = .ok (.ireturn, 1) := by decide +kernel
theorem dX8_fail_17 : decode cX8_fail 17 = .ok (.aload_n 0, 1) := by decide +kernel
theorem dX8_fail_18 : decode cX8_fail 18 = .ok (.getfield 26, 3) := by decide +kernel
theorem dX8_fail_21 : decode cX8_fail 21 = .ok (.aload_n 0, 1) := by decide +kernel
theorem dX8_fail_22 : decode cX8_fail 22 = .ok (.getfield 40, 3) := by decide +kernel
theorem dX8_fail_25 : decode cX8_fail 25 = .ok (.iload_n 1, 1) := by decide +kernel
theorem dX8_fail_26 : decode cX8_fail 26 = .ok (.invokevirtual 97, 3) := by decide +kernel
theorem dX8_fail_29 : decode cX8_fail 29 = .ok (.aload_n 0, 1) := by decide +kernel
theorem dX8_fail_30 : decode cX8_fail 30 = .ok (.getfield 40, 3) := by decide +kernel
theorem dX8_fail_33 : decode cX8_fail 33 = .ok (.aload_n 0, 1) := by decide +kernel
theorem dX8_fail_34 : decode cX8_fail 34 = .ok (.getfield 26, 3) := by decide +kernel
theorem dX8_fail_37 : decode cX8_fail 37 = .ok (.getfield 101, 3) := by decide +kernel
theorem dX8_fail_40 : decode cX8_fail 40 = .ok (.invokevirtual 105, 3) := by decide +kernel
theorem dX8_fail_43 : decode cX8_fail 43 = .ok (.ireturn, 1) := by decide +kernel
theorem dX8_gather_0 : decode cX8_gather 0 = .ok (.aload_n 0, 1) := by decide +kernel
theorem dX8_gather_1 : decode cX8_gather 1 = .ok (.getfield 26, 3) := by decide +kernel
theorem dX8_gather_4 : decode cX8_gather 4 = .ok (.aload_n 0, 1) := by decide +kernel
theorem dX8_gather_5 : decode cX8_gather 5 = .ok (.getfield 40, 3) := by decide +kernel
theorem dX8_gather_8 : decode cX8_gather 8 = .ok (.aload_n 0, 1) := by decide +kernel
theorem dX8_gather_9 : decode cX8_gather 9 = .ok (.getfield 40, 3) := by decide +kernel
theorem dX8_gather_12 : decode cX8_gather 12 = .ok (.invokevirtual 109, 3) := by decide +kernel
theorem dX8_gather_15 : decode cX8_gather 15 = .ok (.invokevirtual 97, 3) := by decide +kernel
theorem dX8_gather_18 : decode cX8_gather 18 = .ok (.iconst 0, 1) := by decide +kernel
theorem dX8_gather_19 : decode cX8_gather 19 = .ok (.istore_n 1, 1) := by decide +kernel
theorem dX8_gather_20 : decode cX8_gather 20 = .ok (.iconst 0, 1) := by decide +kernel
theorem dX8_gather_21 : decode cX8_gather 21 = .ok (.istore_n 2, 1) := by decide +kernel
theorem dX8_gather_22 : decode cX8_gather 22 = .ok (.iload_n 2, 1) := by decide +kernel
theorem dX8_gather_23 : decode cX8_gather 23 = .ok (.aload_n 0, 1) := by decide +kernel
theorem dX8_gather_24 : decode cX8_gather 24 = .ok (.getfield 40, 3) := by decide +kernel
theorem dX8_gather_27 : decode cX8_gather 27 = .ok (.getfield 76, 3) := by decide +kernel
theorem dX8_gather_30 : decode cX8_gather 30 = .ok (.if_icmp .ge 33, 3) := by decide +kernel
theorem dX8_gather_33 : decode cX8_gather 33 = .ok (.iload_n 1, 1) := by decide +kernel
theorem dX8_gather_34 : decode cX8_gather 34 = .ok (.aload_n 0, 1) := by decide +kernel
theorem dX8_gather_35 : decode cX8_gather 35 = .ok (.getfield 40, 3) := by decide +kernel
theorem dX8_gather_38 : decode cX8_gather 38 = .ok (.getfield 112, 3) := by decide +kernel
theorem dX8_gather_41 : decode cX8_gather 41 = .ok (.iload_n 2, 1) := by decide +kernel
theorem dX8_gather_42 : decode cX8_gather 42 = .ok (.aaload, 1) := by decide +kernel
theorem dX8_gather_43 : decode cX8_gather 43 = .ok (.aload_n 0, 1) := by decide +kernel
theorem dX8_gather_44 : decode cX8_gather 44 = .ok (.getfield 26, 3) := by decide +kernel
theorem dX8_gather_47 : decode cX8_gather 47 = .ok (.getfield 101, 3) := by decide +kernel
theorem dX8_gather_50 : decode cX8_gather 50 = .ok (.iload_n 2, 1) := by decide +kernel
theorem dX8_gather_51 : decode cX8_gather 51 = .ok (.iaload, 1) := by decide +kernel
theorem dX8_gather_52 : decode cX8_gather 52 = .ok (.invokevirtual 116, 3) := by decide +kernel
theorem dX8_gather_55 : decode cX8_gather 55 = .ok (.iadd, 1) := by decide +kernel
theorem dX8_gather_56 : decode cX8_gather 56 = .ok (.istore_n 1, 1) := by decide +kernel
theorem dX8_gather_57 : decode cX8_gather 57 = .ok (.iinc 2 1, 3) := by decide +kernel
theorem dX8_gather_60 : decode cX8_gather 60 = .ok (.goto (-38), 3) := by decide +kernel
theorem dX8_gather_63 : decode cX8_gather 63 = .ok (.iload_n 1, 1) := by decide +kernel
theorem dX8_gather_64 : decode cX8_gather 64 = .ok (.ireturn, 1) := by decide +kernel
theorem dX8_drive_0 : decode cX8_drive 0 = .ok (.iload_n 1, 1) := by decide +kernel
theorem dX8_drive_1 : decode cX8_drive 1 = .ok (.ifCond .lt 21, 3) := by decide +kernel
theorem dX8_drive_4 : decode cX8_drive 4 = .ok (.iload_n 1, 1) := by decide +kernel
theorem dX8_drive_5 : decode cX8_drive 5 = .ok (.sipush 9999, 3) := by decide +kernel
theorem dX8_drive_8 : decode cX8_drive 8 = .ok (.if_icmp .gt 14, 3) := by decide +kernel
theorem dX8_drive_11 : decode cX8_drive 11 = .ok (.iload_n 2, 1) := by decide +kernel
theorem dX8_drive_12 : decode cX8_drive 12 = .ok (.iconst 1, 1) := by decide +kernel
theorem dX8_drive_13 : decode cX8_drive 13 = .ok (.if_icmp .lt 9, 3) := by decide +kernel
theorem dX8_drive_16 : decode cX8_drive 16 = .ok (.iload_n 2, 1) := by decide +kernel
theorem dX8_drive_17 : decode cX8_drive 17 = .ok (.bipush 60, 2) := by decide +kernel
theorem dX8_drive_19 : decode cX8_drive 19 = .ok (.if_icmp .le 5, 3) := by decide +kernel
theorem dX8_drive_22 : decode cX8_drive 22 = .ok (.iconst (-1), 1) := by decide +kernel
theorem dX8_drive_23 : decode cX8_drive 23 = .ok (.ireturn, 1) := by decide +kernel
theorem dX8_drive_24 : decode cX8_drive 24 = .ok (.iconst 0, 1) := by decide +kernel
theorem dX8_drive_25 : decode cX8_drive 25 = .ok (.istore_n 3, 1) := by decide +kernel
theorem dX8_drive_26 : decode cX8_drive 26 = .ok (.iconst 0, 1) := by decide +kernel
theorem dX8_drive_27 : decode cX8_drive 27 = .ok (.istore 4, 2) := by decide +kernel
theorem dX8_drive_29 : decode cX8_drive 29 = .ok (.iload 4, 2) := by decide +kernel
theorem dX8_drive_31 : decode cX8_drive 31 = .ok (.iload_n 2, 1) := by decide +kernel
theorem dX8_drive_32 : decode cX8_drive 32 = .ok (.if_icmp .ge 50, 3) := by decide +kernel
theorem dX8_drive_35 : decode cX8_drive 35 = .ok (.ldc2_w 121, 3) := by decide +kernel
theorem dX8_drive_38 : decode cX8_drive 38 = .ok (.iload_n 1, 1) := by decide +kernel
theorem dX8_drive_39 : decode cX8_drive 39 = .ok (.i2l, 1) := by decide +kernel
theorem dX8_drive_40 : decode cX8_drive 40 = .ok (.lmul, 1) := by decide +kernel
theorem dX8_drive_41 : decode cX8_drive 41 = .ok (.ldc2_w 123, 3) := by decide +kernel
theorem dX8_drive_44 : decode cX8_drive 44 = .ok (.iload 4, 2) := by decide +kernel
theorem dX8_drive_46 : decode cX8_drive 46 = .ok (.i2l, 1) := by decide +kernel
theorem dX8_drive_47 : decode cX8_drive 47 = .ok (.lmul, 1) := by decide +kernel
theorem dX8_drive_48 : decode cX8_drive 48 = .ok (.ladd, 1) := by decide +kernel
theorem dX8_drive_49 : decode cX8_drive 49 = .ok (.lconst 1, 1) := by decide +kernel
theorem dX8_drive_50 : decode cX8_drive 50 = .ok (.ladd, 1) := by decide +kernel
theorem dX8_drive_51 : decode cX8_drive 51 = .ok (.lstore 5, 2) := by decide +kernel
theorem dX8_drive_53 : decode cX8_drive 53 = .ok (.aload_n 0, 1) := by decide +kernel
theorem dX8_drive_54 : decode cX8_drive 54 = .ok (.getfield 40, 3) := by decide +kernel
theorem dX8_drive_57 : decode cX8_drive 57 = .ok (.lload 5, 2) := by decide +kernel
theorem dX8_drive_59 : decode cX8_drive 59 = .ok (.lload 5, 2) := by decide +kernel
theorem dX8_drive_61 : decode cX8_drive 61 = .ok (.lmul, 1) := by decide +kernel
theorem dX8_drive_62 : decode cX8_drive 62 = .ok (.ldc2_w 125, 3) := by decide +kernel
theorem dX8_drive_65 : decode cX8_drive 65 = .ok (.lrem, 1) := by decide +kernel
theorem dX8_drive_66 : decode cX8_drive 66 = .ok (.l2i, 1) := by decide +kernel
theorem dX8_drive_67 : decode cX8_drive 67 = .ok (.invokevirtual 127, 3) := by decide +kernel
theorem dX8_drive_70 : decode cX8_drive 70 = .ok (.ifCond .eq 6, 3) := by decide +kernel
theorem dX8_drive_73 : decode cX8_drive 73 = .ok (.iinc 3 1, 3) := by decide +kernel
theorem dX8_drive_76 : decode cX8_drive 76 = .ok (.iinc 4 1, 3) := by decide +kernel
theorem dX8_drive_79 : decode cX8_drive 79 = .ok (.goto (-50), 3) := by decide +kernel
theorem dX8_drive_82 : decode cX8_drive 82 = .ok (.iload_n 3, 1) := by decide +kernel
theorem dX8_drive_83 : decode cX8_drive 83 = .ok (.ireturn, 1) := by decide +kernel
theorem dX8_process_0 : decode cX8_process 0 = .ok (.aload_n 0, 1) := by decide +kernel
theorem dX8_process_1 : decode cX8_process 1 = .ok (.getfield 40, 3) := by decide +kernel
theorem dX8_process_4 : decode cX8_process 4 = .ok (.iload_n 1, 1) := by decide +kernel
theorem dX8_process_5 : decode cX8_process 5 = .ok (.invokevirtual 130, 3) := by decide +kernel
theorem dX8_process_8 : decode cX8_process 8 = .ok (.ifCond .ne 5, 3) := by decide +kernel
theorem dX8_process_11 : decode cX8_process 11 = .ok (.iconst (-1), 1) := by decide +kernel
theorem dX8_process_12 : decode cX8_process 12 = .ok (.ireturn, 1) := by decide +kernel
theorem dX8_process_13 : decode cX8_process 13 = .ok (.aload_n 0, 1) := by decide +kernel
theorem dX8_process_14 : decode cX8_process 14 = .ok (.getfield 40, 3) := by decide +kernel
theorem dX8_process_17 : decode cX8_process 17 = .ok (.getfield 112, 3) := by decide +kernel
theorem dX8_process_20 : decode cX8_process 20 = .ok (.iload_n 1, 1) := by decide +kernel
theorem dX8_process_21 : decode cX8_process 21 = .ok (.aaload, 1) := by decide +kernel
theorem dX8_process_22 : decode cX8_process 22 = .ok (.astore_n 3, 1) := by decide +kernel
theorem dX8_process_23 : decode cX8_process 23 = .ok (.iload_n 2, 1) := by decide +kernel
theorem dX8_process_24 : decode cX8_process 24 = .ok (.tableswitch 95 0 6 #[44, 49, 54, 59, 64, 70, 86], 44) := by decide +kernel
theorem dX8_process_68 : decode cX8_process 68 = .ok (.aload_n 3, 1) := by decide +kernel
theorem dX8_process_69 : decode cX8_process 69 = .ok (.getfield 133, 3) := by decide +kernel
theorem dX8_process_72 : decode cX8_process 72 = .ok (.ireturn, 1) := by decide +kernel
theorem dX8_process_73 : decode cX8_process 73 = .ok (.aload_n 3, 1) := by decide +kernel
theorem dX8_process_74 : decode cX8_process 74 = .ok (.getfield 136, 3) := by decide +kernel
theorem dX8_process_77 : decode cX8_process 77 = .ok (.ireturn, 1) := by decide +kernel
theorem dX8_process_78 : decode cX8_process 78 = .ok (.aload_n 3, 1) := by decide +kernel
theorem dX8_process_79 : decode cX8_process 79 = .ok (.invokevirtual 139, 3) := by decide +kernel
theorem dX8_process_82 : decode cX8_process 82 = .ok (.ireturn, 1) := by decide +kernel
theorem dX8_process_83 : decode cX8_process 83 = .ok (.aload_n 3, 1) := by decide +kernel
theorem dX8_process_84 : decode cX8_process 84 = .ok (.invokevirtual 142, 3) := by decide +kernel
theorem dX8_process_87 : decode cX8_process 87 = .ok (.ireturn, 1) := by decide +kernel
theorem dX8_process_88 : decode cX8_process 88 = .ok (.aload_n 0, 1) := by decide +kernel
theorem dX8_process_89 : decode cX8_process 89 = .ok (.iload_n 1, 1) := by decide +kernel
theorem dX8_process_90 : decode cX8_process 90 = .ok (.invokevirtual 145, 3) := by decide +kernel
theorem dX8_process_93 : decode cX8_process 93 = .ok (.ireturn, 1) := by decide +kernel
theorem dX8_process_94 : decode cX8_process 94 = .ok (.aload_n 0, 1) := by decide +kernel
theorem dX8_process_95 : decode cX8_process 95 = .ok (.getfield 26, 3) := by decide +kernel
theorem dX8_process_98 : decode cX8_process 98 = .ok (.aload_n 0, 1) := by decide +kernel
theorem dX8_process_99 : decode cX8_process 99 = .ok (.getfield 40, 3) := by decide +kernel
theorem dX8_process_102 : decode cX8_process 102 = .ok (.iload_n 1, 1) := by decide +kernel
theorem dX8_process_103 : decode cX8_process 103 = .ok (.iload_n 1, 1) := by decide +kernel
theorem dX8_process_104 : decode cX8_process 104 = .ok (.iconst 1, 1) := by decide +kernel
theorem dX8_process_105 : decode cX8_process 105 = .ok (.iadd, 1) := by decide +kernel
theorem dX8_process_106 : decode cX8_process 106 = .ok (.invokevirtual 148, 3) := by decide +kernel
theorem dX8_process_109 : decode cX8_process 109 = .ok (.ireturn, 1) := by decide +kernel
theorem dX8_process_110 : decode cX8_process 110 = .ok (.aload_n 0, 1) := by decide +kernel
theorem dX8_process_111 : decode cX8_process 111 = .ok (.getfield 40, 3) := by decide +kernel
theorem dX8_process_114 : decode cX8_process 114 = .ok (.iload_n 1, 1) := by decide +kernel
theorem dX8_process_115 : decode cX8_process 115 = .ok (.invokevirtual 152, 3) := by decide +kernel
theorem dX8_process_118 : decode cX8_process 118 = .ok (.ireturn, 1) := by decide +kernel
theorem dX8_process_119 : decode cX8_process 119 = .ok (.iconst (-1), 1) := by decide +kernel
theorem dX8_process_120 : decode cX8_process 120 = .ok (.ireturn, 1) := by decide +kernel
theorem dX8_knows_0 : decode cX8_knows 0 = .ok (.aload_n 0, 1) := by decide +kernel
theorem dX8_knows_1 : decode cX8_knows 1 = .ok (.getfield 40, 3) := by decide +kernel
theorem dX8_knows_4 : decode cX8_knows 4 = .ok (.iload_n 1, 1) := by decide +kernel
theorem dX8_knows_5 : decode cX8_knows 5 = .ok (.iload_n 2, 1) := by decide +kernel
theorem dX8_knows_6 : decode cX8_knows 6 = .ok (.invokevirtual 155, 3) := by decide +kernel
theorem dX8_knows_9 : decode cX8_knows 9 = .ok (.ifCond .eq 14, 3) := by decide +kernel
theorem dX8_knows_12 : decode cX8_knows 12 = .ok (.aload_n 0, 1) := by decide +kernel
theorem dX8_knows_13 : decode cX8_knows 13 = .ok (.getfield 40, 3) := by decide +kernel
theorem dX8_knows_16 : decode cX8_knows 16 = .ok (.iload_n 3, 1) := by decide +kernel
theorem dX8_knows_17 : decode cX8_knows 17 = .ok (.invokevirtual 130, 3) := by decide +kernel
theorem dX8_knows_20 : decode cX8_knows 20 = .ok (.ifCond .ne 5, 3) := by decide +kernel
theorem dX8_knows_23 : decode cX8_knows 23 = .ok (.iconst (-1), 1) := by decide +kernel
theorem dX8_knows_24 : decode cX8_knows 24 = .ok (.ireturn, 1) := by decide +kernel
theorem dX8_knows_25 : decode cX8_knows 25 = .ok (.aload_n 0, 1) := by decide +kernel
theorem dX8_knows_26 : decode cX8_knows 26 = .ok (.getfield 40, 3) := by decide +kernel
theorem dX8_knows_29 : decode cX8_knows 29 = .ok (.getfield 112, 3) := by decide +kernel
theorem dX8_knows_32 : decode cX8_knows 32 = .ok (.iload_n 1, 1) := by decide +kernel
theorem dX8_knows_33 : decode cX8_knows 33 = .ok (.aaload, 1) := by decide +kernel
theorem dX8_knows_34 : decode cX8_knows 34 = .ok (.iload_n 2, 1) := by decide +kernel
theorem dX8_knows_35 : decode cX8_knows 35 = .ok (.iload_n 3, 1) := by decide +kernel
theorem dX8_knows_36 : decode cX8_knows 36 = .ok (.invokevirtual 159, 3) := by decide +kernel
theorem dX8_knows_39 : decode cX8_knows 39 = .ok (.istore 4, 2) := by decide +kernel
theorem dX8_knows_41 : decode cX8_knows 41 = .ok (.iload 4, 2) := by decide +kernel
theorem dX8_knows_43 : decode cX8_knows 43 = .ok (.iconst (-1), 1) := by decide +kernel
theorem dX8_knows_44 : decode cX8_knows 44 = .ok (.if_icmp .ne 8, 3) := by decide +kernel
theorem dX8_knows_47 : decode cX8_knows 47 = .ok (.bipush (-4), 2) := by decide +kernel
theorem dX8_knows_49 : decode cX8_knows 49 = .ok (.goto 5, 3) := by decide +kernel
theorem dX8_knows_52 : decode cX8_knows 52 = .ok (.iload 4, 2) := by decide +kernel
theorem dX8_knows_54 : decode cX8_knows 54 = .ok (.ireturn, 1) := by decide +kernel
theorem dX8_saved_0 : decode cX8_saved 0 = .ok (.aload_n 0, 1) := by decide +kernel
theorem dX8_saved_1 : decode cX8_saved 1 = .ok (.getfield 40, 3) := by decide +kernel
theorem dX8_saved_4 : decode cX8_saved 4 = .ok (.iload_n 1, 1) := by decide +kernel
theorem dX8_saved_5 : decode cX8_saved 5 = .ok (.iload_n 2, 1) := by decide +kernel
theorem dX8_saved_6 : decode cX8_saved 6 = .ok (.invokevirtual 155, 3) := by decide +kernel
theorem dX8_saved_9 : decode cX8_saved 9 = .ok (.ifCond .eq 19, 3) := by decide +kernel
theorem dX8_saved_12 : decode cX8_saved 12 = .ok (.iload_n 2, 1) := by decide +kernel
theorem dX8_saved_13 : decode cX8_saved 13 = .ok (.aload_n 0, 1) := by decide +kernel
theorem dX8_saved_14 : decode cX8_saved 14 = .ok (.getfield 40, 3) := by decide +kernel
theorem dX8_saved_17 : decode cX8_saved 17 = .ok (.getfield 112, 3) := by decide +kernel
theorem dX8_saved_20 : decode cX8_saved 20 = .ok (.iload_n 1, 1) := by decide +kernel
theorem dX8_saved_21 : decode cX8_saved 21 = .ok (.aaload, 1) := by decide +kernel
theorem dX8_saved_22 : decode cX8_saved 22 = .ok (.getfield 133, 3) := by decide +kernel
theorem dX8_saved_25 : decode cX8_saved 25 = .ok (.if_icmp .ne 5, 3) := by decide +kernel
theorem dX8_saved_28 : decode cX8_saved 28 = .ok (.iconst (-1), 1) := by decide +kernel
theorem dX8_saved_29 : decode cX8_saved 29 = .ok (.ireturn, 1) := by decide +kernel
theorem dX8_saved_30 : decode cX8_saved 30 = .ok (.aload_n 0, 1) := by decide +kernel
theorem dX8_saved_31 : decode cX8_saved 31 = .ok (.getfield 40, 3) := by decide +kernel
theorem dX8_saved_34 : decode cX8_saved 34 = .ok (.getfield 112, 3) := by decide +kernel
theorem dX8_saved_37 : decode cX8_saved 37 = .ok (.iload_n 1, 1) := by decide +kernel
theorem dX8_saved_38 : decode cX8_saved 38 = .ok (.aaload, 1) := by decide +kernel
theorem dX8_saved_39 : decode cX8_saved 39 = .ok (.astore 4, 2) := by decide +kernel
theorem dX8_saved_41 : decode cX8_saved 41 = .ok (.iload_n 3, 1) := by decide +kernel
theorem dX8_saved_42 : decode cX8_saved 42 = .ok (.tableswitch 91 0 4 #[34, 42, 53, 64, 74], 34) := by decide +kernel
theorem dX8_saved_76 : decode cX8_saved 76 = .ok (.aload 4, 2) := by decide +kernel
theorem dX8_saved_78 : decode cX8_saved 78 = .ok (.getfield 162, 3) := by decide +kernel
theorem dX8_saved_81 : decode cX8_saved 81 = .ok (.iload_n 2, 1) := by decide +kernel
theorem dX8_saved_82 : decode cX8_saved 82 = .ok (.iaload, 1) := by decide +kernel
theorem dX8_saved_83 : decode cX8_saved 83 = .ok (.ireturn, 1) := by decide +kernel
theorem dX8_saved_84 : decode cX8_saved 84 = .ok (.aload 4, 2) := by decide +kernel
theorem dX8_saved_86 : decode cX8_saved 86 = .ok (.getfield 165, 3) := by decide +kernel
theorem dX8_saved_89 : decode cX8_saved 89 = .ok (.iload_n 2, 1) := by decide +kernel
theorem dX8_saved_90 : decode cX8_saved 90 = .ok (.baload, 1) := by decide +kernel
theorem dX8_saved_91 : decode cX8_saved 91 = .ok (.invokestatic 169, 3) := by decide +kernel
theorem dX8_saved_94 : decode cX8_saved 94 = .ok (.ireturn, 1) := by decide +kernel
theorem dX8_saved_95 : decode cX8_saved 95 = .ok (.aload 4, 2) := by decide +kernel
theorem dX8_saved_97 : decode cX8_saved 97 = .ok (.getfield 173, 3) := by decide +kernel
theorem dX8_saved_100 : decode cX8_saved 100 = .ok (.iload_n 2, 1) := by decide +kernel
theorem dX8_saved_101 : decode cX8_saved 101 = .ok (.baload, 1) := by decide +kernel
theorem dX8_saved_102 : decode cX8_saved 102 = .ok (.invokestatic 169, 3) := by decide +kernel
theorem dX8_saved_105 : decode cX8_saved 105 = .ok (.ireturn, 1) := by decide +kernel
theorem dX8_saved_106 : decode cX8_saved 106 = .ok (.aload_n 0, 1) := by decide +kernel
theorem dX8_saved_107 : decode cX8_saved 107 = .ok (.iload_n 1, 1) := by decide +kernel
theorem dX8_saved_108 : decode cX8_saved 108 = .ok (.iload_n 2, 1) := by decide +kernel
theorem dX8_saved_109 : decode cX8_saved 109 = .ok (.invokevirtual 176, 3) := by decide +kernel
theorem dX8_saved_112 : decode cX8_saved 112 = .ok (.invokestatic 169, 3) := by decide +kernel
theorem dX8_saved_115 : decode cX8_saved 115 = .ok (.ireturn, 1) := by decide +kernel
theorem dX8_saved_116 : decode cX8_saved 116 = .ok (.aload_n 0, 1) := by decide +kernel
theorem dX8_saved_117 : decode cX8_saved 117 = .ok (.getfield 26, 3) := by decide +kernel
theorem dX8_saved_120 : decode cX8_saved 120 = .ok (.aload_n 0, 1) := by decide +kernel
theorem dX8_saved_121 : decode cX8_saved 121 = .ok (.getfield 40, 3) := by decide +kernel
theorem dX8_saved_124 : decode cX8_saved 124 = .ok (.iload_n 1, 1) := by decide +kernel
theorem dX8_saved_125 : decode cX8_saved 125 = .ok (.iload_n 2, 1) := by decide +kernel
theorem dX8_saved_126 : decode cX8_saved 126 = .ok (.invokevirtual 179, 3) := by decide +kernel
theorem dX8_saved_129 : decode cX8_saved 129 = .ok (.invokestatic 169, 3) := by decide +kernel
theorem dX8_saved_132 : decode cX8_saved 132 = .ok (.ireturn, 1) := by decide +kernel
theorem dX8_saved_133 : decode cX8_saved 133 = .ok (.iconst (-1), 1) := by decide +kernel
theorem dX8_saved_134 : decode cX8_saved 134 = .ok (.ireturn, 1) := by decide +kernel
theorem dX8_message_0 : decode cX8_message 0 = .ok (.aload_n 0, 1) := by decide +kernel
theorem dX8_message_1 : decode cX8_message 1 = .ok (.getfield 40, 3) := by decide +kernel
theorem dX8_message_4 : decode cX8_message 4 = .ok (.iload_n 1, 1) := by decide +kernel
theorem dX8_message_5 : decode cX8_message 5 = .ok (.invokevirtual 183, 3) := by decide +kernel
theorem dX8_message_8 : decode cX8_message 8 = .ok (.ifCond .ne 5, 3) := by decide +kernel
theorem dX8_message_11 : decode cX8_message 11 = .ok (.iconst (-1), 1) := by decide +kernel
theorem dX8_message_12 : decode cX8_message 12 = .ok (.ireturn, 1) := by decide +kernel
theorem dX8_message_13 : decode cX8_message 13 = .ok (.aload_n 0, 1) := by decide +kernel
theorem dX8_message_14 : decode cX8_message 14 = .ok (.getfield 40, 3) := by decide +kernel
theorem dX8_message_17 : decode cX8_message 17 = .ok (.getfield 186, 3) := by decide +kernel
theorem dX8_message_20 : decode cX8_message 20 = .ok (.iload_n 1, 1) := by decide +kernel
theorem dX8_message_21 : decode cX8_message 21 = .ok (.aaload, 1) := by decide +kernel
theorem dX8_message_22 : decode cX8_message 22 = .ok (.astore_n 3, 1) := by decide +kernel
theorem dX8_message_23 : decode cX8_message 23 = .ok (.iload_n 2, 1) := by decide +kernel
theorem dX8_message_24 : decode cX8_message 24 = .ok (.tableswitch 83 0 5 #[40, 45, 50, 55, 73, 78], 40) := by decide +kernel
theorem dX8_message_64 : decode cX8_message 64 = .ok (.aload_n 3, 1) := by decide +kernel
theorem dX8_message_65 : decode cX8_message 65 = .ok (.getfield 190, 3) := by decide +kernel
theorem dX8_message_68 : decode cX8_message 68 = .ok (.ireturn, 1) := by decide +kernel
theorem dX8_message_69 : decode cX8_message 69 = .ok (.aload_n 3, 1) := by decide +kernel
theorem dX8_message_70 : decode cX8_message 70 = .ok (.getfield 195, 3) := by decide +kernel
theorem dX8_message_73 : decode cX8_message 73 = .ok (.ireturn, 1) := by decide +kernel
theorem dX8_message_74 : decode cX8_message 74 = .ok (.aload_n 3, 1) := by decide +kernel
theorem dX8_message_75 : decode cX8_message 75 = .ok (.getfield 198, 3) := by decide +kernel
theorem dX8_message_78 : decode cX8_message 78 = .ok (.ireturn, 1) := by decide +kernel
theorem dX8_message_79 : decode cX8_message 79 = .ok (.aload_n 3, 1) := by decide +kernel
theorem dX8_message_80 : decode cX8_message 80 = .ok (.getfield 201, 3) := by decide +kernel
theorem dX8_message_83 : decode cX8_message 83 = .ok (.iconst 1, 1) := by decide +kernel
theorem dX8_message_84 : decode cX8_message 84 = .ok (.if_icmp .ne 10, 3) := by decide +kernel
theorem dX8_message_87 : decode cX8_message 87 = .ok (.aload_n 3, 1) := by decide +kernel
theorem dX8_message_88 : decode cX8_message 88 = .ok (.getfield 204, 3) := by decide +kernel
theorem dX8_message_91 : decode cX8_message 91 = .ok (.goto 5, 3) := by decide +kernel
theorem dX8_message_94 : decode cX8_message 94 = .ok (.bipush (-4), 2) := by decide +kernel
theorem dX8_message_96 : decode cX8_message 96 = .ok (.ireturn, 1) := by decide +kernel
theorem dX8_message_97 : decode cX8_message 97 = .ok (.aload_n 3, 1) := by decide +kernel
theorem dX8_message_98 : decode cX8_message 98 = .ok (.getfield 207, 3) := by decide +kernel
theorem dX8_message_101 : decode cX8_message 101 = .ok (.ireturn, 1) := by decide +kernel
theorem dX8_message_102 : decode cX8_message 102 = .ok (.aload_n 3, 1) := by decide +kernel
theorem dX8_message_103 : decode cX8_message 103 = .ok (.getfield 201, 3) := by decide +kernel
theorem dX8_message_106 : decode cX8_message 106 = .ok (.ireturn, 1) := by decide +kernel
theorem dX8_message_107 : decode cX8_message 107 = .ok (.iconst (-1), 1) := by decide +kernel
theorem dX8_message_108 : decode cX8_message 108 = .ok (.ireturn, 1) := by decide +kernel
theorem dX8_underway_0 : decode cX8_underway 0 = .ok (.iload_n 1, 1) := by decide +kernel
theorem dX8_underway_1 : decode cX8_underway 1 = .ok (.iconst (-1), 1) := by decide +kernel
theorem dX8_underway_2 : decode cX8_underway 2 = .ok (.if_icmp .ge 5, 3) := by decide +kernel
theorem dX8_underway_5 : decode cX8_underway 5 = .ok (.iconst (-1), 1) := by decide +kernel
theorem dX8_underway_6 : decode cX8_underway 6 = .ok (.ireturn, 1) := by decide +kernel
theorem dX8_underway_7 : decode cX8_underway 7 = .ok (.iload_n 1, 1) := by decide +kernel
theorem dX8_underway_8 : decode cX8_underway 8 = .ok (.iconst (-1), 1) := by decide +kernel
theorem dX8_underway_9 : decode cX8_underway 9 = .ok (.if_icmp .ne 11, 3) := by decide +kernel
theorem dX8_underway_12 : decode cX8_underway 12 = .ok (.aload_n 0, 1) := by decide +kernel
theorem dX8_underway_13 : decode cX8_underway 13 = .ok (.getfield 40, 3) := by decide +kernel
theorem dX8_underway_16 : decode cX8_underway 16 = .ok (.getfield 208, 3) := by decide +kernel
theorem dX8_underway_19 : decode cX8_underway 19 = .ok (.ireturn, 1) := by decide +kernel
theorem dX8_underway_20 : decode cX8_underway 20 = .ok (.iload_n 1, 1) := by decide +kernel
theorem dX8_underway_21 : decode cX8_underway 21 = .ok (.aload_n 0, 1) := by decide +kernel
theorem dX8_underway_22 : decode cX8_underway 22 = .ok (.getfield 40, 3) := by decide +kernel
theorem dX8_underway_25 : decode cX8_underway 25 = .ok (.getfield 208, 3) := by decide +kernel
theorem dX8_underway_28 : decode cX8_underway 28 = .ok (.if_icmp .ge 15, 3) := by decide +kernel
theorem dX8_underway_31 : decode cX8_underway 31 = .ok (.aload_n 0, 1) := by decide +kernel
theorem dX8_underway_32 : decode cX8_underway 32 = .ok (.getfield 40, 3) := by decide +kernel
theorem dX8_underway_35 : decode cX8_underway 35 = .ok (.getfield 211, 3) := by decide +kernel
theorem dX8_underway_38 : decode cX8_underway 38 = .ok (.iload_n 1, 1) := by decide +kernel
theorem dX8_underway_39 : decode cX8_underway 39 = .ok (.iaload, 1) := by decide +kernel
theorem dX8_underway_40 : decode cX8_underway 40 = .ok (.goto 5, 3) := by decide +kernel
theorem dX8_underway_43 : decode cX8_underway 43 = .ok (.bipush (-4), 2) := by decide +kernel
theorem dX8_underway_45 : decode cX8_underway 45 = .ok (.ireturn, 1) := by decide +kernel
theorem dX8_way_0 : decode cX8_way 0 = .ok (.aload_n 0, 1) := by decide +kernel
theorem dX8_way_1 : decode cX8_way 1 = .ok (.getfield 40, 3) := by decide +kernel
theorem dX8_way_4 : decode cX8_way 4 = .ok (.iload_n 1, 1) := by decide +kernel
theorem dX8_way_5 : decode cX8_way 5 = .ok (.iload_n 2, 1) := by decide +kernel
theorem dX8_way_6 : decode cX8_way 6 = .ok (.invokevirtual 155, 3) := by decide +kernel
theorem dX8_way_9 : decode cX8_way 9 = .ok (.ifCond .eq 16, 3) := by decide +kernel
theorem dX8_way_12 : decode cX8_way 12 = .ok (.aload_n 0, 1) := by decide +kernel
theorem dX8_way_13 : decode cX8_way 13 = .ok (.getfield 40, 3) := by decide +kernel
theorem dX8_way_16 : decode cX8_way 16 = .ok (.iload_n 3, 1) := by decide +kernel
theorem dX8_way_17 : decode cX8_way 17 = .ok (.iload 4, 2) := by decide +kernel
theorem dX8_way_19 : decode cX8_way 19 = .ok (.invokevirtual 155, 3) := by decide +kernel
theorem dX8_way_22 : decode cX8_way 22 = .ok (.ifCond .ne 5, 3) := by decide +kernel
theorem dX8_way_25 : decode cX8_way 25 = .ok (.iconst (-1), 1) := by decide +kernel
theorem dX8_way_26 : decode cX8_way 26 = .ok (.ireturn, 1) := by decide +kernel
theorem dX8_way_27 : decode cX8_way 27 = .ok (.aload_n 0, 1) := by decide +kernel
theorem dX8_way_28 : decode cX8_way 28 = .ok (.getfield 33, 3) := by decide +kernel
theorem dX8_way_31 : decode cX8_way 31 = .ok (.aload_n 0, 1) := by decide +kernel
theorem dX8_way_32 : decode cX8_way 32 = .ok (.getfield 40, 3) := by decide +kernel
theorem dX8_way_35 : decode cX8_way 35 = .ok (.iload_n 1, 1) := by decide +kernel
theorem dX8_way_36 : decode cX8_way 36 = .ok (.iload_n 2, 1) := by decide +kernel
theorem dX8_way_37 : decode cX8_way 37 = .ok (.iload_n 3, 1) := by decide +kernel
theorem dX8_way_38 : decode cX8_way 38 = .ok (.iload 4, 2) := by decide +kernel
theorem dX8_way_40 : decode cX8_way 40 = .ok (.iconst 0, 1) := by decide +kernel
theorem dX8_way_41 : decode cX8_way 41 = .ok (.invokevirtual 214, 3) := by decide +kernel
theorem dX8_way_44 : decode cX8_way 44 = .ok (.ireturn, 1) := by decide +kernel
theorem dX8_cause_0 : decode cX8_cause 0 = .ok (.aload_n 0, 1) := by decide +kernel
theorem dX8_cause_1 : decode cX8_cause 1 = .ok (.getfield 40, 3) := by decide +kernel
theorem dX8_cause_4 : decode cX8_cause 4 = .ok (.iload_n 1, 1) := by decide +kernel
theorem dX8_cause_5 : decode cX8_cause 5 = .ok (.iload_n 2, 1) := by decide +kernel
theorem dX8_cause_6 : decode cX8_cause 6 = .ok (.invokevirtual 155, 3) := by decide +kernel
theorem dX8_cause_9 : decode cX8_cause 9 = .ok (.ifCond .eq 16, 3) := by decide +kernel
theorem dX8_cause_12 : decode cX8_cause 12 = .ok (.aload_n 0, 1) := by decide +kernel
theorem dX8_cause_13 : decode cX8_cause 13 = .ok (.getfield 40, 3) := by decide +kernel
theorem dX8_cause_16 : decode cX8_cause 16 = .ok (.iload_n 3, 1) := by decide +kernel
theorem dX8_cause_17 : decode cX8_cause 17 = .ok (.iload 4, 2) := by decide +kernel
theorem dX8_cause_19 : decode cX8_cause 19 = .ok (.invokevirtual 155, 3) := by decide +kernel
theorem dX8_cause_22 : decode cX8_cause 22 = .ok (.ifCond .ne 5, 3) := by decide +kernel
theorem dX8_cause_25 : decode cX8_cause 25 = .ok (.iconst (-1), 1) := by decide +kernel
theorem dX8_cause_26 : decode cX8_cause 26 = .ok (.ireturn, 1) := by decide +kernel
theorem dX8_cause_27 : decode cX8_cause 27 = .ok (.aload_n 0, 1) := by decide +kernel
theorem dX8_cause_28 : decode cX8_cause 28 = .ok (.getfield 33, 3) := by decide +kernel
theorem dX8_cause_31 : decode cX8_cause 31 = .ok (.aload_n 0, 1) := by decide +kernel
theorem dX8_cause_32 : decode cX8_cause 32 = .ok (.getfield 40, 3) := by decide +kernel
theorem dX8_cause_35 : decode cX8_cause 35 = .ok (.iload_n 1, 1) := by decide +kernel
theorem dX8_cause_36 : decode cX8_cause 36 = .ok (.iload_n 2, 1) := by decide +kernel
theorem dX8_cause_37 : decode cX8_cause 37 = .ok (.iload_n 3, 1) := by decide +kernel
theorem dX8_cause_38 : decode cX8_cause 38 = .ok (.iload 4, 2) := by decide +kernel
theorem dX8_cause_40 : decode cX8_cause 40 = .ok (.iconst 1, 1) := by decide +kernel
theorem dX8_cause_41 : decode cX8_cause 41 = .ok (.invokevirtual 214, 3) := by decide +kernel
theorem dX8_cause_44 : decode cX8_cause 44 = .ok (.ireturn, 1) := by decide +kernel
theorem dX8_line_0 : decode cX8_line 0 = .ok (.aload_n 0, 1) := by decide +kernel
theorem dX8_line_1 : decode cX8_line 1 = .ok (.getfield 40, 3) := by decide +kernel
theorem dX8_line_4 : decode cX8_line 4 = .ok (.iload_n 1, 1) := by decide +kernel
theorem dX8_line_5 : decode cX8_line 5 = .ok (.invokevirtual 93, 3) := by decide +kernel
theorem dX8_line_8 : decode cX8_line 8 = .ok (.ifCond .eq 14, 3) := by decide +kernel
theorem dX8_line_11 : decode cX8_line 11 = .ok (.aload_n 0, 1) := by decide +kernel
theorem dX8_line_12 : decode cX8_line 12 = .ok (.getfield 40, 3) := by decide +kernel
theorem dX8_line_15 : decode cX8_line 15 = .ok (.iload_n 2, 1) := by decide +kernel
theorem dX8_line_16 : decode cX8_line 16 = .ok (.invokevirtual 130, 3) := by decide +kernel
theorem dX8_line_19 : decode cX8_line 19 = .ok (.ifCond .ne 5, 3) := by decide +kernel
theorem dX8_line_22 : decode cX8_line 22 = .ok (.iconst (-1), 1) := by decide +kernel
theorem dX8_line_23 : decode cX8_line 23 = .ok (.ireturn, 1) := by decide +kernel
theorem dX8_line_24 : decode cX8_line 24 = .ok (.aload_n 0, 1) := by decide +kernel
theorem dX8_line_25 : decode cX8_line 25 = .ok (.getfield 26, 3) := by decide +kernel
theorem dX8_line_28 : decode cX8_line 28 = .ok (.aload_n 0, 1) := by decide +kernel
theorem dX8_line_29 : decode cX8_line 29 = .ok (.getfield 40, 3) := by decide +kernel
theorem dX8_line_32 : decode cX8_line 32 = .ok (.iload_n 1, 1) := by decide +kernel
theorem dX8_line_33 : decode cX8_line 33 = .ok (.invokevirtual 97, 3) := by decide +kernel
theorem dX8_line_36 : decode cX8_line 36 = .ok (.aload_n 0, 1) := by decide +kernel
theorem dX8_line_37 : decode cX8_line 37 = .ok (.getfield 26, 3) := by decide +kernel
theorem dX8_line_40 : decode cX8_line 40 = .ok (.getfield 101, 3) := by decide +kernel
theorem dX8_line_43 : decode cX8_line 43 = .ok (.iload_n 2, 1) := by decide +kernel
theorem dX8_line_44 : decode cX8_line 44 = .ok (.iaload, 1) := by decide +kernel
theorem dX8_line_45 : decode cX8_line 45 = .ok (.ireturn, 1) := by decide +kernel
theorem dX8_back_0 : decode cX8_back 0 = .ok (.aload_n 0, 1) := by decide +kernel
theorem dX8_back_1 : decode cX8_back 1 = .ok (.getfield 40, 3) := by decide +kernel
theorem dX8_back_4 : decode cX8_back 4 = .ok (.iload_n 1, 1) := by decide +kernel
theorem dX8_back_5 : decode cX8_back 5 = .ok (.invokevirtual 93, 3) := by decide +kernel
theorem dX8_back_8 : decode cX8_back 8 = .ok (.ifCond .ne 5, 3) := by decide +kernel
theorem dX8_back_11 : decode cX8_back 11 = .ok (.iconst (-1), 1) := by decide +kernel
theorem dX8_back_12 : decode cX8_back 12 = .ok (.ireturn, 1) := by decide +kernel
theorem dX8_back_13 : decode cX8_back 13 = .ok (.aload_n 0, 1) := by decide +kernel
theorem dX8_back_14 : decode cX8_back 14 = .ok (.getfield 26, 3) := by decide +kernel
theorem dX8_back_17 : decode cX8_back 17 = .ok (.aload_n 0, 1) := by decide +kernel
theorem dX8_back_18 : decode cX8_back 18 = .ok (.getfield 40, 3) := by decide +kernel
theorem dX8_back_21 : decode cX8_back 21 = .ok (.iload_n 1, 1) := by decide +kernel
theorem dX8_back_22 : decode cX8_back 22 = .ok (.invokevirtual 97, 3) := by decide +kernel
theorem dX8_back_25 : decode cX8_back 25 = .ok (.iload_n 2, 1) := by decide +kernel
theorem dX8_back_26 : decode cX8_back 26 = .ok (.tableswitch 105 0 4 #[34, 42, 57, 72, 87], 34) := by decide +kernel
theorem dX8_back_60 : decode cX8_back 60 = .ok (.aload_n 0, 1) := by decide +kernel
theorem dX8_back_61 : decode cX8_back 61 = .ok (.getfield 26, 3) := by decide +kernel
theorem dX8_back_64 : decode cX8_back 64 = .ok (.getfield 218, 3) := by decide +kernel
theorem dX8_back_67 : decode cX8_back 67 = .ok (.ireturn, 1) := by decide +kernel
theorem dX8_back_68 : decode cX8_back 68 = .ok (.aload_n 0, 1) := by decide +kernel
theorem dX8_back_69 : decode cX8_back 69 = .ok (.getfield 40, 3) := by decide +kernel
theorem dX8_back_72 : decode cX8_back 72 = .ok (.aload_n 0, 1) := by decide +kernel
theorem dX8_back_73 : decode cX8_back 73 = .ok (.getfield 26, 3) := by decide +kernel
theorem dX8_back_76 : decode cX8_back 76 = .ok (.getfield 101, 3) := by decide +kernel
theorem dX8_back_79 : decode cX8_back 79 = .ok (.invokevirtual 221, 3) := by decide +kernel
theorem dX8_back_82 : decode cX8_back 82 = .ok (.ireturn, 1) := by decide +kernel
theorem dX8_back_83 : decode cX8_back 83 = .ok (.aload_n 0, 1) := by decide +kernel
theorem dX8_back_84 : decode cX8_back 84 = .ok (.getfield 40, 3) := by decide +kernel
theorem dX8_back_87 : decode cX8_back 87 = .ok (.aload_n 0, 1) := by decide +kernel
theorem dX8_back_88 : decode cX8_back 88 = .ok (.getfield 26, 3) := by decide +kernel
theorem dX8_back_91 : decode cX8_back 91 = .ok (.getfield 101, 3) := by decide +kernel
theorem dX8_back_94 : decode cX8_back 94 = .ok (.invokevirtual 224, 3) := by decide +kernel
theorem dX8_back_97 : decode cX8_back 97 = .ok (.ireturn, 1) := by decide +kernel
theorem dX8_back_98 : decode cX8_back 98 = .ok (.aload_n 0, 1) := by decide +kernel
theorem dX8_back_99 : decode cX8_back 99 = .ok (.getfield 40, 3) := by decide +kernel
theorem dX8_back_102 : decode cX8_back 102 = .ok (.aload_n 0, 1) := by decide +kernel
theorem dX8_back_103 : decode cX8_back 103 = .ok (.getfield 26, 3) := by decide +kernel
theorem dX8_back_106 : decode cX8_back 106 = .ok (.getfield 101, 3) := by decide +kernel
theorem dX8_back_109 : decode cX8_back 109 = .ok (.invokevirtual 227, 3) := by decide +kernel
theorem dX8_back_112 : decode cX8_back 112 = .ok (.ireturn, 1) := by decide +kernel
theorem dX8_back_113 : decode cX8_back 113 = .ok (.aload_n 0, 1) := by decide +kernel
theorem dX8_back_114 : decode cX8_back 114 = .ok (.getfield 40, 3) := by decide +kernel
theorem dX8_back_117 : decode cX8_back 117 = .ok (.aload_n 0, 1) := by decide +kernel
theorem dX8_back_118 : decode cX8_back 118 = .ok (.getfield 26, 3) := by decide +kernel
theorem dX8_back_121 : decode cX8_back 121 = .ok (.getfield 101, 3) := by decide +kernel
theorem dX8_back_124 : decode cX8_back 124 = .ok (.invokevirtual 230, 3) := by decide +kernel
theorem dX8_back_127 : decode cX8_back 127 = .ok (.invokestatic 169, 3) := by decide +kernel
theorem dX8_back_130 : decode cX8_back 130 = .ok (.ireturn, 1) := by decide +kernel
theorem dX8_back_131 : decode cX8_back 131 = .ok (.iconst (-1), 1) := by decide +kernel
theorem dX8_back_132 : decode cX8_back 132 = .ok (.ireturn, 1) := by decide +kernel
theorem dX8_pick_0 : decode cX8_pick 0 = .ok (.aload_n 0, 1) := by decide +kernel
theorem dX8_pick_1 : decode cX8_pick 1 = .ok (.getfield 40, 3) := by decide +kernel
theorem dX8_pick_4 : decode cX8_pick 4 = .ok (.iload_n 1, 1) := by decide +kernel
theorem dX8_pick_5 : decode cX8_pick 5 = .ok (.iload_n 2, 1) := by decide +kernel
theorem dX8_pick_6 : decode cX8_pick 6 = .ok (.invokevirtual 155, 3) := by decide +kernel
theorem dX8_pick_9 : decode cX8_pick 9 = .ok (.ifCond .ne 5, 3) := by decide +kernel
theorem dX8_pick_12 : decode cX8_pick 12 = .ok (.iconst (-1), 1) := by decide +kernel
theorem dX8_pick_13 : decode cX8_pick 13 = .ok (.ireturn, 1) := by decide +kernel
theorem dX8_pick_14 : decode cX8_pick 14 = .ok (.aload_n 0, 1) := by decide +kernel
theorem dX8_pick_15 : decode cX8_pick 15 = .ok (.getfield 19, 3) := by decide +kernel
theorem dX8_pick_18 : decode cX8_pick 18 = .ok (.getfield 234, 3) := by decide +kernel
theorem dX8_pick_21 : decode cX8_pick 21 = .ok (.iload_n 1, 1) := by decide +kernel
