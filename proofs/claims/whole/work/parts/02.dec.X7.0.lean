theorem dX7_init_0 : decode cX7_init 0 = .ok (.aload_n 0, 1) := by decide +kernel
theorem dX7_init_1 : decode cX7_init 1 = .ok (.invokespecial 3, 3) := by decide +kernel
theorem dX7_init_4 : decode cX7_init 4 = .ok (.aload_n 0, 1) := by decide +kernel
theorem dX7_init_5 : decode cX7_init 5 = .ok (.iconst 5, 1) := by decide +kernel
theorem dX7_init_6 : decode cX7_init 6 = .ok (.anewarray 9, 3) := by decide +kernel
theorem dX7_init_9 : decode cX7_init 9 = .ok (.putfield 11, 3) := by decide +kernel
theorem dX7_init_12 : decode cX7_init 12 = .ok (.aload_n 0, 1) := by decide +kernel
theorem dX7_init_13 : decode cX7_init 13 = .ok (.bipush 60, 2) := by decide +kernel
theorem dX7_init_15 : decode cX7_init 15 = .ok (.anewarray 17, 3) := by decide +kernel
theorem dX7_init_18 : decode cX7_init 18 = .ok (.putfield 19, 3) := by decide +kernel
theorem dX7_init_21 : decode cX7_init 21 = .ok (.aload_n 0, 1) := by decide +kernel
theorem dX7_init_22 : decode cX7_init 22 = .ok (.bipush 60, 2) := by decide +kernel
theorem dX7_init_24 : decode cX7_init 24 = .ok (.newarray .int, 2) := by decide +kernel
theorem dX7_init_26 : decode cX7_init 26 = .ok (.putfield 23, 3) := by decide +kernel
theorem dX7_init_29 : decode cX7_init 29 = .ok (.iconst 0, 1) := by decide +kernel
theorem dX7_init_30 : decode cX7_init 30 = .ok (.istore_n 1, 1) := by decide +kernel
theorem dX7_init_31 : decode cX7_init 31 = .ok (.iload_n 1, 1) := by decide +kernel
theorem dX7_init_32 : decode cX7_init 32 = .ok (.iconst 5, 1) := by decide +kernel
theorem dX7_init_33 : decode cX7_init 33 = .ok (.if_icmp .ge 22, 3) := by decide +kernel
theorem dX7_init_36 : decode cX7_init 36 = .ok (.aload_n 0, 1) := by decide +kernel
theorem dX7_init_37 : decode cX7_init 37 = .ok (.getfield 11, 3) := by decide +kernel
theorem dX7_init_40 : decode cX7_init 40 = .ok (.iload_n 1, 1) := by decide +kernel
theorem dX7_init_41 : decode cX7_init 41 = .ok (.new 9, 3) := by decide +kernel
theorem dX7_init_44 : decode cX7_init 44 = .ok (.dup, 1) := by decide +kernel
theorem dX7_init_45 : decode cX7_init 45 = .ok (.invokespecial 27, 3) := by decide +kernel
theorem dX7_init_48 : decode cX7_init 48 = .ok (.aastore, 1) := by decide +kernel
theorem dX7_init_49 : decode cX7_init 49 = .ok (.iinc 1 1, 3) := by decide +kernel
theorem dX7_init_52 : decode cX7_init 52 = .ok (.goto (-21), 3) := by decide +kernel
theorem dX7_init_55 : decode cX7_init 55 = .ok (.iconst 0, 1) := by decide +kernel
theorem dX7_init_56 : decode cX7_init 56 = .ok (.istore_n 1, 1) := by decide +kernel
theorem dX7_init_57 : decode cX7_init 57 = .ok (.iload_n 1, 1) := by decide +kernel
theorem dX7_init_58 : decode cX7_init 58 = .ok (.bipush 60, 2) := by decide +kernel
theorem dX7_init_60 : decode cX7_init 60 = .ok (.if_icmp .ge 22, 3) := by decide +kernel
theorem dX7_init_63 : decode cX7_init 63 = .ok (.aload_n 0, 1) := by decide +kernel
theorem dX7_init_64 : decode cX7_init 64 = .ok (.getfield 19, 3) := by decide +kernel
theorem dX7_init_67 : decode cX7_init 67 = .ok (.iload_n 1, 1) := by decide +kernel
theorem dX7_init_68 : decode cX7_init 68 = .ok (.new 17, 3) := by decide +kernel
theorem dX7_init_71 : decode cX7_init 71 = .ok (.dup, 1) := by decide +kernel
theorem dX7_init_72 : decode cX7_init 72 = .ok (.invokespecial 28, 3) := by decide +kernel
theorem dX7_init_75 : decode cX7_init 75 = .ok (.aastore, 1) := by decide +kernel
theorem dX7_init_76 : decode cX7_init 76 = .ok (.iinc 1 1, 3) := by decide +kernel
theorem dX7_init_79 : decode cX7_init 79 = .ok (.goto (-22), 3) := by decide +kernel
theorem dX7_init_82 : decode cX7_init 82 = .ok (.return_, 1) := by decide +kernel
theorem dX7_begin_0 : decode cX7_begin 0 = .ok (.iload_n 1, 1) := by decide +kernel
theorem dX7_begin_1 : decode cX7_begin 1 = .ok (.iconst 2, 1) := by decide +kernel
theorem dX7_begin_2 : decode cX7_begin 2 = .ok (.if_icmp .lt 8, 3) := by decide +kernel
theorem dX7_begin_5 : decode cX7_begin 5 = .ok (.iload_n 1, 1) := by decide +kernel
theorem dX7_begin_6 : decode cX7_begin 6 = .ok (.iconst 5, 1) := by decide +kernel
theorem dX7_begin_7 : decode cX7_begin 7 = .ok (.if_icmp .le 5, 3) := by decide +kernel
theorem dX7_begin_10 : decode cX7_begin 10 = .ok (.iconst 0, 1) := by decide +kernel
theorem dX7_begin_11 : decode cX7_begin 11 = .ok (.ireturn, 1) := by decide +kernel
theorem dX7_begin_12 : decode cX7_begin 12 = .ok (.aload_n 0, 1) := by decide +kernel
theorem dX7_begin_13 : decode cX7_begin 13 = .ok (.iload_n 1, 1) := by decide +kernel
theorem dX7_begin_14 : decode cX7_begin 14 = .ok (.putfield 29, 3) := by decide +kernel
theorem dX7_begin_17 : decode cX7_begin 17 = .ok (.aload_n 0, 1) := by decide +kernel
theorem dX7_begin_18 : decode cX7_begin 18 = .ok (.iconst 0, 1) := by decide +kernel
theorem dX7_begin_19 : decode cX7_begin 19 = .ok (.putfield 33, 3) := by decide +kernel
theorem dX7_begin_22 : decode cX7_begin 22 = .ok (.aload_n 0, 1) := by decide +kernel
theorem dX7_begin_23 : decode cX7_begin 23 = .ok (.iconst 0, 1) := by decide +kernel
theorem dX7_begin_24 : decode cX7_begin 24 = .ok (.putfield 36, 3) := by decide +kernel
theorem dX7_begin_27 : decode cX7_begin 27 = .ok (.aload_n 0, 1) := by decide +kernel
theorem dX7_begin_28 : decode cX7_begin 28 = .ok (.iconst 0, 1) := by decide +kernel
theorem dX7_begin_29 : decode cX7_begin 29 = .ok (.putfield 39, 3) := by decide +kernel
theorem dX7_begin_32 : decode cX7_begin 32 = .ok (.aload_n 0, 1) := by decide +kernel
theorem dX7_begin_33 : decode cX7_begin 33 = .ok (.iconst 0, 1) := by decide +kernel
theorem dX7_begin_34 : decode cX7_begin 34 = .ok (.putfield 42, 3) := by decide +kernel
theorem dX7_begin_37 : decode cX7_begin 37 = .ok (.iconst 0, 1) := by decide +kernel
theorem dX7_begin_38 : decode cX7_begin 38 = .ok (.istore_n 2, 1) := by decide +kernel
theorem dX7_begin_39 : decode cX7_begin 39 = .ok (.iload_n 2, 1) := by decide +kernel
theorem dX7_begin_40 : decode cX7_begin 40 = .ok (.aload_n 0, 1) := by decide +kernel
theorem dX7_begin_41 : decode cX7_begin 41 = .ok (.getfield 29, 3) := by decide +kernel
theorem dX7_begin_44 : decode cX7_begin 44 = .ok (.if_icmp .ge 23, 3) := by decide +kernel
theorem dX7_begin_47 : decode cX7_begin 47 = .ok (.aload_n 0, 1) := by decide +kernel
theorem dX7_begin_48 : decode cX7_begin 48 = .ok (.getfield 11, 3) := by decide +kernel
theorem dX7_begin_51 : decode cX7_begin 51 = .ok (.iload_n 2, 1) := by decide +kernel
theorem dX7_begin_52 : decode cX7_begin 52 = .ok (.aaload, 1) := by decide +kernel
theorem dX7_begin_53 : decode cX7_begin 53 = .ok (.iload_n 2, 1) := by decide +kernel
theorem dX7_begin_54 : decode cX7_begin 54 = .ok (.aload_n 0, 1) := by decide +kernel
theorem dX7_begin_55 : decode cX7_begin 55 = .ok (.getfield 42, 3) := by decide +kernel
theorem dX7_begin_58 : decode cX7_begin 58 = .ok (.invokevirtual 45, 3) := by decide +kernel
theorem dX7_begin_61 : decode cX7_begin 61 = .ok (.iinc 2 1, 3) := by decide +kernel
theorem dX7_begin_64 : decode cX7_begin 64 = .ok (.goto (-25), 3) := by decide +kernel
theorem dX7_begin_67 : decode cX7_begin 67 = .ok (.iconst 1, 1) := by decide +kernel
theorem dX7_begin_68 : decode cX7_begin 68 = .ok (.ireturn, 1) := by decide +kernel
theorem dX7_isProcess_0 : decode cX7_isProcess 0 = .ok (.iload_n 1, 1) := by decide +kernel
theorem dX7_isProcess_1 : decode cX7_isProcess 1 = .ok (.ifCond .lt 15, 3) := by decide +kernel
theorem dX7_isProcess_4 : decode cX7_isProcess 4 = .ok (.iload_n 1, 1) := by decide +kernel
theorem dX7_isProcess_5 : decode cX7_isProcess 5 = .ok (.aload_n 0, 1) := by decide +kernel
theorem dX7_isProcess_6 : decode cX7_isProcess 6 = .ok (.getfield 29, 3) := by decide +kernel
theorem dX7_isProcess_9 : decode cX7_isProcess 9 = .ok (.if_icmp .ge 7, 3) := by decide +kernel
theorem dX7_isProcess_12 : decode cX7_isProcess 12 = .ok (.iconst 1, 1) := by decide +kernel
theorem dX7_isProcess_13 : decode cX7_isProcess 13 = .ok (.goto 4, 3) := by decide +kernel
theorem dX7_isProcess_16 : decode cX7_isProcess 16 = .ok (.iconst 0, 1) := by decide +kernel
theorem dX7_isProcess_17 : decode cX7_isProcess 17 = .ok (.ireturn, 1) := by decide +kernel
theorem dX7_isState_0 : decode cX7_isState 0 = .ok (.aload_n 0, 1) := by decide +kernel
theorem dX7_isState_1 : decode cX7_isState 1 = .ok (.iload_n 1, 1) := by decide +kernel
theorem dX7_isState_2 : decode cX7_isState 2 = .ok (.invokevirtual 49, 3) := by decide +kernel
theorem dX7_isState_5 : decode cX7_isState 5 = .ok (.ifCond .eq 24, 3) := by decide +kernel
theorem dX7_isState_8 : decode cX7_isState 8 = .ok (.iload_n 2, 1) := by decide +kernel
theorem dX7_isState_9 : decode cX7_isState 9 = .ok (.ifCond .lt 20, 3) := by decide +kernel
theorem dX7_isState_12 : decode cX7_isState 12 = .ok (.iload_n 2, 1) := by decide +kernel
theorem dX7_isState_13 : decode cX7_isState 13 = .ok (.aload_n 0, 1) := by decide +kernel
theorem dX7_isState_14 : decode cX7_isState 14 = .ok (.getfield 11, 3) := by decide +kernel
theorem dX7_isState_17 : decode cX7_isState 17 = .ok (.iload_n 1, 1) := by decide +kernel
theorem dX7_isState_18 : decode cX7_isState 18 = .ok (.aaload, 1) := by decide +kernel
theorem dX7_isState_19 : decode cX7_isState 19 = .ok (.getfield 53, 3) := by decide +kernel
theorem dX7_isState_22 : decode cX7_isState 22 = .ok (.if_icmp .gt 7, 3) := by decide +kernel
theorem dX7_isState_25 : decode cX7_isState 25 = .ok (.iconst 1, 1) := by decide +kernel
theorem dX7_isState_26 : decode cX7_isState 26 = .ok (.goto 4, 3) := by decide +kernel
theorem dX7_isState_29 : decode cX7_isState 29 = .ok (.iconst 0, 1) := by decide +kernel
theorem dX7_isState_30 : decode cX7_isState 30 = .ok (.ireturn, 1) := by decide +kernel
theorem dX7_isMessage_0 : decode cX7_isMessage 0 = .ok (.iload_n 1, 1) := by decide +kernel
theorem dX7_isMessage_1 : decode cX7_isMessage 1 = .ok (.ifCond .lt 15, 3) := by decide +kernel
theorem dX7_isMessage_4 : decode cX7_isMessage 4 = .ok (.iload_n 1, 1) := by decide +kernel
theorem dX7_isMessage_5 : decode cX7_isMessage 5 = .ok (.aload_n 0, 1) := by decide +kernel
theorem dX7_isMessage_6 : decode cX7_isMessage 6 = .ok (.getfield 36, 3) := by decide +kernel
theorem dX7_isMessage_9 : decode cX7_isMessage 9 = .ok (.if_icmp .ge 7, 3) := by decide +kernel
theorem dX7_isMessage_12 : decode cX7_isMessage 12 = .ok (.iconst 1, 1) := by decide +kernel
theorem dX7_isMessage_13 : decode cX7_isMessage 13 = .ok (.goto 4, 3) := by decide +kernel
theorem dX7_isMessage_16 : decode cX7_isMessage 16 = .ok (.iconst 0, 1) := by decide +kernel
theorem dX7_isMessage_17 : decode cX7_isMessage 17 = .ok (.ireturn, 1) := by decide +kernel
theorem dX7_allProcesses_0 : decode cX7_allProcesses 0 = .ok (.iconst 1, 1) := by decide +kernel
theorem dX7_allProcesses_1 : decode cX7_allProcesses 1 = .ok (.aload_n 0, 1) := by decide +kernel
theorem dX7_allProcesses_2 : decode cX7_allProcesses 2 = .ok (.getfield 29, 3) := by decide +kernel
theorem dX7_allProcesses_5 : decode cX7_allProcesses 5 = .ok (.ishl, 1) := by decide +kernel
theorem dX7_allProcesses_6 : decode cX7_allProcesses 6 = .ok (.iconst 1, 1) := by decide +kernel
theorem dX7_allProcesses_7 : decode cX7_allProcesses 7 = .ok (.isub, 1) := by decide +kernel
theorem dX7_allProcesses_8 : decode cX7_allProcesses 8 = .ok (.ireturn, 1) := by decide +kernel
theorem dX7_isSet_0 : decode cX7_isSet 0 = .ok (.iload_n 1, 1) := by decide +kernel
theorem dX7_isSet_1 : decode cX7_isSet 1 = .ok (.ifCond .lt 15, 3) := by decide +kernel
theorem dX7_isSet_4 : decode cX7_isSet 4 = .ok (.iload_n 1, 1) := by decide +kernel
theorem dX7_isSet_5 : decode cX7_isSet 5 = .ok (.aload_n 0, 1) := by decide +kernel
theorem dX7_isSet_6 : decode cX7_isSet 6 = .ok (.invokevirtual 56, 3) := by decide +kernel
theorem dX7_isSet_9 : decode cX7_isSet 9 = .ok (.if_icmp .gt 7, 3) := by decide +kernel
theorem dX7_isSet_12 : decode cX7_isSet 12 = .ok (.iconst 1, 1) := by decide +kernel
theorem dX7_isSet_13 : decode cX7_isSet 13 = .ok (.goto 4, 3) := by decide +kernel
theorem dX7_isSet_16 : decode cX7_isSet 16 = .ok (.iconst 0, 1) := by decide +kernel
theorem dX7_isSet_17 : decode cX7_isSet 17 = .ok (.ireturn, 1) := by decide +kernel
theorem dX7_keepState_0 : decode cX7_keepState 0 = .ok (.aload_n 0, 1) := by decide +kernel
theorem dX7_keepState_1 : decode cX7_keepState 1 = .ok (.iload_n 1, 1) := by decide +kernel
theorem dX7_keepState_2 : decode cX7_keepState 2 = .ok (.invokevirtual 49, 3) := by decide +kernel
theorem dX7_keepState_5 : decode cX7_keepState 5 = .ok (.ifCond .ne 5, 3) := by decide +kernel
theorem dX7_keepState_8 : decode cX7_keepState 8 = .ok (.iconst (-1), 1) := by decide +kernel
theorem dX7_keepState_9 : decode cX7_keepState 9 = .ok (.ireturn, 1) := by decide +kernel
theorem dX7_keepState_10 : decode cX7_keepState 10 = .ok (.aload_n 0, 1) := by decide +kernel
theorem dX7_keepState_11 : decode cX7_keepState 11 = .ok (.getfield 11, 3) := by decide +kernel
theorem dX7_keepState_14 : decode cX7_keepState 14 = .ok (.iload_n 1, 1) := by decide +kernel
theorem dX7_keepState_15 : decode cX7_keepState 15 = .ok (.aaload, 1) := by decide +kernel
theorem dX7_keepState_16 : decode cX7_keepState 16 = .ok (.invokevirtual 60, 3) := by decide +kernel
theorem dX7_keepState_19 : decode cX7_keepState 19 = .ok (.ifCond .eq 6, 3) := by decide +kernel
theorem dX7_keepState_22 : decode cX7_keepState 22 = .ok (.bipush (-3), 2) := by decide +kernel
theorem dX7_keepState_24 : decode cX7_keepState 24 = .ok (.ireturn, 1) := by decide +kernel
theorem dX7_keepState_25 : decode cX7_keepState 25 = .ok (.aload_n 0, 1) := by decide +kernel
theorem dX7_keepState_26 : decode cX7_keepState 26 = .ok (.dup, 1) := by decide +kernel
theorem dX7_keepState_27 : decode cX7_keepState 27 = .ok (.getfield 42, 3) := by decide +kernel
theorem dX7_keepState_30 : decode cX7_keepState 30 = .ok (.iconst 1, 1) := by decide +kernel
theorem dX7_keepState_31 : decode cX7_keepState 31 = .ok (.iadd, 1) := by decide +kernel
theorem dX7_keepState_32 : decode cX7_keepState 32 = .ok (.putfield 42, 3) := by decide +kernel
theorem dX7_keepState_35 : decode cX7_keepState 35 = .ok (.aload_n 0, 1) := by decide +kernel
theorem dX7_keepState_36 : decode cX7_keepState 36 = .ok (.getfield 11, 3) := by decide +kernel
theorem dX7_keepState_39 : decode cX7_keepState 39 = .ok (.iload_n 1, 1) := by decide +kernel
theorem dX7_keepState_40 : decode cX7_keepState 40 = .ok (.aaload, 1) := by decide +kernel
theorem dX7_keepState_41 : decode cX7_keepState 41 = .ok (.iload_n 1, 1) := by decide +kernel
theorem dX7_keepState_42 : decode cX7_keepState 42 = .ok (.aload_n 0, 1) := by decide +kernel
theorem dX7_keepState_43 : decode cX7_keepState 43 = .ok (.getfield 11, 3) := by decide +kernel
theorem dX7_keepState_46 : decode cX7_keepState 46 = .ok (.iload_n 1, 1) := by decide +kernel
theorem dX7_keepState_47 : decode cX7_keepState 47 = .ok (.aaload, 1) := by decide +kernel
theorem dX7_keepState_48 : decode cX7_keepState 48 = .ok (.getfield 64, 3) := by decide +kernel
theorem dX7_keepState_51 : decode cX7_keepState 51 = .ok (.iconst 1, 1) := by decide +kernel
theorem dX7_keepState_52 : decode cX7_keepState 52 = .ok (.iadd, 1) := by decide +kernel
theorem dX7_keepState_53 : decode cX7_keepState 53 = .ok (.iconst 0, 1) := by decide +kernel
theorem dX7_keepState_54 : decode cX7_keepState 54 = .ok (.aload_n 0, 1) := by decide +kernel
theorem dX7_keepState_55 : decode cX7_keepState 55 = .ok (.getfield 42, 3) := by decide +kernel
theorem dX7_keepState_58 : decode cX7_keepState 58 = .ok (.invokevirtual 67, 3) := by decide +kernel
theorem dX7_keepState_61 : decode cX7_keepState 61 = .ok (.aload_n 0, 1) := by decide +kernel
theorem dX7_keepState_62 : decode cX7_keepState 62 = .ok (.getfield 11, 3) := by decide +kernel
theorem dX7_keepState_65 : decode cX7_keepState 65 = .ok (.iload_n 1, 1) := by decide +kernel
theorem dX7_keepState_66 : decode cX7_keepState 66 = .ok (.aaload, 1) := by decide +kernel
theorem dX7_keepState_67 : decode cX7_keepState 67 = .ok (.getfield 53, 3) := by decide +kernel
theorem dX7_keepState_70 : decode cX7_keepState 70 = .ok (.ireturn, 1) := by decide +kernel
theorem dX7_post_0 : decode cX7_post 0 = .ok (.aload_n 0, 1) := by decide +kernel
theorem dX7_post_1 : decode cX7_post 1 = .ok (.iload_n 1, 1) := by decide +kernel
theorem dX7_post_2 : decode cX7_post 2 = .ok (.invokevirtual 49, 3) := by decide +kernel
theorem dX7_post_5 : decode cX7_post 5 = .ok (.ifCond .eq 16, 3) := by decide +kernel
theorem dX7_post_8 : decode cX7_post 8 = .ok (.aload_n 0, 1) := by decide +kernel
theorem dX7_post_9 : decode cX7_post 9 = .ok (.iload_n 2, 1) := by decide +kernel
theorem dX7_post_10 : decode cX7_post 10 = .ok (.invokevirtual 49, 3) := by decide +kernel
theorem dX7_post_13 : decode cX7_post 13 = .ok (.ifCond .eq 8, 3) := by decide +kernel
theorem dX7_post_16 : decode cX7_post 16 = .ok (.iload_n 1, 1) := by decide +kernel
theorem dX7_post_17 : decode cX7_post 17 = .ok (.iload_n 2, 1) := by decide +kernel
theorem dX7_post_18 : decode cX7_post 18 = .ok (.if_icmp .ne 5, 3) := by decide +kernel
theorem dX7_post_21 : decode cX7_post 21 = .ok (.iconst (-1), 1) := by decide +kernel
theorem dX7_post_22 : decode cX7_post 22 = .ok (.ireturn, 1) := by decide +kernel
theorem dX7_post_23 : decode cX7_post 23 = .ok (.aload_n 0, 1) := by decide +kernel
theorem dX7_post_24 : decode cX7_post 24 = .ok (.getfield 36, 3) := by decide +kernel
theorem dX7_post_27 : decode cX7_post 27 = .ok (.bipush 60, 2) := by decide +kernel
theorem dX7_post_29 : decode cX7_post 29 = .ok (.if_icmp .lt 6, 3) := by decide +kernel
theorem dX7_post_32 : decode cX7_post 32 = .ok (.bipush (-3), 2) := by decide +kernel
theorem dX7_post_34 : decode cX7_post 34 = .ok (.ireturn, 1) := by decide +kernel
theorem dX7_post_35 : decode cX7_post 35 = .ok (.aload_n 0, 1) := by decide +kernel
theorem dX7_post_36 : decode cX7_post 36 = .ok (.dup, 1) := by decide +kernel
theorem dX7_post_37 : decode cX7_post 37 = .ok (.getfield 42, 3) := by decide +kernel
theorem dX7_post_40 : decode cX7_post 40 = .ok (.iconst 1, 1) := by decide +kernel
theorem dX7_post_41 : decode cX7_post 41 = .ok (.iadd, 1) := by decide +kernel
theorem dX7_post_42 : decode cX7_post 42 = .ok (.putfield 42, 3) := by decide +kernel
theorem dX7_post_45 : decode cX7_post 45 = .ok (.aload_n 0, 1) := by decide +kernel
theorem dX7_post_46 : decode cX7_post 46 = .ok (.getfield 19, 3) := by decide +kernel
theorem dX7_post_49 : decode cX7_post 49 = .ok (.aload_n 0, 1) := by decide +kernel
theorem dX7_post_50 : decode cX7_post 50 = .ok (.getfield 36, 3) := by decide +kernel
theorem dX7_post_53 : decode cX7_post 53 = .ok (.aaload, 1) := by decide +kernel
theorem dX7_post_54 : decode cX7_post 54 = .ok (.astore_n 3, 1) := by decide +kernel
theorem dX7_post_55 : decode cX7_post 55 = .ok (.aload_n 3, 1) := by decide +kernel
theorem dX7_post_56 : decode cX7_post 56 = .ok (.iload_n 1, 1) := by decide +kernel
theorem dX7_post_57 : decode cX7_post 57 = .ok (.putfield 71, 3) := by decide +kernel
theorem dX7_post_60 : decode cX7_post 60 = .ok (.aload_n 3, 1) := by decide +kernel
theorem dX7_post_61 : decode cX7_post 61 = .ok (.iload_n 2, 1) := by decide +kernel
theorem dX7_post_62 : decode cX7_post 62 = .ok (.putfield 74, 3) := by decide +kernel
theorem dX7_post_65 : decode cX7_post 65 = .ok (.aload_n 3, 1) := by decide +kernel
theorem dX7_post_66 : decode cX7_post 66 = .ok (.aload_n 0, 1) := by decide +kernel
theorem dX7_post_67 : decode cX7_post 67 = .ok (.getfield 11, 3) := by decide +kernel
theorem dX7_post_70 : decode cX7_post 70 = .ok (.iload_n 1, 1) := by decide +kernel
theorem dX7_post_71 : decode cX7_post 71 = .ok (.aaload, 1) := by decide +kernel
theorem dX7_post_72 : decode cX7_post 72 = .ok (.getfield 53, 3) := by decide +kernel
theorem dX7_post_75 : decode cX7_post 75 = .ok (.iconst 1, 1) := by decide +kernel
theorem dX7_post_76 : decode cX7_post 76 = .ok (.isub, 1) := by decide +kernel
theorem dX7_post_77 : decode cX7_post 77 = .ok (.putfield 77, 3) := by decide +kernel
theorem dX7_post_80 : decode cX7_post 80 = .ok (.aload_n 3, 1) := by decide +kernel
theorem dX7_post_81 : decode cX7_post 81 = .ok (.aload_n 0, 1) := by decide +kernel
theorem dX7_post_82 : decode cX7_post 82 = .ok (.getfield 42, 3) := by decide +kernel
theorem dX7_post_85 : decode cX7_post 85 = .ok (.putfield 80, 3) := by decide +kernel
theorem dX7_post_88 : decode cX7_post 88 = .ok (.aload_n 3, 1) := by decide +kernel
theorem dX7_post_89 : decode cX7_post 89 = .ok (.aload_n 0, 1) := by decide +kernel
theorem dX7_post_90 : decode cX7_post 90 = .ok (.getfield 11, 3) := by decide +kernel
theorem dX7_post_93 : decode cX7_post 93 = .ok (.iload_n 1, 1) := by decide +kernel
theorem dX7_post_94 : decode cX7_post 94 = .ok (.aaload, 1) := by decide +kernel
theorem dX7_post_95 : decode cX7_post 95 = .ok (.getfield 64, 3) := by decide +kernel
theorem dX7_post_98 : decode cX7_post 98 = .ok (.putfield 83, 3) := by decide +kernel
theorem dX7_post_101 : decode cX7_post 101 = .ok (.aload_n 0, 1) := by decide +kernel
theorem dX7_post_102 : decode cX7_post 102 = .ok (.getfield 11, 3) := by decide +kernel
theorem dX7_post_105 : decode cX7_post 105 = .ok (.iload_n 1, 1) := by decide +kernel
theorem dX7_post_106 : decode cX7_post 106 = .ok (.aaload, 1) := by decide +kernel
theorem dX7_post_107 : decode cX7_post 107 = .ok (.getfield 84, 3) := by decide +kernel
theorem dX7_post_110 : decode cX7_post 110 = .ok (.iconst 0, 1) := by decide +kernel
theorem dX7_post_111 : decode cX7_post 111 = .ok (.aload_n 3, 1) := by decide +kernel
theorem dX7_post_112 : decode cX7_post 112 = .ok (.getfield 87, 3) := by decide +kernel
theorem dX7_post_115 : decode cX7_post 115 = .ok (.iconst 0, 1) := by decide +kernel
theorem dX7_post_116 : decode cX7_post 116 = .ok (.iconst 5, 1) := by decide +kernel
theorem dX7_post_117 : decode cX7_post 117 = .ok (.invokestatic 90, 3) := by decide +kernel
theorem dX7_post_120 : decode cX7_post 120 = .ok (.aload_n 0, 1) := by decide +kernel
theorem dX7_post_121 : decode cX7_post 121 = .ok (.aload_n 0, 1) := by decide +kernel
theorem dX7_post_122 : decode cX7_post 122 = .ok (.getfield 36, 3) := by decide +kernel
theorem dX7_post_125 : decode cX7_post 125 = .ok (.invokevirtual 96, 3) := by decide +kernel
theorem dX7_post_128 : decode cX7_post 128 = .ok (.aload_n 0, 1) := by decide +kernel
theorem dX7_post_129 : decode cX7_post 129 = .ok (.dup, 1) := by decide +kernel
theorem dX7_post_130 : decode cX7_post 130 = .ok (.getfield 36, 3) := by decide +kernel
theorem dX7_post_133 : decode cX7_post 133 = .ok (.iconst 1, 1) := by decide +kernel
theorem dX7_post_134 : decode cX7_post 134 = .ok (.iadd, 1) := by decide +kernel
theorem dX7_post_135 : decode cX7_post 135 = .ok (.putfield 36, 3) := by decide +kernel
theorem dX7_post_138 : decode cX7_post 138 = .ok (.aload_n 0, 1) := by decide +kernel
theorem dX7_post_139 : decode cX7_post 139 = .ok (.getfield 36, 3) := by decide +kernel
theorem dX7_post_142 : decode cX7_post 142 = .ok (.iconst 1, 1) := by decide +kernel
theorem dX7_post_143 : decode cX7_post 143 = .ok (.isub, 1) := by decide +kernel
theorem dX7_post_144 : decode cX7_post 144 = .ok (.ireturn, 1) := by decide +kernel
theorem dX7_take_0 : decode cX7_take 0 = .ok (.aload_n 0, 1) := by decide +kernel
theorem dX7_take_1 : decode cX7_take 1 = .ok (.iload_n 1, 1) := by decide +kernel
theorem dX7_take_2 : decode cX7_take 2 = .ok (.invokevirtual 100, 3) := by decide +kernel
theorem dX7_take_5 : decode cX7_take 5 = .ok (.ifCond .ne 5, 3) := by decide +kernel
theorem dX7_take_8 : decode cX7_take 8 = .ok (.iconst (-1), 1) := by decide +kernel
theorem dX7_take_9 : decode cX7_take 9 = .ok (.ireturn, 1) := by decide +kernel
theorem dX7_take_10 : decode cX7_take 10 = .ok (.aload_n 0, 1) := by decide +kernel
theorem dX7_take_11 : decode cX7_take 11 = .ok (.getfield 19, 3) := by decide +kernel
theorem dX7_take_14 : decode cX7_take 14 = .ok (.iload_n 1, 1) := by decide +kernel
theorem dX7_take_15 : decode cX7_take 15 = .ok (.aaload, 1) := by decide +kernel
theorem dX7_take_16 : decode cX7_take 16 = .ok (.astore_n 2, 1) := by decide +kernel
theorem dX7_take_17 : decode cX7_take 17 = .ok (.aload_n 2, 1) := by decide +kernel
theorem dX7_take_18 : decode cX7_take 18 = .ok (.getfield 103, 3) := by decide +kernel
theorem dX7_take_21 : decode cX7_take 21 = .ok (.ifCond .eq 6, 3) := by decide +kernel
theorem dX7_take_24 : decode cX7_take 24 = .ok (.bipush (-2), 2) := by decide +kernel
theorem dX7_take_26 : decode cX7_take 26 = .ok (.ireturn, 1) := by decide +kernel
theorem dX7_take_27 : decode cX7_take 27 = .ok (.aload_n 0, 1) := by decide +kernel
theorem dX7_take_28 : decode cX7_take 28 = .ok (.aload_n 2, 1) := by decide +kernel
theorem dX7_take_29 : decode cX7_take 29 = .ok (.invokevirtual 106, 3) := by decide +kernel
theorem dX7_take_32 : decode cX7_take 32 = .ok (.istore_n 3, 1) := by decide +kernel
theorem dX7_take_33 : decode cX7_take 33 = .ok (.aload_n 0, 1) := by decide +kernel
theorem dX7_take_34 : decode cX7_take 34 = .ok (.getfield 11, 3) := by decide +kernel
theorem dX7_take_37 : decode cX7_take 37 = .ok (.aload_n 2, 1) := by decide +kernel
theorem dX7_take_38 : decode cX7_take 38 = .ok (.getfield 74, 3) := by decide +kernel
theorem dX7_take_41 : decode cX7_take 41 = .ok (.aaload, 1) := by decide +kernel
theorem dX7_take_42 : decode cX7_take 42 = .ok (.astore 4, 2) := by decide +kernel
theorem dX7_take_44 : decode cX7_take 44 = .ok (.iload_n 3, 1) := by decide +kernel
theorem dX7_take_45 : decode cX7_take 45 = .ok (.ifCond .eq 14, 3) := by decide +kernel
theorem dX7_take_48 : decode cX7_take 48 = .ok (.aload 4, 2) := by decide +kernel
theorem dX7_take_50 : decode cX7_take 50 = .ok (.invokevirtual 60, 3) := by decide +kernel
theorem dX7_take_53 : decode cX7_take 53 = .ok (.ifCond .eq 6, 3) := by decide +kernel
theorem dX7_take_56 : decode cX7_take 56 = .ok (.bipush (-3), 2) := by decide +kernel
theorem dX7_take_58 : decode cX7_take 58 = .ok (.ireturn, 1) := by decide +kernel
theorem dX7_take_59 : decode cX7_take 59 = .ok (.iload_n 3, 1) := by decide +kernel
theorem dX7_take_60 : decode cX7_take 60 = .ok (.ifCond .eq 53, 3) := by decide +kernel
theorem dX7_take_63 : decode cX7_take 63 = .ok (.aload_n 0, 1) := by decide +kernel
theorem dX7_take_64 : decode cX7_take 64 = .ok (.dup, 1) := by decide +kernel
theorem dX7_take_65 : decode cX7_take 65 = .ok (.getfield 42, 3) := by decide +kernel
theorem dX7_take_68 : decode cX7_take 68 = .ok (.iconst 1, 1) := by decide +kernel
theorem dX7_take_69 : decode cX7_take 69 = .ok (.iadd, 1) := by decide +kernel
theorem dX7_take_70 : decode cX7_take 70 = .ok (.putfield 42, 3) := by decide +kernel
theorem dX7_take_73 : decode cX7_take 73 = .ok (.aload_n 0, 1) := by decide +kernel
theorem dX7_take_74 : decode cX7_take 74 = .ok (.getfield 33, 3) := by decide +kernel
theorem dX7_take_77 : decode cX7_take 77 = .ok (.iconst 1, 1) := by decide +kernel
theorem dX7_take_78 : decode cX7_take 78 = .ok (.if_icmp .ne 10, 3) := by decide +kernel
theorem dX7_take_81 : decode cX7_take 81 = .ok (.aload_n 2, 1) := by decide +kernel
theorem dX7_take_82 : decode cX7_take 82 = .ok (.getfield 83, 3) := by decide +kernel
theorem dX7_take_85 : decode cX7_take 85 = .ok (.goto 10, 3) := by decide +kernel
theorem dX7_take_88 : decode cX7_take 88 = .ok (.aload 4, 2) := by decide +kernel
theorem dX7_take_90 : decode cX7_take 90 = .ok (.getfield 64, 3) := by decide +kernel
theorem dX7_take_93 : decode cX7_take 93 = .ok (.iconst 1, 1) := by decide +kernel
theorem dX7_take_94 : decode cX7_take 94 = .ok (.iadd, 1) := by decide +kernel
theorem dX7_take_95 : decode cX7_take 95 = .ok (.istore 5, 2) := by decide +kernel
theorem dX7_take_97 : decode cX7_take 97 = .ok (.aload 4, 2) := by decide +kernel
theorem dX7_take_99 : decode cX7_take 99 = .ok (.aload_n 2, 1) := by decide +kernel
theorem dX7_take_100 : decode cX7_take 100 = .ok (.getfield 74, 3) := by decide +kernel
theorem dX7_take_103 : decode cX7_take 103 = .ok (.iload 5, 2) := by decide +kernel
theorem dX7_take_105 : decode cX7_take 105 = .ok (.iconst 1, 1) := by decide +kernel
theorem dX7_take_106 : decode cX7_take 106 = .ok (.aload_n 0, 1) := by decide +kernel
theorem dX7_take_107 : decode cX7_take 107 = .ok (.getfield 42, 3) := by decide +kernel
theorem dX7_take_110 : decode cX7_take 110 = .ok (.invokevirtual 67, 3) := by decide +kernel
theorem dX7_take_113 : decode cX7_take 113 = .ok (.aload_n 0, 1) := by decide +kernel
theorem dX7_take_114 : decode cX7_take 114 = .ok (.dup, 1) := by decide +kernel
theorem dX7_take_115 : decode cX7_take 115 = .ok (.getfield 42, 3) := by decide +kernel
theorem dX7_take_118 : decode cX7_take 118 = .ok (.iconst 1, 1) := by decide +kernel
theorem dX7_take_119 : decode cX7_take 119 = .ok (.iadd, 1) := by decide +kernel
theorem dX7_take_120 : decode cX7_take 120 = .ok (.putfield 42, 3) := by decide +kernel
theorem dX7_take_123 : decode cX7_take 123 = .ok (.aload_n 2, 1) := by decide +kernel
theorem dX7_take_124 : decode cX7_take 124 = .ok (.iconst 1, 1) := by decide +kernel
theorem dX7_take_125 : decode cX7_take 125 = .ok (.putfield 103, 3) := by decide +kernel
theorem dX7_take_128 : decode cX7_take 128 = .ok (.aload_n 2, 1) := by decide +kernel
theorem dX7_take_129 : decode cX7_take 129 = .ok (.aload 4, 2) := by decide +kernel
theorem dX7_take_131 : decode cX7_take 131 = .ok (.getfield 53, 3) := by decide +kernel
theorem dX7_take_134 : decode cX7_take 134 = .ok (.iconst 1, 1) := by decide +kernel
theorem dX7_take_135 : decode cX7_take 135 = .ok (.isub, 1) := by decide +kernel
theorem dX7_take_136 : decode cX7_take 136 = .ok (.putfield 110, 3) := by decide +kernel
theorem dX7_take_139 : decode cX7_take 139 = .ok (.aload_n 2, 1) := by decide +kernel
theorem dX7_take_140 : decode cX7_take 140 = .ok (.aload_n 0, 1) := by decide +kernel
theorem dX7_take_141 : decode cX7_take 141 = .ok (.getfield 42, 3) := by decide +kernel
theorem dX7_take_144 : decode cX7_take 144 = .ok (.putfield 113, 3) := by decide +kernel
theorem dX7_take_147 : decode cX7_take 147 = .ok (.aload 4, 2) := by decide +kernel
theorem dX7_take_149 : decode cX7_take 149 = .ok (.aload_n 2, 1) := by decide +kernel
theorem dX7_take_150 : decode cX7_take 150 = .ok (.getfield 74, 3) := by decide +kernel
theorem dX7_take_153 : decode cX7_take 153 = .ok (.aload_n 2, 1) := by decide +kernel
theorem dX7_take_154 : decode cX7_take 154 = .ok (.getfield 87, 3) := by decide +kernel
theorem dX7_take_157 : decode cX7_take 157 = .ok (.invokevirtual 116, 3) := by decide +kernel
theorem dX7_take_160 : decode cX7_take 160 = .ok (.aload_n 0, 1) := by decide +kernel
theorem dX7_take_161 : decode cX7_take 161 = .ok (.invokevirtual 120, 3) := by decide +kernel
theorem dX7_take_164 : decode cX7_take 164 = .ok (.iload_n 3, 1) := by decide +kernel
theorem dX7_take_165 : decode cX7_take 165 = .ok (.invokestatic 123, 3) := by decide +kernel
theorem dX7_take_168 : decode cX7_take 168 = .ok (.ireturn, 1) := by decide +kernel
theorem dX7_forces_0 : decode cX7_forces 0 = .ok (.aload_n 0, 1) := by decide +kernel
theorem dX7_forces_1 : decode cX7_forces 1 = .ok (.getfield 11, 3) := by decide +kernel
theorem dX7_forces_4 : decode cX7_forces 4 = .ok (.aload_n 1, 1) := by decide +kernel
theorem dX7_forces_5 : decode cX7_forces 5 = .ok (.getfield 74, 3) := by decide +kernel
theorem dX7_forces_8 : decode cX7_forces 8 = .ok (.aaload, 1) := by decide +kernel
theorem dX7_forces_9 : decode cX7_forces 9 = .ok (.astore_n 2, 1) := by decide +kernel
theorem dX7_forces_10 : decode cX7_forces 10 = .ok (.aload_n 0, 1) := by decide +kernel
theorem dX7_forces_11 : decode cX7_forces 11 = .ok (.getfield 33, 3) := by decide +kernel
theorem dX7_forces_14 : decode cX7_forces 14 = .ok (.tableswitch 92 1 3 #[26, 43, 75], 26) := by decide +kernel
theorem dX7_forces_40 : decode cX7_forces 40 = .ok (.aload_n 1, 1) := by decide +kernel
theorem dX7_forces_41 : decode cX7_forces 41 = .ok (.getfield 83, 3) := by decide +kernel
theorem dX7_forces_44 : decode cX7_forces 44 = .ok (.aload_n 2, 1) := by decide +kernel
theorem dX7_forces_45 : decode cX7_forces 45 = .ok (.getfield 64, 3) := by decide +kernel
theorem dX7_forces_48 : decode cX7_forces 48 = .ok (.if_icmp .le 7, 3) := by decide +kernel
theorem dX7_forces_51 : decode cX7_forces 51 = .ok (.iconst 1, 1) := by decide +kernel
theorem dX7_forces_52 : decode cX7_forces 52 = .ok (.goto 4, 3) := by decide +kernel
theorem dX7_forces_55 : decode cX7_forces 55 = .ok (.iconst 0, 1) := by decide +kernel
theorem dX7_forces_56 : decode cX7_forces 56 = .ok (.ireturn, 1) := by decide +kernel
theorem dX7_forces_57 : decode cX7_forces 57 = .ok (.aload_n 0, 1) := by decide +kernel
theorem dX7_forces_58 : decode cX7_forces 58 = .ok (.aload_n 1, 1) := by decide +kernel
theorem dX7_forces_59 : decode cX7_forces 59 = .ok (.getfield 74, 3) := by decide +kernel
theorem dX7_forces_62 : decode cX7_forces 62 = .ok (.invokevirtual 127, 3) := by decide +kernel
theorem dX7_forces_65 : decode cX7_forces 65 = .ok (.ifCond .le 22, 3) := by decide +kernel
theorem dX7_forces_68 : decode cX7_forces 68 = .ok (.aload_n 2, 1) := by decide +kernel
theorem dX7_forces_69 : decode cX7_forces 69 = .ok (.aload_n 1, 1) := by decide +kernel
theorem dX7_forces_70 : decode cX7_forces 70 = .ok (.getfield 74, 3) := by decide +kernel
theorem dX7_forces_73 : decode cX7_forces 73 = .ok (.aload_n 1, 1) := by decide +kernel
theorem dX7_forces_74 : decode cX7_forces 74 = .ok (.getfield 87, 3) := by decide +kernel
theorem dX7_forces_77 : decode cX7_forces 77 = .ok (.invokevirtual 131, 3) := by decide +kernel
theorem dX7_forces_80 : decode cX7_forces 80 = .ok (.ifCond .eq 7, 3) := by decide +kernel
theorem dX7_forces_83 : decode cX7_forces 83 = .ok (.iconst 1, 1) := by decide +kernel
theorem dX7_forces_84 : decode cX7_forces 84 = .ok (.goto 4, 3) := by decide +kernel
theorem dX7_forces_87 : decode cX7_forces 87 = .ok (.iconst 0, 1) := by decide +kernel
theorem dX7_forces_88 : decode cX7_forces 88 = .ok (.ireturn, 1) := by decide +kernel
theorem dX7_forces_89 : decode cX7_forces 89 = .ok (.aload_n 0, 1) := by decide +kernel
theorem dX7_forces_90 : decode cX7_forces 90 = .ok (.aload_n 1, 1) := by decide +kernel
theorem dX7_forces_91 : decode cX7_forces 91 = .ok (.getfield 74, 3) := by decide +kernel
theorem dX7_forces_94 : decode cX7_forces 94 = .ok (.invokevirtual 127, 3) := by decide +kernel
theorem dX7_forces_97 : decode cX7_forces 97 = .ok (.ifCond .le 7, 3) := by decide +kernel
theorem dX7_forces_100 : decode cX7_forces 100 = .ok (.iconst 1, 1) := by decide +kernel
theorem dX7_forces_101 : decode cX7_forces 101 = .ok (.goto 4, 3) := by decide +kernel
theorem dX7_forces_104 : decode cX7_forces 104 = .ok (.iconst 0, 1) := by decide +kernel
theorem dX7_forces_105 : decode cX7_forces 105 = .ok (.ireturn, 1) := by decide +kernel
theorem dX7_forces_106 : decode cX7_forces 106 = .ok (.iconst 0, 1) := by decide +kernel
theorem dX7_forces_107 : decode cX7_forces 107 = .ok (.ireturn, 1) := by decide +kernel
theorem dX7_countSentNow_0 : decode cX7_countSentNow 0 = .ok (.iconst 0, 1) := by decide +kernel
theorem dX7_countSentNow_1 : decode cX7_countSentNow 1 = .ok (.istore_n 2, 1) := by decide +kernel
theorem dX7_countSentNow_2 : decode cX7_countSentNow 2 = .ok (.iconst 0, 1) := by decide +kernel
theorem dX7_countSentNow_3 : decode cX7_countSentNow 3 = .ok (.istore_n 3, 1) := by decide +kernel
theorem dX7_countSentNow_4 : decode cX7_countSentNow 4 = .ok (.iload_n 3, 1) := by decide +kernel
theorem dX7_countSentNow_5 : decode cX7_countSentNow 5 = .ok (.aload_n 0, 1) := by decide +kernel
theorem dX7_countSentNow_6 : decode cX7_countSentNow 6 = .ok (.getfield 36, 3) := by decide +kernel
theorem dX7_countSentNow_9 : decode cX7_countSentNow 9 = .ok (.if_icmp .ge 57, 3) := by decide +kernel
theorem dX7_countSentNow_12 : decode cX7_countSentNow 12 = .ok (.aload_n 0, 1) := by decide +kernel
theorem dX7_countSentNow_13 : decode cX7_countSentNow 13 = .ok (.getfield 19, 3) := by decide +kernel
theorem dX7_countSentNow_16 : decode cX7_countSentNow 16 = .ok (.iload_n 3, 1) := by decide +kernel
theorem dX7_countSentNow_17 : decode cX7_countSentNow 17 = .ok (.aaload, 1) := by decide +kernel
theorem dX7_countSentNow_18 : decode cX7_countSentNow 18 = .ok (.astore 4, 2) := by decide +kernel
theorem dX7_countSentNow_20 : decode cX7_countSentNow 20 = .ok (.aload 4, 2) := by decide +kernel
theorem dX7_countSentNow_22 : decode cX7_countSentNow 22 = .ok (.getfield 71, 3) := by decide +kernel
theorem dX7_countSentNow_25 : decode cX7_countSentNow 25 = .ok (.iload_n 1, 1) := by decide +kernel
theorem dX7_countSentNow_26 : decode cX7_countSentNow 26 = .ok (.if_icmp .ne 34, 3) := by decide +kernel
theorem dX7_countSentNow_29 : decode cX7_countSentNow 29 = .ok (.aload 4, 2) := by decide +kernel
theorem dX7_countSentNow_31 : decode cX7_countSentNow 31 = .ok (.getfield 103, 3) := by decide +kernel
theorem dX7_countSentNow_34 : decode cX7_countSentNow 34 = .ok (.iconst 2, 1) := by decide +kernel
theorem dX7_countSentNow_35 : decode cX7_countSentNow 35 = .ok (.if_icmp .eq 25, 3) := by decide +kernel
theorem dX7_countSentNow_38 : decode cX7_countSentNow 38 = .ok (.aload 4, 2) := by decide +kernel
theorem dX7_countSentNow_40 : decode cX7_countSentNow 40 = .ok (.getfield 77, 3) := by decide +kernel
theorem dX7_countSentNow_43 : decode cX7_countSentNow 43 = .ok (.aload_n 0, 1) := by decide +kernel
theorem dX7_countSentNow_44 : decode cX7_countSentNow 44 = .ok (.getfield 11, 3) := by decide +kernel
theorem dX7_countSentNow_47 : decode cX7_countSentNow 47 = .ok (.iload_n 1, 1) := by decide +kernel
theorem dX7_countSentNow_48 : decode cX7_countSentNow 48 = .ok (.aaload, 1) := by decide +kernel
theorem dX7_countSentNow_49 : decode cX7_countSentNow 49 = .ok (.getfield 53, 3) := by decide +kernel
theorem dX7_countSentNow_52 : decode cX7_countSentNow 52 = .ok (.iconst 1, 1) := by decide +kernel
theorem dX7_countSentNow_53 : decode cX7_countSentNow 53 = .ok (.isub, 1) := by decide +kernel
theorem dX7_countSentNow_54 : decode cX7_countSentNow 54 = .ok (.if_icmp .ne 6, 3) := by decide +kernel
theorem dX7_countSentNow_57 : decode cX7_countSentNow 57 = .ok (.iinc 2 1, 3) := by decide +kernel
theorem dX7_countSentNow_60 : decode cX7_countSentNow 60 = .ok (.iinc 3 1, 3) := by decide +kernel
theorem dX7_countSentNow_63 : decode cX7_countSentNow 63 = .ok (.goto (-59), 3) := by decide +kernel
theorem dX7_countSentNow_66 : decode cX7_countSentNow 66 = .ok (.iload_n 2, 1) := by decide +kernel
theorem dX7_countSentNow_67 : decode cX7_countSentNow 67 = .ok (.ireturn, 1) := by decide +kernel
theorem dX7_putUnderWay_0 : decode cX7_putUnderWay 0 = .ok (.aload_n 0, 1) := by decide +kernel
theorem dX7_putUnderWay_1 : decode cX7_putUnderWay 1 = .ok (.getfield 19, 3) := by decide +kernel
theorem dX7_putUnderWay_4 : decode cX7_putUnderWay 4 = .ok (.iload_n 1, 1) := by decide +kernel
theorem dX7_putUnderWay_5 : decode cX7_putUnderWay 5 = .ok (.aaload, 1) := by decide +kernel
theorem dX7_putUnderWay_6 : decode cX7_putUnderWay 6 = .ok (.iconst 0, 1) := by decide +kernel
theorem dX7_putUnderWay_7 : decode cX7_putUnderWay 7 = .ok (.putfield 103, 3) := by decide +kernel
theorem dX7_putUnderWay_10 : decode cX7_putUnderWay 10 = .ok (.aload_n 0, 1) := by decide +kernel
theorem dX7_putUnderWay_11 : decode cX7_putUnderWay 11 = .ok (.getfield 39, 3) := by decide +kernel
theorem dX7_putUnderWay_14 : decode cX7_putUnderWay 14 = .ok (.bipush 60, 2) := by decide +kernel
theorem dX7_putUnderWay_16 : decode cX7_putUnderWay 16 = .ok (.if_icmp .ge 23, 3) := by decide +kernel
theorem dX7_putUnderWay_19 : decode cX7_putUnderWay 19 = .ok (.aload_n 0, 1) := by decide +kernel
theorem dX7_putUnderWay_20 : decode cX7_putUnderWay 20 = .ok (.getfield 23, 3) := by decide +kernel
theorem dX7_putUnderWay_23 : decode cX7_putUnderWay 23 = .ok (.aload_n 0, 1) := by decide +kernel
theorem dX7_putUnderWay_24 : decode cX7_putUnderWay 24 = .ok (.getfield 39, 3) := by decide +kernel
theorem dX7_putUnderWay_27 : decode cX7_putUnderWay 27 = .ok (.iload_n 1, 1) := by decide +kernel
theorem dX7_putUnderWay_28 : decode cX7_putUnderWay 28 = .ok (.iastore, 1) := by decide +kernel
theorem dX7_putUnderWay_29 : decode cX7_putUnderWay 29 = .ok (.aload_n 0, 1) := by decide +kernel
theorem dX7_putUnderWay_30 : decode cX7_putUnderWay 30 = .ok (.dup, 1) := by decide +kernel
theorem dX7_putUnderWay_31 : decode cX7_putUnderWay 31 = .ok (.getfield 39, 3) := by decide +kernel
theorem dX7_putUnderWay_34 : decode cX7_putUnderWay 34 = .ok (.iconst 1, 1) := by decide +kernel
theorem dX7_putUnderWay_35 : decode cX7_putUnderWay 35 = .ok (.iadd, 1) := by decide +kernel
theorem dX7_putUnderWay_36 : decode cX7_putUnderWay 36 = .ok (.putfield 39, 3) := by decide +kernel
theorem dX7_putUnderWay_39 : decode cX7_putUnderWay 39 = .ok (.return_, 1) := by decide +kernel
theorem dX7_dropFromQueue_0 : decode cX7_dropFromQueue 0 = .ok (.iconst 0, 1) := by decide +kernel
theorem dX7_dropFromQueue_1 : decode cX7_dropFromQueue 1 = .ok (.istore_n 1, 1) := by decide +kernel
theorem dX7_dropFromQueue_2 : decode cX7_dropFromQueue 2 = .ok (.iconst 0, 1) := by decide +kernel
theorem dX7_dropFromQueue_3 : decode cX7_dropFromQueue 3 = .ok (.istore_n 2, 1) := by decide +kernel
theorem dX7_dropFromQueue_4 : decode cX7_dropFromQueue 4 = .ok (.iload_n 2, 1) := by decide +kernel
theorem dX7_dropFromQueue_5 : decode cX7_dropFromQueue 5 = .ok (.aload_n 0, 1) := by decide +kernel
theorem dX7_dropFromQueue_6 : decode cX7_dropFromQueue 6 = .ok (.getfield 39, 3) := by decide +kernel
theorem dX7_dropFromQueue_9 : decode cX7_dropFromQueue 9 = .ok (.if_icmp .ge 41, 3) := by decide +kernel
theorem dX7_dropFromQueue_12 : decode cX7_dropFromQueue 12 = .ok (.aload_n 0, 1) := by decide +kernel
theorem dX7_dropFromQueue_13 : decode cX7_dropFromQueue 13 = .ok (.getfield 19, 3) := by decide +kernel
theorem dX7_dropFromQueue_16 : decode cX7_dropFromQueue 16 = .ok (.aload_n 0, 1) := by decide +kernel
theorem dX7_dropFromQueue_17 : decode cX7_dropFromQueue 17 = .ok (.getfield 23, 3) := by decide +kernel
theorem dX7_dropFromQueue_20 : decode cX7_dropFromQueue 20 = .ok (.iload_n 2, 1) := by decide +kernel
theorem dX7_dropFromQueue_21 : decode cX7_dropFromQueue 21 = .ok (.iaload, 1) := by decide +kernel
theorem dX7_dropFromQueue_22 : decode cX7_dropFromQueue 22 = .ok (.aaload, 1) := by decide +kernel
theorem dX7_dropFromQueue_23 : decode cX7_dropFromQueue 23 = .ok (.getfield 103, 3) := by decide +kernel
theorem dX7_dropFromQueue_26 : decode cX7_dropFromQueue 26 = .ok (.ifCond .ne 18, 3) := by decide +kernel
theorem dX7_dropFromQueue_29 : decode cX7_dropFromQueue 29 = .ok (.aload_n 0, 1) := by decide +kernel
theorem dX7_dropFromQueue_30 : decode cX7_dropFromQueue 30 = .ok (.getfield 23, 3) := by decide +kernel
theorem dX7_dropFromQueue_33 : decode cX7_dropFromQueue 33 = .ok (.iload_n 1, 1) := by decide +kernel
theorem dX7_dropFromQueue_34 : decode cX7_dropFromQueue 34 = .ok (.aload_n 0, 1) := by decide +kernel
theorem dX7_dropFromQueue_35 : decode cX7_dropFromQueue 35 = .ok (.getfield 23, 3) := by decide +kernel
theorem dX7_dropFromQueue_38 : decode cX7_dropFromQueue 38 = .ok (.iload_n 2, 1) := by decide +kernel
theorem dX7_dropFromQueue_39 : decode cX7_dropFromQueue 39 = .ok (.iaload, 1) := by decide +kernel
theorem dX7_dropFromQueue_40 : decode cX7_dropFromQueue 40 = .ok (.iastore, 1) := by decide +kernel
theorem dX7_dropFromQueue_41 : decode cX7_dropFromQueue 41 = .ok (.iinc 1 1, 3) := by decide +kernel
theorem dX7_dropFromQueue_44 : decode cX7_dropFromQueue 44 = .ok (.iinc 2 1, 3) := by decide +kernel
theorem dX7_dropFromQueue_47 : decode cX7_dropFromQueue 47 = .ok (.goto (-43), 3) := by decide +kernel
theorem dX7_dropFromQueue_50 : decode cX7_dropFromQueue 50 = .ok (.aload_n 0, 1) := by decide +kernel
theorem dX7_dropFromQueue_51 : decode cX7_dropFromQueue 51 = .ok (.iload_n 1, 1) := by decide +kernel
theorem dX7_dropFromQueue_52 : decode cX7_dropFromQueue 52 = .ok (.putfield 39, 3) := by decide +kernel
theorem dX7_dropFromQueue_55 : decode cX7_dropFromQueue 55 = .ok (.return_, 1) := by decide +kernel
theorem dX7_goBack_0 : decode cX7_goBack 0 = .ok (.iconst 0, 1) := by decide +kernel
theorem dX7_goBack_1 : decode cX7_goBack 1 = .ok (.istore_n 2, 1) := by decide +kernel
theorem dX7_goBack_2 : decode cX7_goBack 2 = .ok (.iload_n 2, 1) := by decide +kernel
theorem dX7_goBack_3 : decode cX7_goBack 3 = .ok (.aload_n 0, 1) := by decide +kernel
theorem dX7_goBack_4 : decode cX7_goBack 4 = .ok (.getfield 36, 3) := by decide +kernel
theorem dX7_goBack_7 : decode cX7_goBack 7 = .ok (.if_icmp .ge 32, 3) := by decide +kernel
theorem dX7_goBack_10 : decode cX7_goBack 10 = .ok (.aload_n 0, 1) := by decide +kernel
theorem dX7_goBack_11 : decode cX7_goBack 11 = .ok (.getfield 19, 3) := by decide +kernel
theorem dX7_goBack_14 : decode cX7_goBack 14 = .ok (.iload_n 2, 1) := by decide +kernel
theorem dX7_goBack_15 : decode cX7_goBack 15 = .ok (.aaload, 1) := by decide +kernel
theorem dX7_goBack_16 : decode cX7_goBack 16 = .ok (.aload_n 1, 1) := by decide +kernel
theorem dX7_goBack_17 : decode cX7_goBack 17 = .ok (.invokevirtual 135, 3) := by decide +kernel
theorem dX7_goBack_20 : decode cX7_goBack 20 = .ok (.ifCond .eq 13, 3) := by decide +kernel
theorem dX7_goBack_23 : decode cX7_goBack 23 = .ok (.aload_n 0, 1) := by decide +kernel
theorem dX7_goBack_24 : decode cX7_goBack 24 = .ok (.getfield 19, 3) := by decide +kernel
theorem dX7_goBack_27 : decode cX7_goBack 27 = .ok (.iload_n 2, 1) := by decide +kernel
theorem dX7_goBack_28 : decode cX7_goBack 28 = .ok (.aaload, 1) := by decide +kernel
theorem dX7_goBack_29 : decode cX7_goBack 29 = .ok (.iconst 2, 1) := by decide +kernel
theorem dX7_goBack_30 : decode cX7_goBack 30 = .ok (.putfield 103, 3) := by decide +kernel
theorem dX7_goBack_33 : decode cX7_goBack 33 = .ok (.iinc 2 1, 3) := by decide +kernel
theorem dX7_goBack_36 : decode cX7_goBack 36 = .ok (.goto (-34), 3) := by decide +kernel
theorem dX7_goBack_39 : decode cX7_goBack 39 = .ok (.aload_n 0, 1) := by decide +kernel
theorem dX7_goBack_40 : decode cX7_goBack 40 = .ok (.invokevirtual 120, 3) := by decide +kernel
theorem dX7_goBack_43 : decode cX7_goBack 43 = .ok (.iconst 0, 1) := by decide +kernel
theorem dX7_goBack_44 : decode cX7_goBack 44 = .ok (.istore_n 2, 1) := by decide +kernel
theorem dX7_goBack_45 : decode cX7_goBack 45 = .ok (.iload_n 2, 1) := by decide +kernel
theorem dX7_goBack_46 : decode cX7_goBack 46 = .ok (.aload_n 0, 1) := by decide +kernel
theorem dX7_goBack_47 : decode cX7_goBack 47 = .ok (.getfield 36, 3) := by decide +kernel
theorem dX7_goBack_50 : decode cX7_goBack 50 = .ok (.if_icmp .ge 27, 3) := by decide +kernel
theorem dX7_goBack_53 : decode cX7_goBack 53 = .ok (.aload_n 0, 1) := by decide +kernel
theorem dX7_goBack_54 : decode cX7_goBack 54 = .ok (.getfield 19, 3) := by decide +kernel
theorem dX7_goBack_57 : decode cX7_goBack 57 = .ok (.iload_n 2, 1) := by decide +kernel
theorem dX7_goBack_58 : decode cX7_goBack 58 = .ok (.aaload, 1) := by decide +kernel
theorem dX7_goBack_59 : decode cX7_goBack 59 = .ok (.aload_n 1, 1) := by decide +kernel
theorem dX7_goBack_60 : decode cX7_goBack 60 = .ok (.invokevirtual 139, 3) := by decide +kernel
theorem dX7_goBack_63 : decode cX7_goBack 63 = .ok (.ifCond .eq 8, 3) := by decide +kernel
theorem dX7_goBack_66 : decode cX7_goBack 66 = .ok (.aload_n 0, 1) := by decide +kernel
theorem dX7_goBack_67 : decode cX7_goBack 67 = .ok (.iload_n 2, 1) := by decide +kernel
theorem dX7_goBack_68 : decode cX7_goBack 68 = .ok (.invokevirtual 96, 3) := by decide +kernel
theorem dX7_goBack_71 : decode cX7_goBack 71 = .ok (.iinc 2 1, 3) := by decide +kernel
theorem dX7_goBack_74 : decode cX7_goBack 74 = .ok (.goto (-29), 3) := by decide +kernel
theorem dX7_goBack_77 : decode cX7_goBack 77 = .ok (.iconst 0, 1) := by decide +kernel
theorem dX7_goBack_78 : decode cX7_goBack 78 = .ok (.istore_n 2, 1) := by decide +kernel
theorem dX7_goBack_79 : decode cX7_goBack 79 = .ok (.iconst 0, 1) := by decide +kernel
theorem dX7_goBack_80 : decode cX7_goBack 80 = .ok (.istore_n 3, 1) := by decide +kernel
theorem dX7_goBack_81 : decode cX7_goBack 81 = .ok (.iload_n 3, 1) := by decide +kernel
theorem dX7_goBack_82 : decode cX7_goBack 82 = .ok (.aload_n 0, 1) := by decide +kernel
theorem dX7_goBack_83 : decode cX7_goBack 83 = .ok (.getfield 29, 3) := by decide +kernel
theorem dX7_goBack_86 : decode cX7_goBack 86 = .ok (.if_icmp .ge 27, 3) := by decide +kernel
theorem dX7_goBack_89 : decode cX7_goBack 89 = .ok (.aload_n 0, 1) := by decide +kernel
theorem dX7_goBack_90 : decode cX7_goBack 90 = .ok (.getfield 11, 3) := by decide +kernel
theorem dX7_goBack_93 : decode cX7_goBack 93 = .ok (.iload_n 3, 1) := by decide +kernel
theorem dX7_goBack_94 : decode cX7_goBack 94 = .ok (.aaload, 1) := by decide +kernel
theorem dX7_goBack_95 : decode cX7_goBack 95 = .ok (.aload_n 1, 1) := by decide +kernel
theorem dX7_goBack_96 : decode cX7_goBack 96 = .ok (.iload_n 3, 1) := by decide +kernel
theorem dX7_goBack_97 : decode cX7_goBack 97 = .ok (.iaload, 1) := by decide +kernel
theorem dX7_goBack_98 : decode cX7_goBack 98 = .ok (.invokevirtual 142, 3) := by decide +kernel
theorem dX7_goBack_101 : decode cX7_goBack 101 = .ok (.ifCond .eq 6, 3) := by decide +kernel
theorem dX7_goBack_104 : decode cX7_goBack 104 = .ok (.iinc 2 1, 3) := by decide +kernel
theorem dX7_goBack_107 : decode cX7_goBack 107 = .ok (.iinc 3 1, 3) := by decide +kernel
theorem dX7_goBack_110 : decode cX7_goBack 110 = .ok (.goto (-29), 3) := by decide +kernel
theorem dX7_goBack_113 : decode cX7_goBack 113 = .ok (.iload_n 2, 1) := by decide +kernel
theorem dX7_goBack_114 : decode cX7_goBack 114 = .ok (.ireturn, 1) := by decide +kernel
theorem dX7_doDrawn_0 : decode cX7_doDrawn 0 = .ok (.aload_n 0, 1) := by decide +kernel
theorem dX7_doDrawn_1 : decode cX7_doDrawn 1 = .ok (.getfield 29, 3) := by decide +kernel
theorem dX7_doDrawn_4 : decode cX7_doDrawn 4 = .ok (.iconst 2, 1) := by decide +kernel
theorem dX7_doDrawn_5 : decode cX7_doDrawn 5 = .ok (.if_icmp .lt 7, 3) := by decide +kernel
theorem dX7_doDrawn_8 : decode cX7_doDrawn 8 = .ok (.iload_n 1, 1) := by decide +kernel
theorem dX7_doDrawn_9 : decode cX7_doDrawn 9 = .ok (.ifCond .ge 5, 3) := by decide +kernel
theorem dX7_doDrawn_12 : decode cX7_doDrawn 12 = .ok (.iconst 0, 1) := by decide +kernel
theorem dX7_doDrawn_13 : decode cX7_doDrawn 13 = .ok (.ireturn, 1) := by decide +kernel
theorem dX7_doDrawn_14 : decode cX7_doDrawn 14 = .ok (.iload_n 1, 1) := by decide +kernel
theorem dX7_doDrawn_15 : decode cX7_doDrawn 15 = .ok (.iconst 4, 1) := by decide +kernel
theorem dX7_doDrawn_16 : decode cX7_doDrawn 16 = .ok (.idiv, 1) := by decide +kernel
theorem dX7_doDrawn_17 : decode cX7_doDrawn 17 = .ok (.aload_n 0, 1) := by decide +kernel
theorem dX7_doDrawn_18 : decode cX7_doDrawn 18 = .ok (.getfield 29, 3) := by decide +kernel
theorem dX7_doDrawn_21 : decode cX7_doDrawn 21 = .ok (.irem, 1) := by decide +kernel
theorem dX7_doDrawn_22 : decode cX7_doDrawn 22 = .ok (.istore_n 2, 1) := by decide +kernel
theorem dX7_doDrawn_23 : decode cX7_doDrawn 23 = .ok (.iload_n 1, 1) := by decide +kernel
theorem dX7_doDrawn_24 : decode cX7_doDrawn 24 = .ok (.bipush 32, 2) := by decide +kernel
theorem dX7_doDrawn_26 : decode cX7_doDrawn 26 = .ok (.idiv, 1) := by decide +kernel
theorem dX7_doDrawn_27 : decode cX7_doDrawn 27 = .ok (.istore_n 3, 1) := by decide +kernel
theorem dX7_doDrawn_28 : decode cX7_doDrawn 28 = .ok (.iload_n 1, 1) := by decide +kernel
theorem dX7_doDrawn_29 : decode cX7_doDrawn 29 = .ok (.iconst 4, 1) := by decide +kernel
theorem dX7_doDrawn_30 : decode cX7_doDrawn 30 = .ok (.irem, 1) := by decide +kernel
theorem dX7_doDrawn_31 : decode cX7_doDrawn 31 = .ok (.lookupswitch 70 #[(0, 25), (3, 39)], 25) := by decide +kernel
theorem dX7_doDrawn_56 : decode cX7_doDrawn 56 = .ok (.aload_n 0, 1) := by decide +kernel
theorem dX7_doDrawn_57 : decode cX7_doDrawn 57 = .ok (.iload_n 2, 1) := by decide +kernel
theorem dX7_doDrawn_58 : decode cX7_doDrawn 58 = .ok (.invokevirtual 145, 3) := by decide +kernel
theorem dX7_doDrawn_61 : decode cX7_doDrawn 61 = .ok (.ifCond .lt 7, 3) := by decide +kernel
theorem dX7_doDrawn_64 : decode cX7_doDrawn 64 = .ok (.iconst 1, 1) := by decide +kernel
theorem dX7_doDrawn_65 : decode cX7_doDrawn 65 = .ok (.goto 4, 3) := by decide +kernel
theorem dX7_doDrawn_68 : decode cX7_doDrawn 68 = .ok (.iconst 0, 1) := by decide +kernel
theorem dX7_doDrawn_69 : decode cX7_doDrawn 69 = .ok (.ireturn, 1) := by decide +kernel
theorem dX7_doDrawn_70 : decode cX7_doDrawn 70 = .ok (.aload_n 0, 1) := by decide +kernel
theorem dX7_doDrawn_71 : decode cX7_doDrawn 71 = .ok (.getfield 39, 3) := by decide +kernel
theorem dX7_doDrawn_74 : decode cX7_doDrawn 74 = .ok (.ifCond .le 25, 3) := by decide +kernel
theorem dX7_doDrawn_77 : decode cX7_doDrawn 77 = .ok (.aload_n 0, 1) := by decide +kernel
theorem dX7_doDrawn_78 : decode cX7_doDrawn 78 = .ok (.aload_n 0, 1) := by decide +kernel
theorem dX7_doDrawn_79 : decode cX7_doDrawn 79 = .ok (.getfield 23, 3) := by decide +kernel
theorem dX7_doDrawn_82 : decode cX7_doDrawn 82 = .ok (.iload_n 3, 1) := by decide +kernel
theorem dX7_doDrawn_83 : decode cX7_doDrawn 83 = .ok (.aload_n 0, 1) := by decide +kernel
theorem dX7_doDrawn_84 : decode cX7_doDrawn 84 = .ok (.getfield 39, 3) := by decide +kernel
theorem dX7_doDrawn_87 : decode cX7_doDrawn 87 = .ok (.irem, 1) := by decide +kernel
theorem dX7_doDrawn_88 : decode cX7_doDrawn 88 = .ok (.iaload, 1) := by decide +kernel
theorem dX7_doDrawn_89 : decode cX7_doDrawn 89 = .ok (.invokevirtual 147, 3) := by decide +kernel
theorem dX7_doDrawn_92 : decode cX7_doDrawn 92 = .ok (.ifCond .lt 7, 3) := by decide +kernel
theorem dX7_doDrawn_95 : decode cX7_doDrawn 95 = .ok (.iconst 1, 1) := by decide +kernel
theorem dX7_doDrawn_96 : decode cX7_doDrawn 96 = .ok (.goto 4, 3) := by decide +kernel
theorem dX7_doDrawn_99 : decode cX7_doDrawn 99 = .ok (.iconst 0, 1) := by decide +kernel
