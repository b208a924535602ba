theorem dX0_init_0 : decode cX0_init 0 = .ok (.aload_n 0, 1) := by decide +kernel
theorem dX0_init_1 : decode cX0_init 1 = .ok (.invokespecial 3, 3) := by decide +kernel
theorem dX0_init_4 : decode cX0_init 4 = .ok (.aload_n 0, 1) := by decide +kernel
theorem dX0_init_5 : decode cX0_init 5 = .ok (.iconst 5, 1) := by decide +kernel
theorem dX0_init_6 : decode cX0_init 6 = .ok (.newarray .int, 2) := by decide +kernel
theorem dX0_init_8 : decode cX0_init 8 = .ok (.putfield 9, 3) := by decide +kernel
theorem dX0_init_11 : decode cX0_init 11 = .ok (.aload_n 0, 1) := by decide +kernel
theorem dX0_init_12 : decode cX0_init 12 = .ok (.bipush 12, 2) := by decide +kernel
theorem dX0_init_14 : decode cX0_init 14 = .ok (.newarray .int, 2) := by decide +kernel
theorem dX0_init_16 : decode cX0_init 16 = .ok (.putfield 15, 3) := by decide +kernel
theorem dX0_init_19 : decode cX0_init 19 = .ok (.aload_n 0, 1) := by decide +kernel
theorem dX0_init_20 : decode cX0_init 20 = .ok (.bipush 12, 2) := by decide +kernel
theorem dX0_init_22 : decode cX0_init 22 = .ok (.newarray .int, 2) := by decide +kernel
theorem dX0_init_24 : decode cX0_init 24 = .ok (.putfield 18, 3) := by decide +kernel
theorem dX0_init_27 : decode cX0_init 27 = .ok (.aload_n 0, 1) := by decide +kernel
theorem dX0_init_28 : decode cX0_init 28 = .ok (.bipush 12, 2) := by decide +kernel
theorem dX0_init_30 : decode cX0_init 30 = .ok (.newarray .boolean, 2) := by decide +kernel
theorem dX0_init_32 : decode cX0_init 32 = .ok (.putfield 21, 3) := by decide +kernel
theorem dX0_init_35 : decode cX0_init 35 = .ok (.aload_n 0, 1) := by decide +kernel
theorem dX0_init_36 : decode cX0_init 36 = .ok (.bipush 12, 2) := by decide +kernel
theorem dX0_init_38 : decode cX0_init 38 = .ok (.newarray .boolean, 2) := by decide +kernel
theorem dX0_init_40 : decode cX0_init 40 = .ok (.putfield 25, 3) := by decide +kernel
theorem dX0_init_43 : decode cX0_init 43 = .ok (.aload_n 0, 1) := by decide +kernel
theorem dX0_init_44 : decode cX0_init 44 = .ok (.bipush 60, 2) := by decide +kernel
theorem dX0_init_46 : decode cX0_init 46 = .ok (.newarray .int, 2) := by decide +kernel
theorem dX0_init_48 : decode cX0_init 48 = .ok (.putfield 28, 3) := by decide +kernel
theorem dX0_init_51 : decode cX0_init 51 = .ok (.return_, 1) := by decide +kernel
theorem dX0_begin_0 : decode cX0_begin 0 = .ok (.aload_n 0, 1) := by decide +kernel
theorem dX0_begin_1 : decode cX0_begin 1 = .ok (.iconst 0, 1) := by decide +kernel
theorem dX0_begin_2 : decode cX0_begin 2 = .ok (.putfield 31, 3) := by decide +kernel
theorem dX0_begin_5 : decode cX0_begin 5 = .ok (.iconst 0, 1) := by decide +kernel
theorem dX0_begin_6 : decode cX0_begin 6 = .ok (.istore_n 3, 1) := by decide +kernel
theorem dX0_begin_7 : decode cX0_begin 7 = .ok (.iload_n 3, 1) := by decide +kernel
theorem dX0_begin_8 : decode cX0_begin 8 = .ok (.iconst 5, 1) := by decide +kernel
theorem dX0_begin_9 : decode cX0_begin 9 = .ok (.if_icmp .ge 16, 3) := by decide +kernel
theorem dX0_begin_12 : decode cX0_begin 12 = .ok (.aload_n 0, 1) := by decide +kernel
theorem dX0_begin_13 : decode cX0_begin 13 = .ok (.getfield 9, 3) := by decide +kernel
theorem dX0_begin_16 : decode cX0_begin 16 = .ok (.iload_n 3, 1) := by decide +kernel
theorem dX0_begin_17 : decode cX0_begin 17 = .ok (.iconst (-1), 1) := by decide +kernel
theorem dX0_begin_18 : decode cX0_begin 18 = .ok (.iastore, 1) := by decide +kernel
theorem dX0_begin_19 : decode cX0_begin 19 = .ok (.iinc 3 1, 3) := by decide +kernel
theorem dX0_begin_22 : decode cX0_begin 22 = .ok (.goto (-15), 3) := by decide +kernel
theorem dX0_begin_25 : decode cX0_begin 25 = .ok (.aload_n 0, 1) := by decide +kernel
theorem dX0_begin_26 : decode cX0_begin 26 = .ok (.iload_n 1, 1) := by decide +kernel
theorem dX0_begin_27 : decode cX0_begin 27 = .ok (.iconst 0, 1) := by decide +kernel
theorem dX0_begin_28 : decode cX0_begin 28 = .ok (.iconst 0, 1) := by decide +kernel
theorem dX0_begin_29 : decode cX0_begin 29 = .ok (.iload_n 2, 1) := by decide +kernel
theorem dX0_begin_30 : decode cX0_begin 30 = .ok (.invokevirtual 35, 3) := by decide +kernel
theorem dX0_begin_33 : decode cX0_begin 33 = .ok (.return_, 1) := by decide +kernel
theorem dX0_isFull_0 : decode cX0_isFull 0 = .ok (.aload_n 0, 1) := by decide +kernel
theorem dX0_isFull_1 : decode cX0_isFull 1 = .ok (.getfield 31, 3) := by decide +kernel
theorem dX0_isFull_4 : decode cX0_isFull 4 = .ok (.bipush 12, 2) := by decide +kernel
theorem dX0_isFull_6 : decode cX0_isFull 6 = .ok (.if_icmp .lt 7, 3) := by decide +kernel
theorem dX0_isFull_9 : decode cX0_isFull 9 = .ok (.iconst 1, 1) := by decide +kernel
theorem dX0_isFull_10 : decode cX0_isFull 10 = .ok (.goto 4, 3) := by decide +kernel
theorem dX0_isFull_13 : decode cX0_isFull 13 = .ok (.iconst 0, 1) := by decide +kernel
theorem dX0_isFull_14 : decode cX0_isFull 14 = .ok (.ireturn, 1) := by decide +kernel
theorem dX0_keepState_0 : decode cX0_keepState 0 = .ok (.aload_n 0, 1) := by decide +kernel
theorem dX0_keepState_1 : decode cX0_keepState 1 = .ok (.getfield 31, 3) := by decide +kernel
theorem dX0_keepState_4 : decode cX0_keepState 4 = .ok (.bipush 12, 2) := by decide +kernel
theorem dX0_keepState_6 : decode cX0_keepState 6 = .ok (.if_icmp .lt 4, 3) := by decide +kernel
theorem dX0_keepState_9 : decode cX0_keepState 9 = .ok (.return_, 1) := by decide +kernel
theorem dX0_keepState_10 : decode cX0_keepState 10 = .ok (.aload_n 0, 1) := by decide +kernel
theorem dX0_keepState_11 : decode cX0_keepState 11 = .ok (.iload_n 2, 1) := by decide +kernel
theorem dX0_keepState_12 : decode cX0_keepState 12 = .ok (.putfield 39, 3) := by decide +kernel
theorem dX0_keepState_15 : decode cX0_keepState 15 = .ok (.aload_n 0, 1) := by decide +kernel
theorem dX0_keepState_16 : decode cX0_keepState 16 = .ok (.getfield 9, 3) := by decide +kernel
theorem dX0_keepState_19 : decode cX0_keepState 19 = .ok (.iload_n 1, 1) := by decide +kernel
theorem dX0_keepState_20 : decode cX0_keepState 20 = .ok (.aload_n 0, 1) := by decide +kernel
theorem dX0_keepState_21 : decode cX0_keepState 21 = .ok (.getfield 31, 3) := by decide +kernel
theorem dX0_keepState_24 : decode cX0_keepState 24 = .ok (.iastore, 1) := by decide +kernel
theorem dX0_keepState_25 : decode cX0_keepState 25 = .ok (.aload_n 0, 1) := by decide +kernel
theorem dX0_keepState_26 : decode cX0_keepState 26 = .ok (.getfield 15, 3) := by decide +kernel
theorem dX0_keepState_29 : decode cX0_keepState 29 = .ok (.aload_n 0, 1) := by decide +kernel
theorem dX0_keepState_30 : decode cX0_keepState 30 = .ok (.getfield 31, 3) := by decide +kernel
theorem dX0_keepState_33 : decode cX0_keepState 33 = .ok (.iload_n 2, 1) := by decide +kernel
theorem dX0_keepState_34 : decode cX0_keepState 34 = .ok (.iastore, 1) := by decide +kernel
theorem dX0_keepState_35 : decode cX0_keepState 35 = .ok (.aload_n 0, 1) := by decide +kernel
theorem dX0_keepState_36 : decode cX0_keepState 36 = .ok (.getfield 18, 3) := by decide +kernel
theorem dX0_keepState_39 : decode cX0_keepState 39 = .ok (.aload_n 0, 1) := by decide +kernel
theorem dX0_keepState_40 : decode cX0_keepState 40 = .ok (.getfield 31, 3) := by decide +kernel
theorem dX0_keepState_43 : decode cX0_keepState 43 = .ok (.iload 4, 2) := by decide +kernel
theorem dX0_keepState_45 : decode cX0_keepState 45 = .ok (.iastore, 1) := by decide +kernel
theorem dX0_keepState_46 : decode cX0_keepState 46 = .ok (.aload_n 0, 1) := by decide +kernel
theorem dX0_keepState_47 : decode cX0_keepState 47 = .ok (.getfield 21, 3) := by decide +kernel
theorem dX0_keepState_50 : decode cX0_keepState 50 = .ok (.aload_n 0, 1) := by decide +kernel
theorem dX0_keepState_51 : decode cX0_keepState 51 = .ok (.getfield 31, 3) := by decide +kernel
theorem dX0_keepState_54 : decode cX0_keepState 54 = .ok (.iload_n 3, 1) := by decide +kernel
theorem dX0_keepState_55 : decode cX0_keepState 55 = .ok (.bastore, 1) := by decide +kernel
theorem dX0_keepState_56 : decode cX0_keepState 56 = .ok (.aload_n 0, 1) := by decide +kernel
theorem dX0_keepState_57 : decode cX0_keepState 57 = .ok (.getfield 25, 3) := by decide +kernel
theorem dX0_keepState_60 : decode cX0_keepState 60 = .ok (.aload_n 0, 1) := by decide +kernel
theorem dX0_keepState_61 : decode cX0_keepState 61 = .ok (.getfield 31, 3) := by decide +kernel
theorem dX0_keepState_64 : decode cX0_keepState 64 = .ok (.iconst 0, 1) := by decide +kernel
theorem dX0_keepState_65 : decode cX0_keepState 65 = .ok (.bastore, 1) := by decide +kernel
theorem dX0_keepState_66 : decode cX0_keepState 66 = .ok (.aload_n 0, 1) := by decide +kernel
theorem dX0_keepState_67 : decode cX0_keepState 67 = .ok (.getfield 9, 3) := by decide +kernel
theorem dX0_keepState_70 : decode cX0_keepState 70 = .ok (.iconst 0, 1) := by decide +kernel
theorem dX0_keepState_71 : decode cX0_keepState 71 = .ok (.aload_n 0, 1) := by decide +kernel
theorem dX0_keepState_72 : decode cX0_keepState 72 = .ok (.getfield 28, 3) := by decide +kernel
theorem dX0_keepState_75 : decode cX0_keepState 75 = .ok (.aload_n 0, 1) := by decide +kernel
theorem dX0_keepState_76 : decode cX0_keepState 76 = .ok (.getfield 31, 3) := by decide +kernel
theorem dX0_keepState_79 : decode cX0_keepState 79 = .ok (.iconst 5, 1) := by decide +kernel
theorem dX0_keepState_80 : decode cX0_keepState 80 = .ok (.imul, 1) := by decide +kernel
theorem dX0_keepState_81 : decode cX0_keepState 81 = .ok (.iconst 5, 1) := by decide +kernel
theorem dX0_keepState_82 : decode cX0_keepState 82 = .ok (.invokestatic 42, 3) := by decide +kernel
theorem dX0_keepState_85 : decode cX0_keepState 85 = .ok (.aload_n 0, 1) := by decide +kernel
theorem dX0_keepState_86 : decode cX0_keepState 86 = .ok (.dup, 1) := by decide +kernel
theorem dX0_keepState_87 : decode cX0_keepState 87 = .ok (.getfield 31, 3) := by decide +kernel
theorem dX0_keepState_90 : decode cX0_keepState 90 = .ok (.iconst 1, 1) := by decide +kernel
theorem dX0_keepState_91 : decode cX0_keepState 91 = .ok (.iadd, 1) := by decide +kernel
theorem dX0_keepState_92 : decode cX0_keepState 92 = .ok (.putfield 31, 3) := by decide +kernel
theorem dX0_keepState_95 : decode cX0_keepState 95 = .ok (.return_, 1) := by decide +kernel
theorem dX0_learn_0 : decode cX0_learn 0 = .ok (.iconst 0, 1) := by decide +kernel
theorem dX0_learn_1 : decode cX0_learn 1 = .ok (.istore_n 3, 1) := by decide +kernel
theorem dX0_learn_2 : decode cX0_learn 2 = .ok (.iload_n 3, 1) := by decide +kernel
theorem dX0_learn_3 : decode cX0_learn 3 = .ok (.iconst 5, 1) := by decide +kernel
theorem dX0_learn_4 : decode cX0_learn 4 = .ok (.if_icmp .ge 32, 3) := by decide +kernel
theorem dX0_learn_7 : decode cX0_learn 7 = .ok (.iload_n 3, 1) := by decide +kernel
theorem dX0_learn_8 : decode cX0_learn 8 = .ok (.iload_n 1, 1) := by decide +kernel
theorem dX0_learn_9 : decode cX0_learn 9 = .ok (.if_icmp .eq 21, 3) := by decide +kernel
theorem dX0_learn_12 : decode cX0_learn 12 = .ok (.aload_n 0, 1) := by decide +kernel
theorem dX0_learn_13 : decode cX0_learn 13 = .ok (.getfield 9, 3) := by decide +kernel
theorem dX0_learn_16 : decode cX0_learn 16 = .ok (.iload_n 3, 1) := by decide +kernel
theorem dX0_learn_17 : decode cX0_learn 17 = .ok (.aload_n 0, 1) := by decide +kernel
theorem dX0_learn_18 : decode cX0_learn 18 = .ok (.getfield 9, 3) := by decide +kernel
theorem dX0_learn_21 : decode cX0_learn 21 = .ok (.iload_n 3, 1) := by decide +kernel
theorem dX0_learn_22 : decode cX0_learn 22 = .ok (.iaload, 1) := by decide +kernel
theorem dX0_learn_23 : decode cX0_learn 23 = .ok (.aload_n 2, 1) := by decide +kernel
theorem dX0_learn_24 : decode cX0_learn 24 = .ok (.iload_n 3, 1) := by decide +kernel
theorem dX0_learn_25 : decode cX0_learn 25 = .ok (.iaload, 1) := by decide +kernel
theorem dX0_learn_26 : decode cX0_learn 26 = .ok (.invokestatic 48, 3) := by decide +kernel
theorem dX0_learn_29 : decode cX0_learn 29 = .ok (.iastore, 1) := by decide +kernel
theorem dX0_learn_30 : decode cX0_learn 30 = .ok (.iinc 3 1, 3) := by decide +kernel
theorem dX0_learn_33 : decode cX0_learn 33 = .ok (.goto (-31), 3) := by decide +kernel
theorem dX0_learn_36 : decode cX0_learn 36 = .ok (.return_, 1) := by decide +kernel
theorem dX0_wouldLearn_0 : decode cX0_wouldLearn 0 = .ok (.iconst 0, 1) := by decide +kernel
theorem dX0_wouldLearn_1 : decode cX0_wouldLearn 1 = .ok (.istore_n 3, 1) := by decide +kernel
theorem dX0_wouldLearn_2 : decode cX0_wouldLearn 2 = .ok (.iload_n 3, 1) := by decide +kernel
theorem dX0_wouldLearn_3 : decode cX0_wouldLearn 3 = .ok (.iconst 5, 1) := by decide +kernel
theorem dX0_wouldLearn_4 : decode cX0_wouldLearn 4 = .ok (.if_icmp .ge 28, 3) := by decide +kernel
theorem dX0_wouldLearn_7 : decode cX0_wouldLearn 7 = .ok (.iload_n 3, 1) := by decide +kernel
theorem dX0_wouldLearn_8 : decode cX0_wouldLearn 8 = .ok (.iload_n 1, 1) := by decide +kernel
theorem dX0_wouldLearn_9 : decode cX0_wouldLearn 9 = .ok (.if_icmp .eq 17, 3) := by decide +kernel
theorem dX0_wouldLearn_12 : decode cX0_wouldLearn 12 = .ok (.aload_n 2, 1) := by decide +kernel
theorem dX0_wouldLearn_13 : decode cX0_wouldLearn 13 = .ok (.iload_n 3, 1) := by decide +kernel
theorem dX0_wouldLearn_14 : decode cX0_wouldLearn 14 = .ok (.iaload, 1) := by decide +kernel
theorem dX0_wouldLearn_15 : decode cX0_wouldLearn 15 = .ok (.aload_n 0, 1) := by decide +kernel
theorem dX0_wouldLearn_16 : decode cX0_wouldLearn 16 = .ok (.getfield 9, 3) := by decide +kernel
theorem dX0_wouldLearn_19 : decode cX0_wouldLearn 19 = .ok (.iload_n 3, 1) := by decide +kernel
theorem dX0_wouldLearn_20 : decode cX0_wouldLearn 20 = .ok (.iaload, 1) := by decide +kernel
theorem dX0_wouldLearn_21 : decode cX0_wouldLearn 21 = .ok (.if_icmp .le 5, 3) := by decide +kernel
theorem dX0_wouldLearn_24 : decode cX0_wouldLearn 24 = .ok (.iconst 1, 1) := by decide +kernel
theorem dX0_wouldLearn_25 : decode cX0_wouldLearn 25 = .ok (.ireturn, 1) := by decide +kernel
theorem dX0_wouldLearn_26 : decode cX0_wouldLearn 26 = .ok (.iinc 3 1, 3) := by decide +kernel
theorem dX0_wouldLearn_29 : decode cX0_wouldLearn 29 = .ok (.goto (-27), 3) := by decide +kernel
theorem dX0_wouldLearn_32 : decode cX0_wouldLearn 32 = .ok (.iconst 0, 1) := by decide +kernel
theorem dX0_wouldLearn_33 : decode cX0_wouldLearn 33 = .ok (.ireturn, 1) := by decide +kernel
theorem dX0_knownAt_0 : decode cX0_knownAt 0 = .ok (.iload_n 1, 1) := by decide +kernel
theorem dX0_knownAt_1 : decode cX0_knownAt 1 = .ok (.aload_n 0, 1) := by decide +kernel
theorem dX0_knownAt_2 : decode cX0_knownAt 2 = .ok (.getfield 31, 3) := by decide +kernel
theorem dX0_knownAt_5 : decode cX0_knownAt 5 = .ok (.if_icmp .ge 16, 3) := by decide +kernel
theorem dX0_knownAt_8 : decode cX0_knownAt 8 = .ok (.aload_n 0, 1) := by decide +kernel
theorem dX0_knownAt_9 : decode cX0_knownAt 9 = .ok (.getfield 28, 3) := by decide +kernel
theorem dX0_knownAt_12 : decode cX0_knownAt 12 = .ok (.iload_n 1, 1) := by decide +kernel
theorem dX0_knownAt_13 : decode cX0_knownAt 13 = .ok (.iconst 5, 1) := by decide +kernel
theorem dX0_knownAt_14 : decode cX0_knownAt 14 = .ok (.imul, 1) := by decide +kernel
theorem dX0_knownAt_15 : decode cX0_knownAt 15 = .ok (.iload_n 2, 1) := by decide +kernel
theorem dX0_knownAt_16 : decode cX0_knownAt 16 = .ok (.iadd, 1) := by decide +kernel
theorem dX0_knownAt_17 : decode cX0_knownAt 17 = .ok (.iaload, 1) := by decide +kernel
theorem dX0_knownAt_18 : decode cX0_knownAt 18 = .ok (.goto 9, 3) := by decide +kernel
theorem dX0_knownAt_21 : decode cX0_knownAt 21 = .ok (.aload_n 0, 1) := by decide +kernel
theorem dX0_knownAt_22 : decode cX0_knownAt 22 = .ok (.getfield 9, 3) := by decide +kernel
theorem dX0_knownAt_25 : decode cX0_knownAt 25 = .ok (.iload_n 2, 1) := by decide +kernel
theorem dX0_knownAt_26 : decode cX0_knownAt 26 = .ok (.iaload, 1) := by decide +kernel
theorem dX0_knownAt_27 : decode cX0_knownAt 27 = .ok (.ireturn, 1) := by decide +kernel
theorem dX0_goBack_0 : decode cX0_goBack 0 = .ok (.iload_n 1, 1) := by decide +kernel
theorem dX0_goBack_1 : decode cX0_goBack 1 = .ok (.ifCond .lt 11, 3) := by decide +kernel
theorem dX0_goBack_4 : decode cX0_goBack 4 = .ok (.iload_n 1, 1) := by decide +kernel
theorem dX0_goBack_5 : decode cX0_goBack 5 = .ok (.aload_n 0, 1) := by decide +kernel
theorem dX0_goBack_6 : decode cX0_goBack 6 = .ok (.getfield 31, 3) := by decide +kernel
theorem dX0_goBack_9 : decode cX0_goBack 9 = .ok (.if_icmp .lt 5, 3) := by decide +kernel
theorem dX0_goBack_12 : decode cX0_goBack 12 = .ok (.iconst 0, 1) := by decide +kernel
theorem dX0_goBack_13 : decode cX0_goBack 13 = .ok (.ireturn, 1) := by decide +kernel
theorem dX0_goBack_14 : decode cX0_goBack 14 = .ok (.aload_n 0, 1) := by decide +kernel
theorem dX0_goBack_15 : decode cX0_goBack 15 = .ok (.iload_n 1, 1) := by decide +kernel
theorem dX0_goBack_16 : decode cX0_goBack 16 = .ok (.iconst 1, 1) := by decide +kernel
theorem dX0_goBack_17 : decode cX0_goBack 17 = .ok (.iadd, 1) := by decide +kernel
theorem dX0_goBack_18 : decode cX0_goBack 18 = .ok (.putfield 31, 3) := by decide +kernel
theorem dX0_goBack_21 : decode cX0_goBack 21 = .ok (.aload_n 0, 1) := by decide +kernel
theorem dX0_goBack_22 : decode cX0_goBack 22 = .ok (.aload_n 0, 1) := by decide +kernel
theorem dX0_goBack_23 : decode cX0_goBack 23 = .ok (.getfield 15, 3) := by decide +kernel
theorem dX0_goBack_26 : decode cX0_goBack 26 = .ok (.iload_n 1, 1) := by decide +kernel
theorem dX0_goBack_27 : decode cX0_goBack 27 = .ok (.iaload, 1) := by decide +kernel
theorem dX0_goBack_28 : decode cX0_goBack 28 = .ok (.putfield 39, 3) := by decide +kernel
theorem dX0_goBack_31 : decode cX0_goBack 31 = .ok (.aload_n 0, 1) := by decide +kernel
theorem dX0_goBack_32 : decode cX0_goBack 32 = .ok (.getfield 28, 3) := by decide +kernel
theorem dX0_goBack_35 : decode cX0_goBack 35 = .ok (.iload_n 1, 1) := by decide +kernel
theorem dX0_goBack_36 : decode cX0_goBack 36 = .ok (.iconst 5, 1) := by decide +kernel
theorem dX0_goBack_37 : decode cX0_goBack 37 = .ok (.imul, 1) := by decide +kernel
theorem dX0_goBack_38 : decode cX0_goBack 38 = .ok (.aload_n 0, 1) := by decide +kernel
theorem dX0_goBack_39 : decode cX0_goBack 39 = .ok (.getfield 9, 3) := by decide +kernel
theorem dX0_goBack_42 : decode cX0_goBack 42 = .ok (.iconst 0, 1) := by decide +kernel
theorem dX0_goBack_43 : decode cX0_goBack 43 = .ok (.iconst 5, 1) := by decide +kernel
theorem dX0_goBack_44 : decode cX0_goBack 44 = .ok (.invokestatic 42, 3) := by decide +kernel
theorem dX0_goBack_47 : decode cX0_goBack 47 = .ok (.iconst 1, 1) := by decide +kernel
theorem dX0_goBack_48 : decode cX0_goBack 48 = .ok (.ireturn, 1) := by decide +kernel
theorem dX0_free_0 : decode cX0_free 0 = .ok (.iconst 0, 1) := by decide +kernel
theorem dX0_free_1 : decode cX0_free 1 = .ok (.istore_n 2, 1) := by decide +kernel
theorem dX0_free_2 : decode cX0_free 2 = .ok (.iconst 0, 1) := by decide +kernel
theorem dX0_free_3 : decode cX0_free 3 = .ok (.istore_n 3, 1) := by decide +kernel
theorem dX0_free_4 : decode cX0_free 4 = .ok (.iload_n 3, 1) := by decide +kernel
theorem dX0_free_5 : decode cX0_free 5 = .ok (.aload_n 0, 1) := by decide +kernel
theorem dX0_free_6 : decode cX0_free 6 = .ok (.getfield 31, 3) := by decide +kernel
theorem dX0_free_9 : decode cX0_free 9 = .ok (.if_icmp .ge 33, 3) := by decide +kernel
theorem dX0_free_12 : decode cX0_free 12 = .ok (.iload_n 3, 1) := by decide +kernel
theorem dX0_free_13 : decode cX0_free 13 = .ok (.iload_n 1, 1) := by decide +kernel
theorem dX0_free_14 : decode cX0_free 14 = .ok (.if_icmp .ge 28, 3) := by decide +kernel
theorem dX0_free_17 : decode cX0_free 17 = .ok (.aload_n 0, 1) := by decide +kernel
theorem dX0_free_18 : decode cX0_free 18 = .ok (.getfield 25, 3) := by decide +kernel
theorem dX0_free_21 : decode cX0_free 21 = .ok (.iload_n 3, 1) := by decide +kernel
theorem dX0_free_22 : decode cX0_free 22 = .ok (.baload, 1) := by decide +kernel
theorem dX0_free_23 : decode cX0_free 23 = .ok (.ifCond .ne 13, 3) := by decide +kernel
theorem dX0_free_26 : decode cX0_free 26 = .ok (.aload_n 0, 1) := by decide +kernel
theorem dX0_free_27 : decode cX0_free 27 = .ok (.getfield 25, 3) := by decide +kernel
theorem dX0_free_30 : decode cX0_free 30 = .ok (.iload_n 3, 1) := by decide +kernel
theorem dX0_free_31 : decode cX0_free 31 = .ok (.iconst 1, 1) := by decide +kernel
theorem dX0_free_32 : decode cX0_free 32 = .ok (.bastore, 1) := by decide +kernel
theorem dX0_free_33 : decode cX0_free 33 = .ok (.iinc 2 1, 3) := by decide +kernel
theorem dX0_free_36 : decode cX0_free 36 = .ok (.iinc 3 1, 3) := by decide +kernel
theorem dX0_free_39 : decode cX0_free 39 = .ok (.goto (-35), 3) := by decide +kernel
theorem dX0_free_42 : decode cX0_free 42 = .ok (.iload_n 2, 1) := by decide +kernel
theorem dX0_free_43 : decode cX0_free 43 = .ok (.ireturn, 1) := by decide +kernel
theorem dX0_countForced_0 : decode cX0_countForced 0 = .ok (.aload_n 0, 1) := by decide +kernel
theorem dX0_countForced_1 : decode cX0_countForced 1 = .ok (.aload_n 0, 1) := by decide +kernel
theorem dX0_countForced_2 : decode cX0_countForced 2 = .ok (.getfield 21, 3) := by decide +kernel
theorem dX0_countForced_5 : decode cX0_countForced 5 = .ok (.invokevirtual 54, 3) := by decide +kernel
theorem dX0_countForced_8 : decode cX0_countForced 8 = .ok (.ireturn, 1) := by decide +kernel
theorem dX0_countFreed_0 : decode cX0_countFreed 0 = .ok (.aload_n 0, 1) := by decide +kernel
theorem dX0_countFreed_1 : decode cX0_countFreed 1 = .ok (.aload_n 0, 1) := by decide +kernel
theorem dX0_countFreed_2 : decode cX0_countFreed 2 = .ok (.getfield 25, 3) := by decide +kernel
theorem dX0_countFreed_5 : decode cX0_countFreed 5 = .ok (.invokevirtual 54, 3) := by decide +kernel
theorem dX0_countFreed_8 : decode cX0_countFreed 8 = .ok (.ireturn, 1) := by decide +kernel
theorem dX0_countTrue_0 : decode cX0_countTrue 0 = .ok (.iconst 0, 1) := by decide +kernel
theorem dX0_countTrue_1 : decode cX0_countTrue 1 = .ok (.istore_n 2, 1) := by decide +kernel
theorem dX0_countTrue_2 : decode cX0_countTrue 2 = .ok (.iconst 0, 1) := by decide +kernel
theorem dX0_countTrue_3 : decode cX0_countTrue 3 = .ok (.istore_n 3, 1) := by decide +kernel
theorem dX0_countTrue_4 : decode cX0_countTrue 4 = .ok (.iload_n 3, 1) := by decide +kernel
theorem dX0_countTrue_5 : decode cX0_countTrue 5 = .ok (.aload_n 0, 1) := by decide +kernel
theorem dX0_countTrue_6 : decode cX0_countTrue 6 = .ok (.getfield 31, 3) := by decide +kernel
theorem dX0_countTrue_9 : decode cX0_countTrue 9 = .ok (.if_icmp .ge 18, 3) := by decide +kernel
theorem dX0_countTrue_12 : decode cX0_countTrue 12 = .ok (.aload_n 1, 1) := by decide +kernel
theorem dX0_countTrue_13 : decode cX0_countTrue 13 = .ok (.iload_n 3, 1) := by decide +kernel
theorem dX0_countTrue_14 : decode cX0_countTrue 14 = .ok (.baload, 1) := by decide +kernel
theorem dX0_countTrue_15 : decode cX0_countTrue 15 = .ok (.ifCond .eq 6, 3) := by decide +kernel
theorem dX0_countTrue_18 : decode cX0_countTrue 18 = .ok (.iinc 2 1, 3) := by decide +kernel
theorem dX0_countTrue_21 : decode cX0_countTrue 21 = .ok (.iinc 3 1, 3) := by decide +kernel
theorem dX0_countTrue_24 : decode cX0_countTrue 24 = .ok (.goto (-20), 3) := by decide +kernel
theorem dX0_countTrue_27 : decode cX0_countTrue 27 = .ok (.iload_n 2, 1) := by decide +kernel
theorem dX0_countTrue_28 : decode cX0_countTrue 28 = .ok (.ireturn, 1) := by decide +kernel
