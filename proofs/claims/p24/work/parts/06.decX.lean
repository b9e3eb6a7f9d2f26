theorem dX0_init_0 : decode cX0_init 0 = .ok (.aload_n 0, 1) := by decide +kernel
theorem dX0_init_1 : decode cX0_init 1 = .ok (.invokespecial 1, 3) := by decide +kernel
theorem dX0_init_4 : decode cX0_init 4 = .ok (.return_, 1) := by decide +kernel
theorem dX0_tell_0 : decode cX0_tell 0 = .ok (.aload_n 0, 1) := by decide +kernel
theorem dX0_tell_1 : decode cX0_tell 1 = .ok (.iload_n 1, 1) := by decide +kernel
theorem dX0_tell_2 : decode cX0_tell 2 = .ok (.putfield 7, 3) := by decide +kernel
theorem dX0_tell_5 : decode cX0_tell 5 = .ok (.aload_n 0, 1) := by decide +kernel
theorem dX0_tell_6 : decode cX0_tell 6 = .ok (.iload_n 2, 1) := by decide +kernel
theorem dX0_tell_7 : decode cX0_tell 7 = .ok (.putfield 13, 3) := by decide +kernel
theorem dX0_tell_10 : decode cX0_tell 10 = .ok (.aload_n 0, 1) := by decide +kernel
theorem dX0_tell_11 : decode cX0_tell 11 = .ok (.iload_n 3, 1) := by decide +kernel
theorem dX0_tell_12 : decode cX0_tell 12 = .ok (.putfield 16, 3) := by decide +kernel
theorem dX0_tell_15 : decode cX0_tell 15 = .ok (.aload_n 0, 1) := by decide +kernel
theorem dX0_tell_16 : decode cX0_tell 16 = .ok (.iload 4, 2) := by decide +kernel
theorem dX0_tell_18 : decode cX0_tell 18 = .ok (.putfield 19, 3) := by decide +kernel
theorem dX0_tell_21 : decode cX0_tell 21 = .ok (.aload_n 0, 1) := by decide +kernel
theorem dX0_tell_22 : decode cX0_tell 22 = .ok (.iload 5, 2) := by decide +kernel
theorem dX0_tell_24 : decode cX0_tell 24 = .ok (.putfield 22, 3) := by decide +kernel
theorem dX0_tell_27 : decode cX0_tell 27 = .ok (.aload_n 0, 1) := by decide +kernel
theorem dX0_tell_28 : decode cX0_tell 28 = .ok (.iload 6, 2) := by decide +kernel
theorem dX0_tell_30 : decode cX0_tell 30 = .ok (.putfield 25, 3) := by decide +kernel
theorem dX0_tell_33 : decode cX0_tell 33 = .ok (.return_, 1) := by decide +kernel
theorem dX0_copy_0 : decode cX0_copy 0 = .ok (.aload_n 0, 1) := by decide +kernel
theorem dX0_copy_1 : decode cX0_copy 1 = .ok (.aload_n 1, 1) := by decide +kernel
theorem dX0_copy_2 : decode cX0_copy 2 = .ok (.getfield 7, 3) := by decide +kernel
theorem dX0_copy_5 : decode cX0_copy 5 = .ok (.aload_n 1, 1) := by decide +kernel
theorem dX0_copy_6 : decode cX0_copy 6 = .ok (.getfield 13, 3) := by decide +kernel
theorem dX0_copy_9 : decode cX0_copy 9 = .ok (.aload_n 1, 1) := by decide +kernel
theorem dX0_copy_10 : decode cX0_copy 10 = .ok (.getfield 16, 3) := by decide +kernel
theorem dX0_copy_13 : decode cX0_copy 13 = .ok (.aload_n 1, 1) := by decide +kernel
theorem dX0_copy_14 : decode cX0_copy 14 = .ok (.getfield 19, 3) := by decide +kernel
theorem dX0_copy_17 : decode cX0_copy 17 = .ok (.aload_n 1, 1) := by decide +kernel
theorem dX0_copy_18 : decode cX0_copy 18 = .ok (.getfield 22, 3) := by decide +kernel
theorem dX0_copy_21 : decode cX0_copy 21 = .ok (.aload_n 1, 1) := by decide +kernel
theorem dX0_copy_22 : decode cX0_copy 22 = .ok (.getfield 25, 3) := by decide +kernel
theorem dX0_copy_25 : decode cX0_copy 25 = .ok (.invokevirtual 29, 3) := by decide +kernel
theorem dX0_copy_28 : decode cX0_copy 28 = .ok (.return_, 1) := by decide +kernel
theorem dX0_isMarks_0 : decode cX0_isMarks 0 = .ok (.iload_n 1, 1) := by decide +kernel
theorem dX0_isMarks_1 : decode cX0_isMarks 1 = .ok (.aload_n 0, 1) := by decide +kernel
theorem dX0_isMarks_2 : decode cX0_isMarks 2 = .ok (.getfield 13, 3) := by decide +kernel
theorem dX0_isMarks_5 : decode cX0_isMarks 5 = .ok (.iand, 1) := by decide +kernel
theorem dX0_isMarks_6 : decode cX0_isMarks 6 = .ok (.aload_n 0, 1) := by decide +kernel
theorem dX0_isMarks_7 : decode cX0_isMarks 7 = .ok (.getfield 13, 3) := by decide +kernel
theorem dX0_isMarks_10 : decode cX0_isMarks 10 = .ok (.if_icmp .ne 16, 3) := by decide +kernel
theorem dX0_isMarks_13 : decode cX0_isMarks 13 = .ok (.iload_n 1, 1) := by decide +kernel
theorem dX0_isMarks_14 : decode cX0_isMarks 14 = .ok (.aload_n 0, 1) := by decide +kernel
theorem dX0_isMarks_15 : decode cX0_isMarks 15 = .ok (.getfield 16, 3) := by decide +kernel
theorem dX0_isMarks_18 : decode cX0_isMarks 18 = .ok (.iand, 1) := by decide +kernel
theorem dX0_isMarks_19 : decode cX0_isMarks 19 = .ok (.ifCond .ne 7, 3) := by decide +kernel
theorem dX0_isMarks_22 : decode cX0_isMarks 22 = .ok (.iconst 1, 1) := by decide +kernel
theorem dX0_isMarks_23 : decode cX0_isMarks 23 = .ok (.goto 4, 3) := by decide +kernel
theorem dX0_isMarks_26 : decode cX0_isMarks 26 = .ok (.iconst 0, 1) := by decide +kernel
theorem dX0_isMarks_27 : decode cX0_isMarks 27 = .ok (.ireturn, 1) := by decide +kernel
theorem dX1_init_0 : decode cX1_init 0 = .ok (.aload_n 0, 1) := by decide +kernel
theorem dX1_init_1 : decode cX1_init 1 = .ok (.invokespecial 3, 3) := by decide +kernel
theorem dX1_init_4 : decode cX1_init 4 = .ok (.aload_n 0, 1) := by decide +kernel
theorem dX1_init_5 : decode cX1_init 5 = .ok (.bipush 6, 2) := by decide +kernel
theorem dX1_init_7 : decode cX1_init 7 = .ok (.newarray .int, 2) := by decide +kernel
theorem dX1_init_9 : decode cX1_init 9 = .ok (.putfield 9, 3) := by decide +kernel
theorem dX1_init_12 : decode cX1_init 12 = .ok (.aload_n 0, 1) := by decide +kernel
theorem dX1_init_13 : decode cX1_init 13 = .ok (.bipush 6, 2) := by decide +kernel
theorem dX1_init_15 : decode cX1_init 15 = .ok (.newarray .int, 2) := by decide +kernel
theorem dX1_init_17 : decode cX1_init 17 = .ok (.putfield 15, 3) := by decide +kernel
theorem dX1_init_20 : decode cX1_init 20 = .ok (.return_, 1) := by decide +kernel
theorem dX1_tell_0 : decode cX1_tell 0 = .ok (.aload_n 0, 1) := by decide +kernel
theorem dX1_tell_1 : decode cX1_tell 1 = .ok (.iload_n 1, 1) := by decide +kernel
theorem dX1_tell_2 : decode cX1_tell 2 = .ok (.putfield 18, 3) := by decide +kernel
theorem dX1_tell_5 : decode cX1_tell 5 = .ok (.aload_n 0, 1) := by decide +kernel
theorem dX1_tell_6 : decode cX1_tell 6 = .ok (.iload_n 2, 1) := by decide +kernel
theorem dX1_tell_7 : decode cX1_tell 7 = .ok (.putfield 22, 3) := by decide +kernel
theorem dX1_tell_10 : decode cX1_tell 10 = .ok (.aload_n 0, 1) := by decide +kernel
theorem dX1_tell_11 : decode cX1_tell 11 = .ok (.iload_n 3, 1) := by decide +kernel
theorem dX1_tell_12 : decode cX1_tell 12 = .ok (.putfield 25, 3) := by decide +kernel
theorem dX1_tell_15 : decode cX1_tell 15 = .ok (.aload_n 0, 1) := by decide +kernel
theorem dX1_tell_16 : decode cX1_tell 16 = .ok (.iload 4, 2) := by decide +kernel
theorem dX1_tell_18 : decode cX1_tell 18 = .ok (.putfield 28, 3) := by decide +kernel
theorem dX1_tell_21 : decode cX1_tell 21 = .ok (.aload_n 0, 1) := by decide +kernel
theorem dX1_tell_22 : decode cX1_tell 22 = .ok (.iconst 0, 1) := by decide +kernel
theorem dX1_tell_23 : decode cX1_tell 23 = .ok (.putfield 31, 3) := by decide +kernel
theorem dX1_tell_26 : decode cX1_tell 26 = .ok (.return_, 1) := by decide +kernel
theorem dX1_copy_0 : decode cX1_copy 0 = .ok (.aload_n 0, 1) := by decide +kernel
theorem dX1_copy_1 : decode cX1_copy 1 = .ok (.aload_n 1, 1) := by decide +kernel
theorem dX1_copy_2 : decode cX1_copy 2 = .ok (.getfield 18, 3) := by decide +kernel
theorem dX1_copy_5 : decode cX1_copy 5 = .ok (.aload_n 1, 1) := by decide +kernel
theorem dX1_copy_6 : decode cX1_copy 6 = .ok (.getfield 22, 3) := by decide +kernel
theorem dX1_copy_9 : decode cX1_copy 9 = .ok (.aload_n 1, 1) := by decide +kernel
theorem dX1_copy_10 : decode cX1_copy 10 = .ok (.getfield 25, 3) := by decide +kernel
theorem dX1_copy_13 : decode cX1_copy 13 = .ok (.aload_n 1, 1) := by decide +kernel
theorem dX1_copy_14 : decode cX1_copy 14 = .ok (.getfield 28, 3) := by decide +kernel
theorem dX1_copy_17 : decode cX1_copy 17 = .ok (.invokevirtual 35, 3) := by decide +kernel
theorem dX1_copy_20 : decode cX1_copy 20 = .ok (.aload_n 0, 1) := by decide +kernel
theorem dX1_copy_21 : decode cX1_copy 21 = .ok (.aload_n 1, 1) := by decide +kernel
theorem dX1_copy_22 : decode cX1_copy 22 = .ok (.getfield 31, 3) := by decide +kernel
theorem dX1_copy_25 : decode cX1_copy 25 = .ok (.putfield 31, 3) := by decide +kernel
theorem dX1_copy_28 : decode cX1_copy 28 = .ok (.return_, 1) := by decide +kernel
theorem dX1_forget_0 : decode cX1_forget 0 = .ok (.aload_n 0, 1) := by decide +kernel
theorem dX1_forget_1 : decode cX1_forget 1 = .ok (.iconst 0, 1) := by decide +kernel
theorem dX1_forget_2 : decode cX1_forget 2 = .ok (.putfield 39, 3) := by decide +kernel
theorem dX1_forget_5 : decode cX1_forget 5 = .ok (.aload_n 0, 1) := by decide +kernel
theorem dX1_forget_6 : decode cX1_forget 6 = .ok (.iconst 0, 1) := by decide +kernel
theorem dX1_forget_7 : decode cX1_forget 7 = .ok (.putfield 42, 3) := by decide +kernel
theorem dX1_forget_10 : decode cX1_forget 10 = .ok (.aload_n 0, 1) := by decide +kernel
theorem dX1_forget_11 : decode cX1_forget 11 = .ok (.iconst 0, 1) := by decide +kernel
theorem dX1_forget_12 : decode cX1_forget 12 = .ok (.putfield 45, 3) := by decide +kernel
theorem dX1_forget_15 : decode cX1_forget 15 = .ok (.aload_n 0, 1) := by decide +kernel
theorem dX1_forget_16 : decode cX1_forget 16 = .ok (.getfield 9, 3) := by decide +kernel
theorem dX1_forget_19 : decode cX1_forget 19 = .ok (.iconst 0, 1) := by decide +kernel
theorem dX1_forget_20 : decode cX1_forget 20 = .ok (.invokestatic 48, 3) := by decide +kernel
theorem dX1_forget_23 : decode cX1_forget 23 = .ok (.aload_n 0, 1) := by decide +kernel
theorem dX1_forget_24 : decode cX1_forget 24 = .ok (.getfield 15, 3) := by decide +kernel
theorem dX1_forget_27 : decode cX1_forget 27 = .ok (.iconst 0, 1) := by decide +kernel
theorem dX1_forget_28 : decode cX1_forget 28 = .ok (.invokestatic 48, 3) := by decide +kernel
theorem dX1_forget_31 : decode cX1_forget 31 = .ok (.return_, 1) := by decide +kernel
theorem dX1_learn_0 : decode cX1_learn 0 = .ok (.aload_n 2, 1) := by decide +kernel
theorem dX1_learn_1 : decode cX1_learn 1 = .ok (.getfield 54, 3) := by decide +kernel
theorem dX1_learn_4 : decode cX1_learn 4 = .ok (.istore_n 3, 1) := by decide +kernel
theorem dX1_learn_5 : decode cX1_learn 5 = .ok (.aload_n 2, 1) := by decide +kernel
theorem dX1_learn_6 : decode cX1_learn 6 = .ok (.aload_n 0, 1) := by decide +kernel
theorem dX1_learn_7 : decode cX1_learn 7 = .ok (.getfield 18, 3) := by decide +kernel
theorem dX1_learn_10 : decode cX1_learn 10 = .ok (.invokevirtual 57, 3) := by decide +kernel
theorem dX1_learn_13 : decode cX1_learn 13 = .ok (.ifCond .eq 57, 3) := by decide +kernel
theorem dX1_learn_16 : decode cX1_learn 16 = .ok (.aload_n 0, 1) := by decide +kernel
theorem dX1_learn_17 : decode cX1_learn 17 = .ok (.dup, 1) := by decide +kernel
theorem dX1_learn_18 : decode cX1_learn 18 = .ok (.getfield 39, 3) := by decide +kernel
theorem dX1_learn_21 : decode cX1_learn 21 = .ok (.iconst 1, 1) := by decide +kernel
theorem dX1_learn_22 : decode cX1_learn 22 = .ok (.iload_n 1, 1) := by decide +kernel
theorem dX1_learn_23 : decode cX1_learn 23 = .ok (.ishl, 1) := by decide +kernel
theorem dX1_learn_24 : decode cX1_learn 24 = .ok (.ior, 1) := by decide +kernel
theorem dX1_learn_25 : decode cX1_learn 25 = .ok (.putfield 39, 3) := by decide +kernel
theorem dX1_learn_28 : decode cX1_learn 28 = .ok (.aload_n 0, 1) := by decide +kernel
theorem dX1_learn_29 : decode cX1_learn 29 = .ok (.getfield 9, 3) := by decide +kernel
theorem dX1_learn_32 : decode cX1_learn 32 = .ok (.iload_n 3, 1) := by decide +kernel
theorem dX1_learn_33 : decode cX1_learn 33 = .ok (.aload_n 0, 1) := by decide +kernel
theorem dX1_learn_34 : decode cX1_learn 34 = .ok (.getfield 9, 3) := by decide +kernel
theorem dX1_learn_37 : decode cX1_learn 37 = .ok (.iload_n 3, 1) := by decide +kernel
theorem dX1_learn_38 : decode cX1_learn 38 = .ok (.iaload, 1) := by decide +kernel
theorem dX1_learn_39 : decode cX1_learn 39 = .ok (.aload_n 2, 1) := by decide +kernel
theorem dX1_learn_40 : decode cX1_learn 40 = .ok (.getfield 61, 3) := by decide +kernel
theorem dX1_learn_43 : decode cX1_learn 43 = .ok (.invokestatic 64, 3) := by decide +kernel
theorem dX1_learn_46 : decode cX1_learn 46 = .ok (.iastore, 1) := by decide +kernel
theorem dX1_learn_47 : decode cX1_learn 47 = .ok (.aload_n 0, 1) := by decide +kernel
theorem dX1_learn_48 : decode cX1_learn 48 = .ok (.dup, 1) := by decide +kernel
theorem dX1_learn_49 : decode cX1_learn 49 = .ok (.getfield 45, 3) := by decide +kernel
theorem dX1_learn_52 : decode cX1_learn 52 = .ok (.aload_n 2, 1) := by decide +kernel
theorem dX1_learn_53 : decode cX1_learn 53 = .ok (.getfield 70, 3) := by decide +kernel
theorem dX1_learn_56 : decode cX1_learn 56 = .ok (.ifCond .eq 9, 3) := by decide +kernel
theorem dX1_learn_59 : decode cX1_learn 59 = .ok (.iconst 1, 1) := by decide +kernel
theorem dX1_learn_60 : decode cX1_learn 60 = .ok (.iload_n 3, 1) := by decide +kernel
theorem dX1_learn_61 : decode cX1_learn 61 = .ok (.ishl, 1) := by decide +kernel
theorem dX1_learn_62 : decode cX1_learn 62 = .ok (.goto 4, 3) := by decide +kernel
theorem dX1_learn_65 : decode cX1_learn 65 = .ok (.iconst 0, 1) := by decide +kernel
theorem dX1_learn_66 : decode cX1_learn 66 = .ok (.ior, 1) := by decide +kernel
theorem dX1_learn_67 : decode cX1_learn 67 = .ok (.putfield 45, 3) := by decide +kernel
theorem dX1_learn_70 : decode cX1_learn 70 = .ok (.aload_n 2, 1) := by decide +kernel
theorem dX1_learn_71 : decode cX1_learn 71 = .ok (.aload_n 0, 1) := by decide +kernel
theorem dX1_learn_72 : decode cX1_learn 72 = .ok (.getfield 22, 3) := by decide +kernel
theorem dX1_learn_75 : decode cX1_learn 75 = .ok (.invokevirtual 57, 3) := by decide +kernel
theorem dX1_learn_78 : decode cX1_learn 78 = .ok (.ifCond .eq 34, 3) := by decide +kernel
theorem dX1_learn_81 : decode cX1_learn 81 = .ok (.aload_n 0, 1) := by decide +kernel
theorem dX1_learn_82 : decode cX1_learn 82 = .ok (.dup, 1) := by decide +kernel
theorem dX1_learn_83 : decode cX1_learn 83 = .ok (.getfield 42, 3) := by decide +kernel
theorem dX1_learn_86 : decode cX1_learn 86 = .ok (.iconst 1, 1) := by decide +kernel
theorem dX1_learn_87 : decode cX1_learn 87 = .ok (.iload_n 1, 1) := by decide +kernel
theorem dX1_learn_88 : decode cX1_learn 88 = .ok (.ishl, 1) := by decide +kernel
theorem dX1_learn_89 : decode cX1_learn 89 = .ok (.ior, 1) := by decide +kernel
theorem dX1_learn_90 : decode cX1_learn 90 = .ok (.putfield 42, 3) := by decide +kernel
theorem dX1_learn_93 : decode cX1_learn 93 = .ok (.aload_n 0, 1) := by decide +kernel
theorem dX1_learn_94 : decode cX1_learn 94 = .ok (.getfield 15, 3) := by decide +kernel
theorem dX1_learn_97 : decode cX1_learn 97 = .ok (.iload_n 3, 1) := by decide +kernel
theorem dX1_learn_98 : decode cX1_learn 98 = .ok (.aload_n 0, 1) := by decide +kernel
theorem dX1_learn_99 : decode cX1_learn 99 = .ok (.getfield 15, 3) := by decide +kernel
theorem dX1_learn_102 : decode cX1_learn 102 = .ok (.iload_n 3, 1) := by decide +kernel
theorem dX1_learn_103 : decode cX1_learn 103 = .ok (.iaload, 1) := by decide +kernel
theorem dX1_learn_104 : decode cX1_learn 104 = .ok (.aload_n 2, 1) := by decide +kernel
theorem dX1_learn_105 : decode cX1_learn 105 = .ok (.getfield 61, 3) := by decide +kernel
theorem dX1_learn_108 : decode cX1_learn 108 = .ok (.invokestatic 64, 3) := by decide +kernel
theorem dX1_learn_111 : decode cX1_learn 111 = .ok (.iastore, 1) := by decide +kernel
theorem dX1_learn_112 : decode cX1_learn 112 = .ok (.return_, 1) := by decide +kernel
theorem dX1_isDeadly_0 : decode cX1_isDeadly 0 = .ok (.aload_n 0, 1) := by decide +kernel
theorem dX1_isDeadly_1 : decode cX1_isDeadly 1 = .ok (.getfield 45, 3) := by decide +kernel
theorem dX1_isDeadly_4 : decode cX1_isDeadly 4 = .ok (.iload_n 1, 1) := by decide +kernel
theorem dX1_isDeadly_5 : decode cX1_isDeadly 5 = .ok (.ishr, 1) := by decide +kernel
theorem dX1_isDeadly_6 : decode cX1_isDeadly 6 = .ok (.iconst 1, 1) := by decide +kernel
theorem dX1_isDeadly_7 : decode cX1_isDeadly 7 = .ok (.iand, 1) := by decide +kernel
theorem dX1_isDeadly_8 : decode cX1_isDeadly 8 = .ok (.ifCond .eq 7, 3) := by decide +kernel
theorem dX1_isDeadly_11 : decode cX1_isDeadly 11 = .ok (.iconst 1, 1) := by decide +kernel
theorem dX1_isDeadly_12 : decode cX1_isDeadly 12 = .ok (.goto 4, 3) := by decide +kernel
theorem dX1_isDeadly_15 : decode cX1_isDeadly 15 = .ok (.iconst 0, 1) := by decide +kernel
theorem dX1_isDeadly_16 : decode cX1_isDeadly 16 = .ok (.ireturn, 1) := by decide +kernel
theorem dX1_isCrime_0 : decode cX1_isCrime 0 = .ok (.aload_n 0, 1) := by decide +kernel
theorem dX1_isCrime_1 : decode cX1_isCrime 1 = .ok (.getfield 9, 3) := by decide +kernel
theorem dX1_isCrime_4 : decode cX1_isCrime 4 = .ok (.iload_n 1, 1) := by decide +kernel
theorem dX1_isCrime_5 : decode cX1_isCrime 5 = .ok (.iaload, 1) := by decide +kernel
theorem dX1_isCrime_6 : decode cX1_isCrime 6 = .ok (.ifCond .le 7, 3) := by decide +kernel
theorem dX1_isCrime_9 : decode cX1_isCrime 9 = .ok (.iconst 1, 1) := by decide +kernel
theorem dX1_isCrime_10 : decode cX1_isCrime 10 = .ok (.goto 4, 3) := by decide +kernel
theorem dX1_isCrime_13 : decode cX1_isCrime 13 = .ok (.iconst 0, 1) := by decide +kernel
theorem dX1_isCrime_14 : decode cX1_isCrime 14 = .ok (.ireturn, 1) := by decide +kernel
theorem dX2_init_0 : decode cX2_init 0 = .ok (.aload_n 0, 1) := by decide +kernel
theorem dX2_init_1 : decode cX2_init 1 = .ok (.invokespecial 1, 3) := by decide +kernel
theorem dX2_init_4 : decode cX2_init 4 = .ok (.return_, 1) := by decide +kernel
theorem dX2_tell_0 : decode cX2_tell 0 = .ok (.aload_n 0, 1) := by decide +kernel
theorem dX2_tell_1 : decode cX2_tell 1 = .ok (.iload_n 1, 1) := by decide +kernel
theorem dX2_tell_2 : decode cX2_tell 2 = .ok (.putfield 7, 3) := by decide +kernel
theorem dX2_tell_5 : decode cX2_tell 5 = .ok (.aload_n 0, 1) := by decide +kernel
theorem dX2_tell_6 : decode cX2_tell 6 = .ok (.iload_n 2, 1) := by decide +kernel
theorem dX2_tell_7 : decode cX2_tell 7 = .ok (.putfield 13, 3) := by decide +kernel
theorem dX2_tell_10 : decode cX2_tell 10 = .ok (.aload_n 0, 1) := by decide +kernel
theorem dX2_tell_11 : decode cX2_tell 11 = .ok (.iload_n 3, 1) := by decide +kernel
theorem dX2_tell_12 : decode cX2_tell 12 = .ok (.putfield 16, 3) := by decide +kernel
theorem dX2_tell_15 : decode cX2_tell 15 = .ok (.return_, 1) := by decide +kernel
theorem dX2_order_0 : decode cX2_order 0 = .ok (.aload_n 0, 1) := by decide +kernel
theorem dX2_order_1 : decode cX2_order 1 = .ok (.getfield 19, 3) := by decide +kernel
theorem dX2_order_4 : decode cX2_order 4 = .ok (.aload_n 1, 1) := by decide +kernel
theorem dX2_order_5 : decode cX2_order 5 = .ok (.getfield 19, 3) := by decide +kernel
theorem dX2_order_8 : decode cX2_order 8 = .ok (.if_icmp .eq 13, 3) := by decide +kernel
theorem dX2_order_11 : decode cX2_order 11 = .ok (.aload_n 1, 1) := by decide +kernel
theorem dX2_order_12 : decode cX2_order 12 = .ok (.getfield 19, 3) := by decide +kernel
theorem dX2_order_15 : decode cX2_order 15 = .ok (.aload_n 0, 1) := by decide +kernel
theorem dX2_order_16 : decode cX2_order 16 = .ok (.getfield 19, 3) := by decide +kernel
theorem dX2_order_19 : decode cX2_order 19 = .ok (.isub, 1) := by decide +kernel
theorem dX2_order_20 : decode cX2_order 20 = .ok (.ireturn, 1) := by decide +kernel
theorem dX2_order_21 : decode cX2_order 21 = .ok (.aload_n 0, 1) := by decide +kernel
theorem dX2_order_22 : decode cX2_order 22 = .ok (.getfield 22, 3) := by decide +kernel
theorem dX2_order_25 : decode cX2_order 25 = .ok (.aload_n 1, 1) := by decide +kernel
theorem dX2_order_26 : decode cX2_order 26 = .ok (.getfield 22, 3) := by decide +kernel
theorem dX2_order_29 : decode cX2_order 29 = .ok (.if_icmp .eq 16, 3) := by decide +kernel
theorem dX2_order_32 : decode cX2_order 32 = .ok (.aload_n 0, 1) := by decide +kernel
theorem dX2_order_33 : decode cX2_order 33 = .ok (.getfield 22, 3) := by decide +kernel
theorem dX2_order_36 : decode cX2_order 36 = .ok (.ifCond .eq 7, 3) := by decide +kernel
theorem dX2_order_39 : decode cX2_order 39 = .ok (.iconst (-1), 1) := by decide +kernel
theorem dX2_order_40 : decode cX2_order 40 = .ok (.goto 4, 3) := by decide +kernel
theorem dX2_order_43 : decode cX2_order 43 = .ok (.iconst 1, 1) := by decide +kernel
theorem dX2_order_44 : decode cX2_order 44 = .ok (.ireturn, 1) := by decide +kernel
theorem dX2_order_45 : decode cX2_order 45 = .ok (.aload_n 0, 1) := by decide +kernel
theorem dX2_order_46 : decode cX2_order 46 = .ok (.getfield 16, 3) := by decide +kernel
theorem dX2_order_49 : decode cX2_order 49 = .ok (.aload_n 1, 1) := by decide +kernel
theorem dX2_order_50 : decode cX2_order 50 = .ok (.getfield 16, 3) := by decide +kernel
theorem dX2_order_53 : decode cX2_order 53 = .ok (.isub, 1) := by decide +kernel
theorem dX2_order_54 : decode cX2_order 54 = .ok (.ireturn, 1) := by decide +kernel
theorem dX3_init_0 : decode cX3_init 0 = .ok (.aload_n 0, 1) := by decide +kernel
theorem dX3_init_1 : decode cX3_init 1 = .ok (.invokespecial 3, 3) := by decide +kernel
theorem dX3_init_4 : decode cX3_init 4 = .ok (.aload_n 0, 1) := by decide +kernel
theorem dX3_init_5 : decode cX3_init 5 = .ok (.bipush (-4), 2) := by decide +kernel
theorem dX3_init_7 : decode cX3_init 7 = .ok (.putfield 9, 3) := by decide +kernel
theorem dX3_init_10 : decode cX3_init 10 = .ok (.aload_n 0, 1) := by decide +kernel
theorem dX3_init_11 : decode cX3_init 11 = .ok (.sipush 255, 3) := by decide +kernel
theorem dX3_init_14 : decode cX3_init 14 = .ok (.putfield 15, 3) := by decide +kernel
theorem dX3_init_17 : decode cX3_init 17 = .ok (.return_, 1) := by decide +kernel
theorem dX3_sit_0 : decode cX3_sit 0 = .ok (.aload_n 0, 1) := by decide +kernel
theorem dX3_sit_1 : decode cX3_sit 1 = .ok (.iload_n 1, 1) := by decide +kernel
theorem dX3_sit_2 : decode cX3_sit 2 = .ok (.putfield 18, 3) := by decide +kernel
theorem dX3_sit_5 : decode cX3_sit 5 = .ok (.aload_n 0, 1) := by decide +kernel
theorem dX3_sit_6 : decode cX3_sit 6 = .ok (.iconst 0, 1) := by decide +kernel
theorem dX3_sit_7 : decode cX3_sit 7 = .ok (.putfield 21, 3) := by decide +kernel
theorem dX3_sit_10 : decode cX3_sit 10 = .ok (.aload_n 0, 1) := by decide +kernel
theorem dX3_sit_11 : decode cX3_sit 11 = .ok (.bipush (-4), 2) := by decide +kernel
theorem dX3_sit_13 : decode cX3_sit 13 = .ok (.putfield 9, 3) := by decide +kernel
theorem dX3_sit_16 : decode cX3_sit 16 = .ok (.aload_n 0, 1) := by decide +kernel
theorem dX3_sit_17 : decode cX3_sit 17 = .ok (.sipush 255, 3) := by decide +kernel
theorem dX3_sit_20 : decode cX3_sit 20 = .ok (.putfield 15, 3) := by decide +kernel
theorem dX3_sit_23 : decode cX3_sit 23 = .ok (.return_, 1) := by decide +kernel
theorem dX3_stand_0 : decode cX3_stand 0 = .ok (.aload_n 0, 1) := by decide +kernel
theorem dX3_stand_1 : decode cX3_stand 1 = .ok (.aload_n 1, 1) := by decide +kernel
theorem dX3_stand_2 : decode cX3_stand 2 = .ok (.getfield 18, 3) := by decide +kernel
theorem dX3_stand_5 : decode cX3_stand 5 = .ok (.putfield 18, 3) := by decide +kernel
theorem dX3_stand_8 : decode cX3_stand 8 = .ok (.aload_n 0, 1) := by decide +kernel
theorem dX3_stand_9 : decode cX3_stand 9 = .ok (.aload_n 1, 1) := by decide +kernel
theorem dX3_stand_10 : decode cX3_stand 10 = .ok (.getfield 21, 3) := by decide +kernel
theorem dX3_stand_13 : decode cX3_stand 13 = .ok (.putfield 21, 3) := by decide +kernel
theorem dX3_stand_16 : decode cX3_stand 16 = .ok (.aload_n 0, 1) := by decide +kernel
theorem dX3_stand_17 : decode cX3_stand 17 = .ok (.aload_n 1, 1) := by decide +kernel
theorem dX3_stand_18 : decode cX3_stand 18 = .ok (.getfield 9, 3) := by decide +kernel
theorem dX3_stand_21 : decode cX3_stand 21 = .ok (.putfield 9, 3) := by decide +kernel
theorem dX3_stand_24 : decode cX3_stand 24 = .ok (.aload_n 0, 1) := by decide +kernel
theorem dX3_stand_25 : decode cX3_stand 25 = .ok (.aload_n 1, 1) := by decide +kernel
theorem dX3_stand_26 : decode cX3_stand 26 = .ok (.getfield 15, 3) := by decide +kernel
theorem dX3_stand_29 : decode cX3_stand 29 = .ok (.putfield 15, 3) := by decide +kernel
theorem dX3_stand_32 : decode cX3_stand 32 = .ok (.return_, 1) := by decide +kernel
theorem dX3_copy_0 : decode cX3_copy 0 = .ok (.aload_n 0, 1) := by decide +kernel
theorem dX3_copy_1 : decode cX3_copy 1 = .ok (.aload_n 1, 1) := by decide +kernel
theorem dX3_copy_2 : decode cX3_copy 2 = .ok (.invokevirtual 25, 3) := by decide +kernel
theorem dX3_copy_5 : decode cX3_copy 5 = .ok (.aload_n 0, 1) := by decide +kernel
theorem dX3_copy_6 : decode cX3_copy 6 = .ok (.aload_n 1, 1) := by decide +kernel
theorem dX3_copy_7 : decode cX3_copy 7 = .ok (.getfield 29, 3) := by decide +kernel
theorem dX3_copy_10 : decode cX3_copy 10 = .ok (.putfield 29, 3) := by decide +kernel
theorem dX3_copy_13 : decode cX3_copy 13 = .ok (.aload_n 0, 1) := by decide +kernel
theorem dX3_copy_14 : decode cX3_copy 14 = .ok (.aload_n 1, 1) := by decide +kernel
theorem dX3_copy_15 : decode cX3_copy 15 = .ok (.getfield 32, 3) := by decide +kernel
theorem dX3_copy_18 : decode cX3_copy 18 = .ok (.putfield 32, 3) := by decide +kernel
theorem dX3_copy_21 : decode cX3_copy 21 = .ok (.aload_n 0, 1) := by decide +kernel
theorem dX3_copy_22 : decode cX3_copy 22 = .ok (.aload_n 1, 1) := by decide +kernel
theorem dX3_copy_23 : decode cX3_copy 23 = .ok (.getfield 35, 3) := by decide +kernel
theorem dX3_copy_26 : decode cX3_copy 26 = .ok (.putfield 35, 3) := by decide +kernel
theorem dX3_copy_29 : decode cX3_copy 29 = .ok (.return_, 1) := by decide +kernel
theorem dX3_goesBy_0 : decode cX3_goesBy 0 = .ok (.aload_n 1, 1) := by decide +kernel
theorem dX3_goesBy_1 : decode cX3_goesBy 1 = .ok (.getfield 38, 3) := by decide +kernel
theorem dX3_goesBy_4 : decode cX3_goesBy 4 = .ok (.aload_n 0, 1) := by decide +kernel
theorem dX3_goesBy_5 : decode cX3_goesBy 5 = .ok (.getfield 18, 3) := by decide +kernel
theorem dX3_goesBy_8 : decode cX3_goesBy 8 = .ok (.if_icmp .ne 23, 3) := by decide +kernel
theorem dX3_goesBy_11 : decode cX3_goesBy 11 = .ok (.aload_n 0, 1) := by decide +kernel
theorem dX3_goesBy_12 : decode cX3_goesBy 12 = .ok (.getfield 9, 3) := by decide +kernel
theorem dX3_goesBy_15 : decode cX3_goesBy 15 = .ok (.bipush (-4), 2) := by decide +kernel
theorem dX3_goesBy_17 : decode cX3_goesBy 17 = .ok (.if_icmp .eq 16, 3) := by decide +kernel
theorem dX3_goesBy_20 : decode cX3_goesBy 20 = .ok (.aload_n 0, 1) := by decide +kernel
theorem dX3_goesBy_21 : decode cX3_goesBy 21 = .ok (.getfield 9, 3) := by decide +kernel
theorem dX3_goesBy_24 : decode cX3_goesBy 24 = .ok (.aload_n 1, 1) := by decide +kernel
theorem dX3_goesBy_25 : decode cX3_goesBy 25 = .ok (.getfield 43, 3) := by decide +kernel
theorem dX3_goesBy_28 : decode cX3_goesBy 28 = .ok (.if_icmp .eq 5, 3) := by decide +kernel
theorem dX3_goesBy_31 : decode cX3_goesBy 31 = .ok (.iconst 0, 1) := by decide +kernel
theorem dX3_goesBy_32 : decode cX3_goesBy 32 = .ok (.ireturn, 1) := by decide +kernel
theorem dX3_goesBy_33 : decode cX3_goesBy 33 = .ok (.aload_n 1, 1) := by decide +kernel
theorem dX3_goesBy_34 : decode cX3_goesBy 34 = .ok (.getfield 46, 3) := by decide +kernel
theorem dX3_goesBy_37 : decode cX3_goesBy 37 = .ok (.aload_n 0, 1) := by decide +kernel
theorem dX3_goesBy_38 : decode cX3_goesBy 38 = .ok (.getfield 15, 3) := by decide +kernel
theorem dX3_goesBy_41 : decode cX3_goesBy 41 = .ok (.iand, 1) := by decide +kernel
theorem dX3_goesBy_42 : decode cX3_goesBy 42 = .ok (.istore_n 2, 1) := by decide +kernel
theorem dX3_goesBy_43 : decode cX3_goesBy 43 = .ok (.aload_n 0, 1) := by decide +kernel
theorem dX3_goesBy_44 : decode cX3_goesBy 44 = .ok (.getfield 21, 3) := by decide +kernel
theorem dX3_goesBy_47 : decode cX3_goesBy 47 = .ok (.ifCond .eq 22, 3) := by decide +kernel
theorem dX3_goesBy_50 : decode cX3_goesBy 50 = .ok (.aload_n 1, 1) := by decide +kernel
theorem dX3_goesBy_51 : decode cX3_goesBy 51 = .ok (.iconst 1, 1) := by decide +kernel
theorem dX3_goesBy_52 : decode cX3_goesBy 52 = .ok (.invokevirtual 49, 3) := by decide +kernel
theorem dX3_goesBy_55 : decode cX3_goesBy 55 = .ok (.ifCond .ne 14, 3) := by decide +kernel
theorem dX3_goesBy_58 : decode cX3_goesBy 58 = .ok (.iload_n 2, 1) := by decide +kernel
theorem dX3_goesBy_59 : decode cX3_goesBy 59 = .ok (.aload_n 1, 1) := by decide +kernel
theorem dX3_goesBy_60 : decode cX3_goesBy 60 = .ok (.getfield 53, 3) := by decide +kernel
theorem dX3_goesBy_63 : decode cX3_goesBy 63 = .ok (.iconst (-1), 1) := by decide +kernel
theorem dX3_goesBy_64 : decode cX3_goesBy 64 = .ok (.ixor, 1) := by decide +kernel
theorem dX3_goesBy_65 : decode cX3_goesBy 65 = .ok (.iand, 1) := by decide +kernel
theorem dX3_goesBy_66 : decode cX3_goesBy 66 = .ok (.goto 4, 3) := by decide +kernel
theorem dX3_goesBy_69 : decode cX3_goesBy 69 = .ok (.iload_n 2, 1) := by decide +kernel
theorem dX3_goesBy_70 : decode cX3_goesBy 70 = .ok (.ireturn, 1) := by decide +kernel
theorem dX3_go_0 : decode cX3_go 0 = .ok (.aload_n 0, 1) := by decide +kernel
theorem dX3_go_1 : decode cX3_go 1 = .ok (.aload_n 1, 1) := by decide +kernel
theorem dX3_go_2 : decode cX3_go 2 = .ok (.getfield 43, 3) := by decide +kernel
theorem dX3_go_5 : decode cX3_go 5 = .ok (.putfield 18, 3) := by decide +kernel
theorem dX3_go_8 : decode cX3_go 8 = .ok (.aload_n 0, 1) := by decide +kernel
theorem dX3_go_9 : decode cX3_go 9 = .ok (.aload_n 1, 1) := by decide +kernel
theorem dX3_go_10 : decode cX3_go 10 = .ok (.iconst 1, 1) := by decide +kernel
theorem dX3_go_11 : decode cX3_go 11 = .ok (.invokevirtual 49, 3) := by decide +kernel
theorem dX3_go_14 : decode cX3_go 14 = .ok (.putfield 21, 3) := by decide +kernel
theorem dX3_go_17 : decode cX3_go 17 = .ok (.aload_n 0, 1) := by decide +kernel
theorem dX3_go_18 : decode cX3_go 18 = .ok (.aload_n 1, 1) := by decide +kernel
theorem dX3_go_19 : decode cX3_go 19 = .ok (.iconst 4, 1) := by decide +kernel
theorem dX3_go_20 : decode cX3_go 20 = .ok (.invokevirtual 49, 3) := by decide +kernel
theorem dX3_go_23 : decode cX3_go 23 = .ok (.ifCond .eq 10, 3) := by decide +kernel
theorem dX3_go_26 : decode cX3_go 26 = .ok (.aload_n 1, 1) := by decide +kernel
theorem dX3_go_27 : decode cX3_go 27 = .ok (.getfield 38, 3) := by decide +kernel
theorem dX3_go_30 : decode cX3_go 30 = .ok (.goto 5, 3) := by decide +kernel
theorem dX3_go_33 : decode cX3_go 33 = .ok (.bipush (-4), 2) := by decide +kernel
theorem dX3_go_35 : decode cX3_go 35 = .ok (.putfield 9, 3) := by decide +kernel
theorem dX3_go_38 : decode cX3_go 38 = .ok (.aload_n 0, 1) := by decide +kernel
theorem dX3_go_39 : decode cX3_go 39 = .ok (.aload_n 1, 1) := by decide +kernel
theorem dX3_go_40 : decode cX3_go 40 = .ok (.iconst 2, 1) := by decide +kernel
theorem dX3_go_41 : decode cX3_go 41 = .ok (.invokevirtual 49, 3) := by decide +kernel
theorem dX3_go_44 : decode cX3_go 44 = .ok (.ifCond .eq 7, 3) := by decide +kernel
theorem dX3_go_47 : decode cX3_go 47 = .ok (.iload_n 2, 1) := by decide +kernel
theorem dX3_go_48 : decode cX3_go 48 = .ok (.goto 6, 3) := by decide +kernel
theorem dX3_go_51 : decode cX3_go 51 = .ok (.sipush 255, 3) := by decide +kernel
theorem dX3_go_54 : decode cX3_go 54 = .ok (.putfield 15, 3) := by decide +kernel
theorem dX3_go_57 : decode cX3_go 57 = .ok (.return_, 1) := by decide +kernel
theorem dX4_init_0 : decode cX4_init 0 = .ok (.aload_n 0, 1) := by decide +kernel
theorem dX4_init_1 : decode cX4_init 1 = .ok (.invokespecial 3, 3) := by decide +kernel
theorem dX4_init_4 : decode cX4_init 4 = .ok (.return_, 1) := by decide +kernel
theorem dX4_lead_0 : decode cX4_lead 0 = .ok (.aload_n 0, 1) := by decide +kernel
theorem dX4_lead_1 : decode cX4_lead 1 = .ok (.iload_n 1, 1) := by decide +kernel
theorem dX4_lead_2 : decode cX4_lead 2 = .ok (.putfield 9, 3) := by decide +kernel
theorem dX4_lead_5 : decode cX4_lead 5 = .ok (.aload_n 0, 1) := by decide +kernel
theorem dX4_lead_6 : decode cX4_lead 6 = .ok (.iload_n 2, 1) := by decide +kernel
theorem dX4_lead_7 : decode cX4_lead 7 = .ok (.putfield 15, 3) := by decide +kernel
theorem dX4_lead_10 : decode cX4_lead 10 = .ok (.return_, 1) := by decide +kernel
theorem dX4_become_0 : decode cX4_become 0 = .ok (.aload_n 0, 1) := by decide +kernel
theorem dX4_become_1 : decode cX4_become 1 = .ok (.iload_n 1, 1) := by decide +kernel
theorem dX4_become_2 : decode cX4_become 2 = .ok (.putfield 18, 3) := by decide +kernel
theorem dX4_become_5 : decode cX4_become 5 = .ok (.aload_n 0, 1) := by decide +kernel
theorem dX4_become_6 : decode cX4_become 6 = .ok (.iload_n 2, 1) := by decide +kernel
theorem dX4_become_7 : decode cX4_become 7 = .ok (.putfield 21, 3) := by decide +kernel
theorem dX4_become_10 : decode cX4_become 10 = .ok (.aload_n 0, 1) := by decide +kernel
theorem dX4_become_11 : decode cX4_become 11 = .ok (.iload_n 3, 1) := by decide +kernel
theorem dX4_become_12 : decode cX4_become 12 = .ok (.putfield 24, 3) := by decide +kernel
theorem dX4_become_15 : decode cX4_become 15 = .ok (.return_, 1) := by decide +kernel
theorem dX4_rule_0 : decode cX4_rule 0 = .ok (.aload_n 0, 1) := by decide +kernel
theorem dX4_rule_1 : decode cX4_rule 1 = .ok (.iload_n 1, 1) := by decide +kernel
theorem dX4_rule_2 : decode cX4_rule 2 = .ok (.putfield 27, 3) := by decide +kernel
theorem dX4_rule_5 : decode cX4_rule 5 = .ok (.aload_n 0, 1) := by decide +kernel
theorem dX4_rule_6 : decode cX4_rule 6 = .ok (.iload_n 2, 1) := by decide +kernel
theorem dX4_rule_7 : decode cX4_rule 7 = .ok (.putfield 30, 3) := by decide +kernel
theorem dX4_rule_10 : decode cX4_rule 10 = .ok (.aload_n 0, 1) := by decide +kernel
theorem dX4_rule_11 : decode cX4_rule 11 = .ok (.iload_n 3, 1) := by decide +kernel
theorem dX4_rule_12 : decode cX4_rule 12 = .ok (.putfield 33, 3) := by decide +kernel
theorem dX4_rule_15 : decode cX4_rule 15 = .ok (.return_, 1) := by decide +kernel
theorem dX4_copy_0 : decode cX4_copy 0 = .ok (.aload_n 0, 1) := by decide +kernel
theorem dX4_copy_1 : decode cX4_copy 1 = .ok (.aload_n 1, 1) := by decide +kernel
theorem dX4_copy_2 : decode cX4_copy 2 = .ok (.getfield 9, 3) := by decide +kernel
theorem dX4_copy_5 : decode cX4_copy 5 = .ok (.aload_n 1, 1) := by decide +kernel
theorem dX4_copy_6 : decode cX4_copy 6 = .ok (.getfield 15, 3) := by decide +kernel
theorem dX4_copy_9 : decode cX4_copy 9 = .ok (.invokevirtual 36, 3) := by decide +kernel
theorem dX4_copy_12 : decode cX4_copy 12 = .ok (.aload_n 0, 1) := by decide +kernel
theorem dX4_copy_13 : decode cX4_copy 13 = .ok (.aload_n 1, 1) := by decide +kernel
theorem dX4_copy_14 : decode cX4_copy 14 = .ok (.getfield 18, 3) := by decide +kernel
theorem dX4_copy_17 : decode cX4_copy 17 = .ok (.aload_n 1, 1) := by decide +kernel
theorem dX4_copy_18 : decode cX4_copy 18 = .ok (.getfield 21, 3) := by decide +kernel
theorem dX4_copy_21 : decode cX4_copy 21 = .ok (.aload_n 1, 1) := by decide +kernel
theorem dX4_copy_22 : decode cX4_copy 22 = .ok (.getfield 24, 3) := by decide +kernel
theorem dX4_copy_25 : decode cX4_copy 25 = .ok (.invokevirtual 40, 3) := by decide +kernel
theorem dX4_copy_28 : decode cX4_copy 28 = .ok (.aload_n 0, 1) := by decide +kernel
theorem dX4_copy_29 : decode cX4_copy 29 = .ok (.aload_n 1, 1) := by decide +kernel
theorem dX4_copy_30 : decode cX4_copy 30 = .ok (.getfield 27, 3) := by decide +kernel
theorem dX4_copy_33 : decode cX4_copy 33 = .ok (.aload_n 1, 1) := by decide +kernel
theorem dX4_copy_34 : decode cX4_copy 34 = .ok (.getfield 30, 3) := by decide +kernel
theorem dX4_copy_37 : decode cX4_copy 37 = .ok (.aload_n 1, 1) := by decide +kernel
theorem dX4_copy_38 : decode cX4_copy 38 = .ok (.getfield 33, 3) := by decide +kernel
theorem dX4_copy_41 : decode cX4_copy 41 = .ok (.invokevirtual 44, 3) := by decide +kernel
theorem dX4_copy_44 : decode cX4_copy 44 = .ok (.return_, 1) := by decide +kernel
theorem dX4_pledges_0 : decode cX4_pledges 0 = .ok (.aload_n 0, 1) := by decide +kernel
theorem dX4_pledges_1 : decode cX4_pledges 1 = .ok (.getfield 33, 3) := by decide +kernel
theorem dX4_pledges_4 : decode cX4_pledges 4 = .ok (.iload_n 1, 1) := by decide +kernel
theorem dX4_pledges_5 : decode cX4_pledges 5 = .ok (.iand, 1) := by decide +kernel
theorem dX4_pledges_6 : decode cX4_pledges 6 = .ok (.ifCond .eq 7, 3) := by decide +kernel
theorem dX4_pledges_9 : decode cX4_pledges 9 = .ok (.iconst 1, 1) := by decide +kernel
theorem dX4_pledges_10 : decode cX4_pledges 10 = .ok (.goto 4, 3) := by decide +kernel
theorem dX4_pledges_13 : decode cX4_pledges 13 = .ok (.iconst 0, 1) := by decide +kernel
theorem dX4_pledges_14 : decode cX4_pledges 14 = .ok (.ireturn, 1) := by decide +kernel
theorem dX4_isFor_0 : decode cX4_isFor 0 = .ok (.aload_n 1, 1) := by decide +kernel
theorem dX4_isFor_1 : decode cX4_isFor 1 = .ok (.getfield 47, 3) := by decide +kernel
theorem dX4_isFor_4 : decode cX4_isFor 4 = .ok (.aload_n 0, 1) := by decide +kernel
theorem dX4_isFor_5 : decode cX4_isFor 5 = .ok (.getfield 9, 3) := by decide +kernel
theorem dX4_isFor_8 : decode cX4_isFor 8 = .ok (.iaload, 1) := by decide +kernel
theorem dX4_isFor_9 : decode cX4_isFor 9 = .ok (.aload_n 0, 1) := by decide +kernel
theorem dX4_isFor_10 : decode cX4_isFor 10 = .ok (.getfield 21, 3) := by decide +kernel
theorem dX4_isFor_13 : decode cX4_isFor 13 = .ok (.if_icmp .lt 19, 3) := by decide +kernel
theorem dX4_isFor_16 : decode cX4_isFor 16 = .ok (.aload_n 1, 1) := by decide +kernel
theorem dX4_isFor_17 : decode cX4_isFor 17 = .ok (.getfield 53, 3) := by decide +kernel
theorem dX4_isFor_20 : decode cX4_isFor 20 = .ok (.aload_n 0, 1) := by decide +kernel
theorem dX4_isFor_21 : decode cX4_isFor 21 = .ok (.getfield 15, 3) := by decide +kernel
theorem dX4_isFor_24 : decode cX4_isFor 24 = .ok (.iaload, 1) := by decide +kernel
theorem dX4_isFor_25 : decode cX4_isFor 25 = .ok (.aload_n 0, 1) := by decide +kernel
theorem dX4_isFor_26 : decode cX4_isFor 26 = .ok (.getfield 21, 3) := by decide +kernel
theorem dX4_isFor_29 : decode cX4_isFor 29 = .ok (.if_icmp .ge 5, 3) := by decide +kernel
theorem dX4_isFor_32 : decode cX4_isFor 32 = .ok (.iconst 0, 1) := by decide +kernel
theorem dX4_isFor_33 : decode cX4_isFor 33 = .ok (.ireturn, 1) := by decide +kernel
theorem dX4_isFor_34 : decode cX4_isFor 34 = .ok (.aload_n 0, 1) := by decide +kernel
theorem dX4_isFor_35 : decode cX4_isFor 35 = .ok (.getfield 18, 3) := by decide +kernel
theorem dX4_isFor_38 : decode cX4_isFor 38 = .ok (.lookupswitch 64 #[(1, 26), (2, 44)], 26) := by decide +kernel
theorem dX4_isFor_64 : decode cX4_isFor 64 = .ok (.aload_n 1, 1) := by decide +kernel
theorem dX4_isFor_65 : decode cX4_isFor 65 = .ok (.getfield 56, 3) := by decide +kernel
theorem dX4_isFor_68 : decode cX4_isFor 68 = .ok (.aload_n 0, 1) := by decide +kernel
theorem dX4_isFor_69 : decode cX4_isFor 69 = .ok (.getfield 24, 3) := by decide +kernel
theorem dX4_isFor_72 : decode cX4_isFor 72 = .ok (.iand, 1) := by decide +kernel
theorem dX4_isFor_73 : decode cX4_isFor 73 = .ok (.ifCond .eq 7, 3) := by decide +kernel
theorem dX4_isFor_76 : decode cX4_isFor 76 = .ok (.iconst 1, 1) := by decide +kernel
theorem dX4_isFor_77 : decode cX4_isFor 77 = .ok (.goto 4, 3) := by decide +kernel
theorem dX4_isFor_80 : decode cX4_isFor 80 = .ok (.iconst 0, 1) := by decide +kernel
theorem dX4_isFor_81 : decode cX4_isFor 81 = .ok (.ireturn, 1) := by decide +kernel
theorem dX4_isFor_82 : decode cX4_isFor 82 = .ok (.aload_n 1, 1) := by decide +kernel
theorem dX4_isFor_83 : decode cX4_isFor 83 = .ok (.getfield 59, 3) := by decide +kernel
theorem dX4_isFor_86 : decode cX4_isFor 86 = .ok (.aload_n 1, 1) := by decide +kernel
theorem dX4_isFor_87 : decode cX4_isFor 87 = .ok (.getfield 62, 3) := by decide +kernel
theorem dX4_isFor_90 : decode cX4_isFor 90 = .ok (.iconst (-1), 1) := by decide +kernel
theorem dX4_isFor_91 : decode cX4_isFor 91 = .ok (.ixor, 1) := by decide +kernel
theorem dX4_isFor_92 : decode cX4_isFor 92 = .ok (.iand, 1) := by decide +kernel
theorem dX4_isFor_93 : decode cX4_isFor 93 = .ok (.ifCond .ne 7, 3) := by decide +kernel
theorem dX4_isFor_96 : decode cX4_isFor 96 = .ok (.iconst 1, 1) := by decide +kernel
theorem dX4_isFor_97 : decode cX4_isFor 97 = .ok (.goto 4, 3) := by decide +kernel
theorem dX4_isFor_100 : decode cX4_isFor 100 = .ok (.iconst 0, 1) := by decide +kernel
theorem dX4_isFor_101 : decode cX4_isFor 101 = .ok (.ireturn, 1) := by decide +kernel
theorem dX4_isFor_102 : decode cX4_isFor 102 = .ok (.iconst 1, 1) := by decide +kernel
theorem dX4_isFor_103 : decode cX4_isFor 103 = .ok (.ireturn, 1) := by decide +kernel
theorem dX5_init_0 : decode cX5_init 0 = .ok (.aload_n 0, 1) := by decide +kernel
theorem dX5_init_1 : decode cX5_init 1 = .ok (.invokespecial 3, 3) := by decide +kernel
theorem dX5_init_4 : decode cX5_init 4 = .ok (.aload_n 0, 1) := by decide +kernel
theorem dX5_init_5 : decode cX5_init 5 = .ok (.new 9, 3) := by decide +kernel
theorem dX5_init_8 : decode cX5_init 8 = .ok (.dup, 1) := by decide +kernel
theorem dX5_init_9 : decode cX5_init 9 = .ok (.invokespecial 11, 3) := by decide +kernel
theorem dX5_init_12 : decode cX5_init 12 = .ok (.putfield 12, 3) := by decide +kernel
theorem dX5_init_15 : decode cX5_init 15 = .ok (.aload_n 0, 1) := by decide +kernel
theorem dX5_init_16 : decode cX5_init 16 = .ok (.sipush 3072, 3) := by decide +kernel
theorem dX5_init_19 : decode cX5_init 19 = .ok (.newarray .int, 2) := by decide +kernel
theorem dX5_init_21 : decode cX5_init 21 = .ok (.putfield 18, 3) := by decide +kernel
theorem dX5_init_24 : decode cX5_init 24 = .ok (.aload_n 0, 1) := by decide +kernel
theorem dX5_init_25 : decode cX5_init 25 = .ok (.sipush 3073, 3) := by decide +kernel
theorem dX5_init_28 : decode cX5_init 28 = .ok (.newarray .int, 2) := by decide +kernel
theorem dX5_init_30 : decode cX5_init 30 = .ok (.putfield 22, 3) := by decide +kernel
theorem dX5_init_33 : decode cX5_init 33 = .ok (.aload_n 0, 1) := by decide +kernel
theorem dX5_init_34 : decode cX5_init 34 = .ok (.sipush 3073, 3) := by decide +kernel
theorem dX5_init_37 : decode cX5_init 37 = .ok (.newarray .int, 2) := by decide +kernel
theorem dX5_init_39 : decode cX5_init 39 = .ok (.putfield 25, 3) := by decide +kernel
theorem dX5_init_42 : decode cX5_init 42 = .ok (.aload_n 0, 1) := by decide +kernel
theorem dX5_init_43 : decode cX5_init 43 = .ok (.bipush 12, 2) := by decide +kernel
theorem dX5_init_45 : decode cX5_init 45 = .ok (.newarray .int, 2) := by decide +kernel
theorem dX5_init_47 : decode cX5_init 47 = .ok (.putfield 28, 3) := by decide +kernel
theorem dX5_init_50 : decode cX5_init 50 = .ok (.aload_n 0, 1) := by decide +kernel
theorem dX5_init_51 : decode cX5_init 51 = .ok (.aload_n 1, 1) := by decide +kernel
theorem dX5_init_52 : decode cX5_init 52 = .ok (.putfield 31, 3) := by decide +kernel
theorem dX5_init_55 : decode cX5_init 55 = .ok (.return_, 1) := by decide +kernel
theorem dX5_find_0 : decode cX5_find 0 = .ok (.aload_n 0, 1) := by decide +kernel
theorem dX5_find_1 : decode cX5_find 1 = .ok (.invokevirtual 35, 3) := by decide +kernel
theorem dX5_find_4 : decode cX5_find 4 = .ok (.iconst 0, 1) := by decide +kernel
theorem dX5_find_5 : decode cX5_find 5 = .ok (.istore_n 3, 1) := by decide +kernel
theorem dX5_find_6 : decode cX5_find 6 = .ok (.iload_n 3, 1) := by decide +kernel
theorem dX5_find_7 : decode cX5_find 7 = .ok (.aload_n 0, 1) := by decide +kernel
theorem dX5_find_8 : decode cX5_find 8 = .ok (.getfield 22, 3) := by decide +kernel
theorem dX5_find_11 : decode cX5_find 11 = .ok (.arraylength, 1) := by decide +kernel
theorem dX5_find_12 : decode cX5_find 12 = .ok (.if_icmp .ge 58, 3) := by decide +kernel
theorem dX5_find_15 : decode cX5_find 15 = .ok (.iload_n 3, 1) := by decide +kernel
theorem dX5_find_16 : decode cX5_find 16 = .ok (.aload_n 0, 1) := by decide +kernel
theorem dX5_find_17 : decode cX5_find 17 = .ok (.getfield 38, 3) := by decide +kernel
theorem dX5_find_20 : decode cX5_find 20 = .ok (.if_icmp .ge 50, 3) := by decide +kernel
theorem dX5_find_23 : decode cX5_find 23 = .ok (.aload_n 0, 1) := by decide +kernel
theorem dX5_find_24 : decode cX5_find 24 = .ok (.iload_n 3, 1) := by decide +kernel
theorem dX5_find_25 : decode cX5_find 25 = .ok (.invokevirtual 42, 3) := by decide +kernel
theorem dX5_find_28 : decode cX5_find 28 = .ok (.aload_n 0, 1) := by decide +kernel
theorem dX5_find_29 : decode cX5_find 29 = .ok (.getfield 12, 3) := by decide +kernel
theorem dX5_find_32 : decode cX5_find 32 = .ok (.getfield 46, 3) := by decide +kernel
theorem dX5_find_35 : decode cX5_find 35 = .ok (.iload_n 1, 1) := by decide +kernel
theorem dX5_find_36 : decode cX5_find 36 = .ok (.if_icmp .ne 23, 3) := by decide +kernel
theorem dX5_find_39 : decode cX5_find 39 = .ok (.aload_n 0, 1) := by decide +kernel
theorem dX5_find_40 : decode cX5_find 40 = .ok (.getfield 31, 3) := by decide +kernel
theorem dX5_find_43 : decode cX5_find 43 = .ok (.aload_n 0, 1) := by decide +kernel
theorem dX5_find_44 : decode cX5_find 44 = .ok (.getfield 12, 3) := by decide +kernel
theorem dX5_find_47 : decode cX5_find 47 = .ok (.invokevirtual 49, 3) := by decide +kernel
theorem dX5_find_50 : decode cX5_find 50 = .ok (.iload_n 2, 1) := by decide +kernel
theorem dX5_find_51 : decode cX5_find 51 = .ok (.ishr, 1) := by decide +kernel
theorem dX5_find_52 : decode cX5_find 52 = .ok (.iconst 1, 1) := by decide +kernel
theorem dX5_find_53 : decode cX5_find 53 = .ok (.iand, 1) := by decide +kernel
theorem dX5_find_54 : decode cX5_find 54 = .ok (.ifCond .eq 5, 3) := by decide +kernel
theorem dX5_find_57 : decode cX5_find 57 = .ok (.iload_n 3, 1) := by decide +kernel
theorem dX5_find_58 : decode cX5_find 58 = .ok (.ireturn, 1) := by decide +kernel
theorem dX5_find_59 : decode cX5_find 59 = .ok (.aload_n 0, 1) := by decide +kernel
theorem dX5_find_60 : decode cX5_find 60 = .ok (.iload_n 3, 1) := by decide +kernel
theorem dX5_find_61 : decode cX5_find 61 = .ok (.invokevirtual 55, 3) := by decide +kernel
theorem dX5_find_64 : decode cX5_find 64 = .ok (.iinc 3 1, 3) := by decide +kernel
theorem dX5_find_67 : decode cX5_find 67 = .ok (.goto (-61), 3) := by decide +kernel
theorem dX5_find_70 : decode cX5_find 70 = .ok (.bipush (-4), 2) := by decide +kernel
theorem dX5_find_72 : decode cX5_find 72 = .ok (.ireturn, 1) := by decide +kernel
theorem dX5_reach_0 : decode cX5_reach 0 = .ok (.iconst 0, 1) := by decide +kernel
theorem dX5_reach_1 : decode cX5_reach 1 = .ok (.istore_n 1, 1) := by decide +kernel
theorem dX5_reach_2 : decode cX5_reach 2 = .ok (.aload_n 0, 1) := by decide +kernel
theorem dX5_reach_3 : decode cX5_reach 3 = .ok (.invokevirtual 35, 3) := by decide +kernel
theorem dX5_reach_6 : decode cX5_reach 6 = .ok (.iconst 0, 1) := by decide +kernel
theorem dX5_reach_7 : decode cX5_reach 7 = .ok (.istore_n 2, 1) := by decide +kernel
theorem dX5_reach_8 : decode cX5_reach 8 = .ok (.iload_n 2, 1) := by decide +kernel
theorem dX5_reach_9 : decode cX5_reach 9 = .ok (.aload_n 0, 1) := by decide +kernel
theorem dX5_reach_10 : decode cX5_reach 10 = .ok (.getfield 22, 3) := by decide +kernel
theorem dX5_reach_13 : decode cX5_reach 13 = .ok (.arraylength, 1) := by decide +kernel
theorem dX5_reach_14 : decode cX5_reach 14 = .ok (.if_icmp .ge 39, 3) := by decide +kernel
theorem dX5_reach_17 : decode cX5_reach 17 = .ok (.iload_n 2, 1) := by decide +kernel
theorem dX5_reach_18 : decode cX5_reach 18 = .ok (.aload_n 0, 1) := by decide +kernel
theorem dX5_reach_19 : decode cX5_reach 19 = .ok (.getfield 38, 3) := by decide +kernel
theorem dX5_reach_22 : decode cX5_reach 22 = .ok (.if_icmp .ge 31, 3) := by decide +kernel
theorem dX5_reach_25 : decode cX5_reach 25 = .ok (.aload_n 0, 1) := by decide +kernel
theorem dX5_reach_26 : decode cX5_reach 26 = .ok (.iload_n 2, 1) := by decide +kernel
theorem dX5_reach_27 : decode cX5_reach 27 = .ok (.invokevirtual 42, 3) := by decide +kernel
theorem dX5_reach_30 : decode cX5_reach 30 = .ok (.iload_n 1, 1) := by decide +kernel
theorem dX5_reach_31 : decode cX5_reach 31 = .ok (.iconst 1, 1) := by decide +kernel
theorem dX5_reach_32 : decode cX5_reach 32 = .ok (.aload_n 0, 1) := by decide +kernel
theorem dX5_reach_33 : decode cX5_reach 33 = .ok (.getfield 12, 3) := by decide +kernel
theorem dX5_reach_36 : decode cX5_reach 36 = .ok (.getfield 46, 3) := by decide +kernel
theorem dX5_reach_39 : decode cX5_reach 39 = .ok (.ishl, 1) := by decide +kernel
theorem dX5_reach_40 : decode cX5_reach 40 = .ok (.ior, 1) := by decide +kernel
theorem dX5_reach_41 : decode cX5_reach 41 = .ok (.istore_n 1, 1) := by decide +kernel
theorem dX5_reach_42 : decode cX5_reach 42 = .ok (.aload_n 0, 1) := by decide +kernel
theorem dX5_reach_43 : decode cX5_reach 43 = .ok (.iload_n 2, 1) := by decide +kernel
theorem dX5_reach_44 : decode cX5_reach 44 = .ok (.invokevirtual 55, 3) := by decide +kernel
theorem dX5_reach_47 : decode cX5_reach 47 = .ok (.iinc 2 1, 3) := by decide +kernel
theorem dX5_reach_50 : decode cX5_reach 50 = .ok (.goto (-42), 3) := by decide +kernel
theorem dX5_reach_53 : decode cX5_reach 53 = .ok (.iload_n 1, 1) := by decide +kernel
theorem dX5_reach_54 : decode cX5_reach 54 = .ok (.ireturn, 1) := by decide +kernel
theorem dX5_begin_0 : decode cX5_begin 0 = .ok (.aload_n 0, 1) := by decide +kernel
theorem dX5_begin_1 : decode cX5_begin 1 = .ok (.dup, 1) := by decide +kernel
theorem dX5_begin_2 : decode cX5_begin 2 = .ok (.getfield 58, 3) := by decide +kernel
theorem dX5_begin_5 : decode cX5_begin 5 = .ok (.iconst 1, 1) := by decide +kernel
theorem dX5_begin_6 : decode cX5_begin 6 = .ok (.iadd, 1) := by decide +kernel
theorem dX5_begin_7 : decode cX5_begin 7 = .ok (.putfield 58, 3) := by decide +kernel
theorem dX5_begin_10 : decode cX5_begin 10 = .ok (.aload_n 0, 1) := by decide +kernel
theorem dX5_begin_11 : decode cX5_begin 11 = .ok (.iconst 1, 1) := by decide +kernel
theorem dX5_begin_12 : decode cX5_begin 12 = .ok (.putfield 38, 3) := by decide +kernel
theorem dX5_begin_15 : decode cX5_begin 15 = .ok (.return_, 1) := by decide +kernel
theorem dX5_placeWalker_0 : decode cX5_placeWalker 0 = .ok (.iload_n 1, 1) := by decide +kernel
theorem dX5_placeWalker_1 : decode cX5_placeWalker 1 = .ok (.ifCond .ne 20, 3) := by decide +kernel
theorem dX5_placeWalker_4 : decode cX5_placeWalker 4 = .ok (.aload_n 0, 1) := by decide +kernel
theorem dX5_placeWalker_5 : decode cX5_placeWalker 5 = .ok (.getfield 12, 3) := by decide +kernel
theorem dX5_placeWalker_8 : decode cX5_placeWalker 8 = .ok (.aload_n 0, 1) := by decide +kernel
theorem dX5_placeWalker_9 : decode cX5_placeWalker 9 = .ok (.getfield 31, 3) := by decide +kernel
theorem dX5_placeWalker_12 : decode cX5_placeWalker 12 = .ok (.getfield 61, 3) := by decide +kernel
theorem dX5_placeWalker_15 : decode cX5_placeWalker 15 = .ok (.invokevirtual 64, 3) := by decide +kernel
theorem dX5_placeWalker_18 : decode cX5_placeWalker 18 = .ok (.goto 38, 3) := by decide +kernel
theorem dX5_placeWalker_21 : decode cX5_placeWalker 21 = .ok (.aload_n 0, 1) := by decide +kernel
theorem dX5_placeWalker_22 : decode cX5_placeWalker 22 = .ok (.getfield 12, 3) := by decide +kernel
theorem dX5_placeWalker_25 : decode cX5_placeWalker 25 = .ok (.aload_n 0, 1) := by decide +kernel
theorem dX5_placeWalker_26 : decode cX5_placeWalker 26 = .ok (.getfield 31, 3) := by decide +kernel
theorem dX5_placeWalker_29 : decode cX5_placeWalker 29 = .ok (.getfield 68, 3) := by decide +kernel
theorem dX5_placeWalker_32 : decode cX5_placeWalker 32 = .ok (.aload_n 0, 1) := by decide +kernel
theorem dX5_placeWalker_33 : decode cX5_placeWalker 33 = .ok (.getfield 22, 3) := by decide +kernel
theorem dX5_placeWalker_36 : decode cX5_placeWalker 36 = .ok (.iload_n 1, 1) := by decide +kernel
theorem dX5_placeWalker_37 : decode cX5_placeWalker 37 = .ok (.iaload, 1) := by decide +kernel
theorem dX5_placeWalker_38 : decode cX5_placeWalker 38 = .ok (.sipush 256, 3) := by decide +kernel
theorem dX5_placeWalker_41 : decode cX5_placeWalker 41 = .ok (.idiv, 1) := by decide +kernel
theorem dX5_placeWalker_42 : decode cX5_placeWalker 42 = .ok (.aaload, 1) := by decide +kernel
theorem dX5_placeWalker_43 : decode cX5_placeWalker 43 = .ok (.aload_n 0, 1) := by decide +kernel
theorem dX5_placeWalker_44 : decode cX5_placeWalker 44 = .ok (.getfield 22, 3) := by decide +kernel
theorem dX5_placeWalker_47 : decode cX5_placeWalker 47 = .ok (.iload_n 1, 1) := by decide +kernel
theorem dX5_placeWalker_48 : decode cX5_placeWalker 48 = .ok (.iaload, 1) := by decide +kernel
theorem dX5_placeWalker_49 : decode cX5_placeWalker 49 = .ok (.sipush 256, 3) := by decide +kernel
theorem dX5_placeWalker_52 : decode cX5_placeWalker 52 = .ok (.irem, 1) := by decide +kernel
theorem dX5_placeWalker_53 : decode cX5_placeWalker 53 = .ok (.invokevirtual 72, 3) := by decide +kernel
theorem dX5_placeWalker_56 : decode cX5_placeWalker 56 = .ok (.return_, 1) := by decide +kernel
theorem dX5_spread_0 : decode cX5_spread 0 = .ok (.iconst 0, 1) := by decide +kernel
theorem dX5_spread_1 : decode cX5_spread 1 = .ok (.istore_n 2, 1) := by decide +kernel
theorem dX5_spread_2 : decode cX5_spread 2 = .ok (.iload_n 2, 1) := by decide +kernel
theorem dX5_spread_3 : decode cX5_spread 3 = .ok (.aload_n 0, 1) := by decide +kernel
theorem dX5_spread_4 : decode cX5_spread 4 = .ok (.getfield 31, 3) := by decide +kernel
theorem dX5_spread_7 : decode cX5_spread 7 = .ok (.getfield 76, 3) := by decide +kernel
theorem dX5_spread_10 : decode cX5_spread 10 = .ok (.if_icmp .ge 129, 3) := by decide +kernel
theorem dX5_spread_13 : decode cX5_spread 13 = .ok (.aload_n 0, 1) := by decide +kernel
theorem dX5_spread_14 : decode cX5_spread 14 = .ok (.getfield 12, 3) := by decide +kernel
theorem dX5_spread_17 : decode cX5_spread 17 = .ok (.aload_n 0, 1) := by decide +kernel
theorem dX5_spread_18 : decode cX5_spread 18 = .ok (.getfield 31, 3) := by decide +kernel
theorem dX5_spread_21 : decode cX5_spread 21 = .ok (.getfield 68, 3) := by decide +kernel
theorem dX5_spread_24 : decode cX5_spread 24 = .ok (.iload_n 2, 1) := by decide +kernel
theorem dX5_spread_25 : decode cX5_spread 25 = .ok (.aaload, 1) := by decide +kernel
theorem dX5_spread_26 : decode cX5_spread 26 = .ok (.invokevirtual 79, 3) := by decide +kernel
theorem dX5_spread_29 : decode cX5_spread 29 = .ok (.istore_n 3, 1) := by decide +kernel
theorem dX5_spread_30 : decode cX5_spread 30 = .ok (.iload_n 2, 1) := by decide +kernel
theorem dX5_spread_31 : decode cX5_spread 31 = .ok (.sipush 256, 3) := by decide +kernel
theorem dX5_spread_34 : decode cX5_spread 34 = .ok (.imul, 1) := by decide +kernel
theorem dX5_spread_35 : decode cX5_spread 35 = .ok (.aload_n 0, 1) := by decide +kernel
theorem dX5_spread_36 : decode cX5_spread 36 = .ok (.getfield 31, 3) := by decide +kernel
theorem dX5_spread_39 : decode cX5_spread 39 = .ok (.getfield 68, 3) := by decide +kernel
theorem dX5_spread_42 : decode cX5_spread 42 = .ok (.iload_n 2, 1) := by decide +kernel
theorem dX5_spread_43 : decode cX5_spread 43 = .ok (.aaload, 1) := by decide +kernel
theorem dX5_spread_44 : decode cX5_spread 44 = .ok (.iconst 2, 1) := by decide +kernel
theorem dX5_spread_45 : decode cX5_spread 45 = .ok (.invokevirtual 83, 3) := by decide +kernel
theorem dX5_spread_48 : decode cX5_spread 48 = .ok (.ifCond .eq 7, 3) := by decide +kernel
theorem dX5_spread_51 : decode cX5_spread 51 = .ok (.iload_n 3, 1) := by decide +kernel
theorem dX5_spread_52 : decode cX5_spread 52 = .ok (.goto 6, 3) := by decide +kernel
theorem dX5_spread_55 : decode cX5_spread 55 = .ok (.sipush 255, 3) := by decide +kernel
theorem dX5_spread_58 : decode cX5_spread 58 = .ok (.iadd, 1) := by decide +kernel
theorem dX5_spread_59 : decode cX5_spread 59 = .ok (.istore 4, 2) := by decide +kernel
theorem dX5_spread_61 : decode cX5_spread 61 = .ok (.iload_n 3, 1) := by decide +kernel
theorem dX5_spread_62 : decode cX5_spread 62 = .ok (.ifCond .eq 71, 3) := by decide +kernel
theorem dX5_spread_65 : decode cX5_spread 65 = .ok (.aload_n 0, 1) := by decide +kernel
theorem dX5_spread_66 : decode cX5_spread 66 = .ok (.getfield 18, 3) := by decide +kernel
theorem dX5_spread_69 : decode cX5_spread 69 = .ok (.iload 4, 2) := by decide +kernel
theorem dX5_spread_71 : decode cX5_spread 71 = .ok (.iaload, 1) := by decide +kernel
theorem dX5_spread_72 : decode cX5_spread 72 = .ok (.aload_n 0, 1) := by decide +kernel
theorem dX5_spread_73 : decode cX5_spread 73 = .ok (.getfield 58, 3) := by decide +kernel
theorem dX5_spread_76 : decode cX5_spread 76 = .ok (.if_icmp .eq 57, 3) := by decide +kernel
theorem dX5_spread_79 : decode cX5_spread 79 = .ok (.aload_n 0, 1) := by decide +kernel
theorem dX5_spread_80 : decode cX5_spread 80 = .ok (.getfield 38, 3) := by decide +kernel
theorem dX5_spread_83 : decode cX5_spread 83 = .ok (.aload_n 0, 1) := by decide +kernel
theorem dX5_spread_84 : decode cX5_spread 84 = .ok (.getfield 22, 3) := by decide +kernel
theorem dX5_spread_87 : decode cX5_spread 87 = .ok (.arraylength, 1) := by decide +kernel
theorem dX5_spread_88 : decode cX5_spread 88 = .ok (.if_icmp .ge 45, 3) := by decide +kernel
theorem dX5_spread_91 : decode cX5_spread 91 = .ok (.aload_n 0, 1) := by decide +kernel
theorem dX5_spread_92 : decode cX5_spread 92 = .ok (.getfield 18, 3) := by decide +kernel
theorem dX5_spread_95 : decode cX5_spread 95 = .ok (.iload 4, 2) := by decide +kernel
theorem dX5_spread_97 : decode cX5_spread 97 = .ok (.aload_n 0, 1) := by decide +kernel
theorem dX5_spread_98 : decode cX5_spread 98 = .ok (.getfield 58, 3) := by decide +kernel
theorem dX5_spread_101 : decode cX5_spread 101 = .ok (.iastore, 1) := by decide +kernel
theorem dX5_spread_102 : decode cX5_spread 102 = .ok (.aload_n 0, 1) := by decide +kernel
theorem dX5_spread_103 : decode cX5_spread 103 = .ok (.getfield 22, 3) := by decide +kernel
theorem dX5_spread_106 : decode cX5_spread 106 = .ok (.aload_n 0, 1) := by decide +kernel
theorem dX5_spread_107 : decode cX5_spread 107 = .ok (.getfield 38, 3) := by decide +kernel
theorem dX5_spread_110 : decode cX5_spread 110 = .ok (.iload 4, 2) := by decide +kernel
theorem dX5_spread_112 : decode cX5_spread 112 = .ok (.iastore, 1) := by decide +kernel
theorem dX5_spread_113 : decode cX5_spread 113 = .ok (.aload_n 0, 1) := by decide +kernel
theorem dX5_spread_114 : decode cX5_spread 114 = .ok (.getfield 25, 3) := by decide +kernel
theorem dX5_spread_117 : decode cX5_spread 117 = .ok (.aload_n 0, 1) := by decide +kernel
theorem dX5_spread_118 : decode cX5_spread 118 = .ok (.getfield 38, 3) := by decide +kernel
theorem dX5_spread_121 : decode cX5_spread 121 = .ok (.iload_n 1, 1) := by decide +kernel
theorem dX5_spread_122 : decode cX5_spread 122 = .ok (.iastore, 1) := by decide +kernel
theorem dX5_spread_123 : decode cX5_spread 123 = .ok (.aload_n 0, 1) := by decide +kernel
theorem dX5_spread_124 : decode cX5_spread 124 = .ok (.dup, 1) := by decide +kernel
theorem dX5_spread_125 : decode cX5_spread 125 = .ok (.getfield 38, 3) := by decide +kernel
theorem dX5_spread_128 : decode cX5_spread 128 = .ok (.iconst 1, 1) := by decide +kernel
theorem dX5_spread_129 : decode cX5_spread 129 = .ok (.iadd, 1) := by decide +kernel
theorem dX5_spread_130 : decode cX5_spread 130 = .ok (.putfield 38, 3) := by decide +kernel
theorem dX5_spread_133 : decode cX5_spread 133 = .ok (.iinc 2 1, 3) := by decide +kernel
theorem dX5_spread_136 : decode cX5_spread 136 = .ok (.goto (-134), 3) := by decide +kernel
theorem dX5_spread_139 : decode cX5_spread 139 = .ok (.return_, 1) := by decide +kernel
theorem dX5_lengthTo_0 : decode cX5_lengthTo 0 = .ok (.iconst 0, 1) := by decide +kernel
theorem dX5_lengthTo_1 : decode cX5_lengthTo 1 = .ok (.istore_n 2, 1) := by decide +kernel
theorem dX5_lengthTo_2 : decode cX5_lengthTo 2 = .ok (.iload_n 1, 1) := by decide +kernel
theorem dX5_lengthTo_3 : decode cX5_lengthTo 3 = .ok (.istore_n 3, 1) := by decide +kernel
theorem dX5_lengthTo_4 : decode cX5_lengthTo 4 = .ok (.iload_n 3, 1) := by decide +kernel
theorem dX5_lengthTo_5 : decode cX5_lengthTo 5 = .ok (.ifCond .le 25, 3) := by decide +kernel
theorem dX5_lengthTo_8 : decode cX5_lengthTo 8 = .ok (.iload_n 2, 1) := by decide +kernel
theorem dX5_lengthTo_9 : decode cX5_lengthTo 9 = .ok (.aload_n 0, 1) := by decide +kernel
theorem dX5_lengthTo_10 : decode cX5_lengthTo 10 = .ok (.getfield 22, 3) := by decide +kernel
theorem dX5_lengthTo_13 : decode cX5_lengthTo 13 = .ok (.arraylength, 1) := by decide +kernel
theorem dX5_lengthTo_14 : decode cX5_lengthTo 14 = .ok (.if_icmp .ge 16, 3) := by decide +kernel
theorem dX5_lengthTo_17 : decode cX5_lengthTo 17 = .ok (.iinc 2 1, 3) := by decide +kernel
theorem dX5_lengthTo_20 : decode cX5_lengthTo 20 = .ok (.aload_n 0, 1) := by decide +kernel
theorem dX5_lengthTo_21 : decode cX5_lengthTo 21 = .ok (.getfield 25, 3) := by decide +kernel
theorem dX5_lengthTo_24 : decode cX5_lengthTo 24 = .ok (.iload_n 3, 1) := by decide +kernel
theorem dX5_lengthTo_25 : decode cX5_lengthTo 25 = .ok (.iaload, 1) := by decide +kernel
theorem dX5_lengthTo_26 : decode cX5_lengthTo 26 = .ok (.istore_n 3, 1) := by decide +kernel
theorem dX5_lengthTo_27 : decode cX5_lengthTo 27 = .ok (.goto (-23), 3) := by decide +kernel
theorem dX5_lengthTo_30 : decode cX5_lengthTo 30 = .ok (.iload_n 2, 1) := by decide +kernel
theorem dX5_lengthTo_31 : decode cX5_lengthTo 31 = .ok (.ireturn, 1) := by decide +kernel
theorem dX5_paperOn_0 : decode cX5_paperOn 0 = .ok (.iload_n 1, 1) := by decide +kernel
theorem dX5_paperOn_1 : decode cX5_paperOn 1 = .ok (.istore_n 3, 1) := by decide +kernel
theorem dX5_paperOn_2 : decode cX5_paperOn 2 = .ok (.iconst 0, 1) := by decide +kernel
theorem dX5_paperOn_3 : decode cX5_paperOn 3 = .ok (.istore 4, 2) := by decide +kernel
theorem dX5_paperOn_5 : decode cX5_paperOn 5 = .ok (.iload 4, 2) := by decide +kernel
theorem dX5_paperOn_7 : decode cX5_paperOn 7 = .ok (.iload_n 2, 1) := by decide +kernel
theorem dX5_paperOn_8 : decode cX5_paperOn 8 = .ok (.if_icmp .ge 16, 3) := by decide +kernel
theorem dX5_paperOn_11 : decode cX5_paperOn 11 = .ok (.aload_n 0, 1) := by decide +kernel
theorem dX5_paperOn_12 : decode cX5_paperOn 12 = .ok (.getfield 25, 3) := by decide +kernel
theorem dX5_paperOn_15 : decode cX5_paperOn 15 = .ok (.iload_n 3, 1) := by decide +kernel
theorem dX5_paperOn_16 : decode cX5_paperOn 16 = .ok (.iaload, 1) := by decide +kernel
theorem dX5_paperOn_17 : decode cX5_paperOn 17 = .ok (.istore_n 3, 1) := by decide +kernel
theorem dX5_paperOn_18 : decode cX5_paperOn 18 = .ok (.iinc 4 1, 3) := by decide +kernel
theorem dX5_paperOn_21 : decode cX5_paperOn 21 = .ok (.goto (-16), 3) := by decide +kernel
theorem dX5_paperOn_24 : decode cX5_paperOn 24 = .ok (.aload_n 0, 1) := by decide +kernel
theorem dX5_paperOn_25 : decode cX5_paperOn 25 = .ok (.getfield 22, 3) := by decide +kernel
theorem dX5_paperOn_28 : decode cX5_paperOn 28 = .ok (.iload_n 3, 1) := by decide +kernel
theorem dX5_paperOn_29 : decode cX5_paperOn 29 = .ok (.iaload, 1) := by decide +kernel
theorem dX5_paperOn_30 : decode cX5_paperOn 30 = .ok (.sipush 256, 3) := by decide +kernel
theorem dX5_paperOn_33 : decode cX5_paperOn 33 = .ok (.idiv, 1) := by decide +kernel
theorem dX5_paperOn_34 : decode cX5_paperOn 34 = .ok (.ireturn, 1) := by decide +kernel
theorem dX5_safeLands_0 : decode cX5_safeLands 0 = .ok (.iconst 0, 1) := by decide +kernel
theorem dX5_safeLands_1 : decode cX5_safeLands 1 = .ok (.istore_n 2, 1) := by decide +kernel
theorem dX5_safeLands_2 : decode cX5_safeLands 2 = .ok (.iconst 0, 1) := by decide +kernel
theorem dX5_safeLands_3 : decode cX5_safeLands 3 = .ok (.istore_n 3, 1) := by decide +kernel
theorem dX5_safeLands_4 : decode cX5_safeLands 4 = .ok (.iload_n 3, 1) := by decide +kernel
theorem dX5_safeLands_5 : decode cX5_safeLands 5 = .ok (.bipush 6, 2) := by decide +kernel
theorem dX5_safeLands_7 : decode cX5_safeLands 7 = .ok (.if_icmp .ge 110, 3) := by decide +kernel
theorem dX5_safeLands_10 : decode cX5_safeLands 10 = .ok (.aload_n 0, 1) := by decide +kernel
theorem dX5_safeLands_11 : decode cX5_safeLands 11 = .ok (.getfield 12, 3) := by decide +kernel
theorem dX5_safeLands_14 : decode cX5_safeLands 14 = .ok (.iload_n 3, 1) := by decide +kernel
theorem dX5_safeLands_15 : decode cX5_safeLands 15 = .ok (.invokevirtual 89, 3) := by decide +kernel
theorem dX5_safeLands_18 : decode cX5_safeLands 18 = .ok (.iload_n 1, 1) := by decide +kernel
theorem dX5_safeLands_19 : decode cX5_safeLands 19 = .ok (.ifCond .eq 17, 3) := by decide +kernel
theorem dX5_safeLands_22 : decode cX5_safeLands 22 = .ok (.aload_n 0, 1) := by decide +kernel
theorem dX5_safeLands_23 : decode cX5_safeLands 23 = .ok (.getfield 31, 3) := by decide +kernel
theorem dX5_safeLands_26 : decode cX5_safeLands 26 = .ok (.aload_n 0, 1) := by decide +kernel
theorem dX5_safeLands_27 : decode cX5_safeLands 27 = .ok (.getfield 12, 3) := by decide +kernel
theorem dX5_safeLands_30 : decode cX5_safeLands 30 = .ok (.invokevirtual 49, 3) := by decide +kernel
theorem dX5_safeLands_33 : decode cX5_safeLands 33 = .ok (.ifCond .ne 7, 3) := by decide +kernel
theorem dX5_safeLands_36 : decode cX5_safeLands 36 = .ok (.iconst 1, 1) := by decide +kernel
theorem dX5_safeLands_37 : decode cX5_safeLands 37 = .ok (.goto 4, 3) := by decide +kernel
theorem dX5_safeLands_40 : decode cX5_safeLands 40 = .ok (.iconst 0, 1) := by decide +kernel
theorem dX5_safeLands_41 : decode cX5_safeLands 41 = .ok (.istore 4, 2) := by decide +kernel
theorem dX5_safeLands_43 : decode cX5_safeLands 43 = .ok (.iconst 0, 1) := by decide +kernel
theorem dX5_safeLands_44 : decode cX5_safeLands 44 = .ok (.istore 5, 2) := by decide +kernel
theorem dX5_safeLands_46 : decode cX5_safeLands 46 = .ok (.iload 5, 2) := by decide +kernel
theorem dX5_safeLands_48 : decode cX5_safeLands 48 = .ok (.aload_n 0, 1) := by decide +kernel
theorem dX5_safeLands_49 : decode cX5_safeLands 49 = .ok (.getfield 31, 3) := by decide +kernel
theorem dX5_safeLands_52 : decode cX5_safeLands 52 = .ok (.getfield 76, 3) := by decide +kernel
theorem dX5_safeLands_55 : decode cX5_safeLands 55 = .ok (.if_icmp .ge 41, 3) := by decide +kernel
theorem dX5_safeLands_58 : decode cX5_safeLands 58 = .ok (.iload 4, 2) := by decide +kernel
theorem dX5_safeLands_60 : decode cX5_safeLands 60 = .ok (.ifCond .eq 27, 3) := by decide +kernel
theorem dX5_safeLands_63 : decode cX5_safeLands 63 = .ok (.aload_n 0, 1) := by decide +kernel
theorem dX5_safeLands_64 : decode cX5_safeLands 64 = .ok (.getfield 12, 3) := by decide +kernel
theorem dX5_safeLands_67 : decode cX5_safeLands 67 = .ok (.aload_n 0, 1) := by decide +kernel
theorem dX5_safeLands_68 : decode cX5_safeLands 68 = .ok (.getfield 31, 3) := by decide +kernel
theorem dX5_safeLands_71 : decode cX5_safeLands 71 = .ok (.getfield 68, 3) := by decide +kernel
theorem dX5_safeLands_74 : decode cX5_safeLands 74 = .ok (.iload 5, 2) := by decide +kernel
theorem dX5_safeLands_76 : decode cX5_safeLands 76 = .ok (.aaload, 1) := by decide +kernel
theorem dX5_safeLands_77 : decode cX5_safeLands 77 = .ok (.invokevirtual 79, 3) := by decide +kernel
theorem dX5_safeLands_80 : decode cX5_safeLands 80 = .ok (.ifCond .ne 7, 3) := by decide +kernel
theorem dX5_safeLands_83 : decode cX5_safeLands 83 = .ok (.iconst 1, 1) := by decide +kernel
theorem dX5_safeLands_84 : decode cX5_safeLands 84 = .ok (.goto 4, 3) := by decide +kernel
theorem dX5_safeLands_87 : decode cX5_safeLands 87 = .ok (.iconst 0, 1) := by decide +kernel
theorem dX5_safeLands_88 : decode cX5_safeLands 88 = .ok (.istore 4, 2) := by decide +kernel
theorem dX5_safeLands_90 : decode cX5_safeLands 90 = .ok (.iinc 5 1, 3) := by decide +kernel
theorem dX5_safeLands_93 : decode cX5_safeLands 93 = .ok (.goto (-47), 3) := by decide +kernel
theorem dX5_safeLands_96 : decode cX5_safeLands 96 = .ok (.iload_n 2, 1) := by decide +kernel
theorem dX5_safeLands_97 : decode cX5_safeLands 97 = .ok (.iload 4, 2) := by decide +kernel
theorem dX5_safeLands_99 : decode cX5_safeLands 99 = .ok (.ifCond .eq 9, 3) := by decide +kernel
theorem dX5_safeLands_102 : decode cX5_safeLands 102 = .ok (.iconst 1, 1) := by decide +kernel
theorem dX5_safeLands_103 : decode cX5_safeLands 103 = .ok (.iload_n 3, 1) := by decide +kernel
theorem dX5_safeLands_104 : decode cX5_safeLands 104 = .ok (.ishl, 1) := by decide +kernel
theorem dX5_safeLands_105 : decode cX5_safeLands 105 = .ok (.goto 4, 3) := by decide +kernel
theorem dX5_safeLands_108 : decode cX5_safeLands 108 = .ok (.iconst 0, 1) := by decide +kernel
theorem dX5_safeLands_109 : decode cX5_safeLands 109 = .ok (.ior, 1) := by decide +kernel
theorem dX5_safeLands_110 : decode cX5_safeLands 110 = .ok (.istore_n 2, 1) := by decide +kernel
theorem dX5_safeLands_111 : decode cX5_safeLands 111 = .ok (.iinc 3 1, 3) := by decide +kernel
theorem dX5_safeLands_114 : decode cX5_safeLands 114 = .ok (.goto (-110), 3) := by decide +kernel
theorem dX5_safeLands_117 : decode cX5_safeLands 117 = .ok (.iload_n 2, 1) := by decide +kernel
theorem dX5_safeLands_118 : decode cX5_safeLands 118 = .ok (.ireturn, 1) := by decide +kernel
theorem dX5_fewestBars_0 : decode cX5_fewestBars 0 = .ok (.aload_n 0, 1) := by decide +kernel
theorem dX5_fewestBars_1 : decode cX5_fewestBars 1 = .ok (.getfield 12, 3) := by decide +kernel
theorem dX5_fewestBars_4 : decode cX5_fewestBars 4 = .ok (.aload_n 0, 1) := by decide +kernel
theorem dX5_fewestBars_5 : decode cX5_fewestBars 5 = .ok (.getfield 31, 3) := by decide +kernel
theorem dX5_fewestBars_8 : decode cX5_fewestBars 8 = .ok (.getfield 61, 3) := by decide +kernel
theorem dX5_fewestBars_11 : decode cX5_fewestBars 11 = .ok (.invokevirtual 64, 3) := by decide +kernel
theorem dX5_fewestBars_14 : decode cX5_fewestBars 14 = .ok (.aload_n 0, 1) := by decide +kernel
theorem dX5_fewestBars_15 : decode cX5_fewestBars 15 = .ok (.getfield 12, 3) := by decide +kernel
theorem dX5_fewestBars_18 : decode cX5_fewestBars 18 = .ok (.getfield 46, 3) := by decide +kernel
theorem dX5_fewestBars_21 : decode cX5_fewestBars 21 = .ok (.iload_n 1, 1) := by decide +kernel
theorem dX5_fewestBars_22 : decode cX5_fewestBars 22 = .ok (.if_icmp .ne 23, 3) := by decide +kernel
theorem dX5_fewestBars_25 : decode cX5_fewestBars 25 = .ok (.aload_n 0, 1) := by decide +kernel
theorem dX5_fewestBars_26 : decode cX5_fewestBars 26 = .ok (.getfield 31, 3) := by decide +kernel
theorem dX5_fewestBars_29 : decode cX5_fewestBars 29 = .ok (.aload_n 0, 1) := by decide +kernel
theorem dX5_fewestBars_30 : decode cX5_fewestBars 30 = .ok (.getfield 12, 3) := by decide +kernel
theorem dX5_fewestBars_33 : decode cX5_fewestBars 33 = .ok (.invokevirtual 49, 3) := by decide +kernel
theorem dX5_fewestBars_36 : decode cX5_fewestBars 36 = .ok (.iload_n 2, 1) := by decide +kernel
theorem dX5_fewestBars_37 : decode cX5_fewestBars 37 = .ok (.ishr, 1) := by decide +kernel
theorem dX5_fewestBars_38 : decode cX5_fewestBars 38 = .ok (.iconst 1, 1) := by decide +kernel
theorem dX5_fewestBars_39 : decode cX5_fewestBars 39 = .ok (.iand, 1) := by decide +kernel
theorem dX5_fewestBars_40 : decode cX5_fewestBars 40 = .ok (.ifCond .eq 5, 3) := by decide +kernel
theorem dX5_fewestBars_43 : decode cX5_fewestBars 43 = .ok (.iconst 0, 1) := by decide +kernel
theorem dX5_fewestBars_44 : decode cX5_fewestBars 44 = .ok (.ireturn, 1) := by decide +kernel
theorem dX5_fewestBars_45 : decode cX5_fewestBars 45 = .ok (.aload_n 0, 1) := by decide +kernel
theorem dX5_fewestBars_46 : decode cX5_fewestBars 46 = .ok (.getfield 28, 3) := by decide +kernel
theorem dX5_fewestBars_49 : decode cX5_fewestBars 49 = .ok (.sipush 1000, 3) := by decide +kernel
theorem dX5_fewestBars_52 : decode cX5_fewestBars 52 = .ok (.invokestatic 92, 3) := by decide +kernel
theorem dX5_fewestBars_55 : decode cX5_fewestBars 55 = .ok (.aload_n 0, 1) := by decide +kernel
theorem dX5_fewestBars_56 : decode cX5_fewestBars 56 = .ok (.iconst 0, 1) := by decide +kernel
theorem dX5_fewestBars_57 : decode cX5_fewestBars 57 = .ok (.iload_n 2, 1) := by decide +kernel
theorem dX5_fewestBars_58 : decode cX5_fewestBars 58 = .ok (.invokevirtual 98, 3) := by decide +kernel
theorem dX5_fewestBars_61 : decode cX5_fewestBars 61 = .ok (.pop, 1) := by decide +kernel
theorem dX5_fewestBars_62 : decode cX5_fewestBars 62 = .ok (.iconst 1, 1) := by decide +kernel
theorem dX5_fewestBars_63 : decode cX5_fewestBars 63 = .ok (.istore_n 3, 1) := by decide +kernel
theorem dX5_fewestBars_64 : decode cX5_fewestBars 64 = .ok (.iconst 0, 1) := by decide +kernel
theorem dX5_fewestBars_65 : decode cX5_fewestBars 65 = .ok (.istore 4, 2) := by decide +kernel
theorem dX5_fewestBars_67 : decode cX5_fewestBars 67 = .ok (.iload_n 3, 1) := by decide +kernel
theorem dX5_fewestBars_68 : decode cX5_fewestBars 68 = .ok (.ifCond .eq 102, 3) := by decide +kernel
theorem dX5_fewestBars_71 : decode cX5_fewestBars 71 = .ok (.iload 4, 2) := by decide +kernel
theorem dX5_fewestBars_73 : decode cX5_fewestBars 73 = .ok (.aload_n 0, 1) := by decide +kernel
theorem dX5_fewestBars_74 : decode cX5_fewestBars 74 = .ok (.getfield 31, 3) := by decide +kernel
theorem dX5_fewestBars_77 : decode cX5_fewestBars 77 = .ok (.getfield 76, 3) := by decide +kernel
theorem dX5_fewestBars_80 : decode cX5_fewestBars 80 = .ok (.if_icmp .ge 90, 3) := by decide +kernel
theorem dX5_fewestBars_83 : decode cX5_fewestBars 83 = .ok (.iconst 0, 1) := by decide +kernel
theorem dX5_fewestBars_84 : decode cX5_fewestBars 84 = .ok (.istore_n 3, 1) := by decide +kernel
theorem dX5_fewestBars_85 : decode cX5_fewestBars 85 = .ok (.iconst 0, 1) := by decide +kernel
theorem dX5_fewestBars_86 : decode cX5_fewestBars 86 = .ok (.istore 5, 2) := by decide +kernel
theorem dX5_fewestBars_88 : decode cX5_fewestBars 88 = .ok (.iload 5, 2) := by decide +kernel
theorem dX5_fewestBars_90 : decode cX5_fewestBars 90 = .ok (.aload_n 0, 1) := by decide +kernel
theorem dX5_fewestBars_91 : decode cX5_fewestBars 91 = .ok (.getfield 31, 3) := by decide +kernel
theorem dX5_fewestBars_94 : decode cX5_fewestBars 94 = .ok (.getfield 76, 3) := by decide +kernel
theorem dX5_fewestBars_97 : decode cX5_fewestBars 97 = .ok (.if_icmp .ge 67, 3) := by decide +kernel
theorem dX5_fewestBars_100 : decode cX5_fewestBars 100 = .ok (.aload_n 0, 1) := by decide +kernel
theorem dX5_fewestBars_101 : decode cX5_fewestBars 101 = .ok (.getfield 28, 3) := by decide +kernel
theorem dX5_fewestBars_104 : decode cX5_fewestBars 104 = .ok (.iload 5, 2) := by decide +kernel
theorem dX5_fewestBars_106 : decode cX5_fewestBars 106 = .ok (.iaload, 1) := by decide +kernel
theorem dX5_fewestBars_107 : decode cX5_fewestBars 107 = .ok (.sipush 1000, 3) := by decide +kernel
theorem dX5_fewestBars_110 : decode cX5_fewestBars 110 = .ok (.if_icmp .ge 48, 3) := by decide +kernel
theorem dX5_fewestBars_113 : decode cX5_fewestBars 113 = .ok (.aload_n 0, 1) := by decide +kernel
theorem dX5_fewestBars_114 : decode cX5_fewestBars 114 = .ok (.getfield 12, 3) := by decide +kernel
theorem dX5_fewestBars_117 : decode cX5_fewestBars 117 = .ok (.aload_n 0, 1) := by decide +kernel
theorem dX5_fewestBars_118 : decode cX5_fewestBars 118 = .ok (.getfield 31, 3) := by decide +kernel
theorem dX5_fewestBars_121 : decode cX5_fewestBars 121 = .ok (.getfield 68, 3) := by decide +kernel
theorem dX5_fewestBars_124 : decode cX5_fewestBars 124 = .ok (.iload 5, 2) := by decide +kernel
theorem dX5_fewestBars_126 : decode cX5_fewestBars 126 = .ok (.aaload, 1) := by decide +kernel
theorem dX5_fewestBars_127 : decode cX5_fewestBars 127 = .ok (.iconst 1, 1) := by decide +kernel
theorem dX5_fewestBars_128 : decode cX5_fewestBars 128 = .ok (.iload_n 2, 1) := by decide +kernel
theorem dX5_fewestBars_129 : decode cX5_fewestBars 129 = .ok (.ishl, 1) := by decide +kernel
theorem dX5_fewestBars_130 : decode cX5_fewestBars 130 = .ok (.invokevirtual 72, 3) := by decide +kernel
theorem dX5_fewestBars_133 : decode cX5_fewestBars 133 = .ok (.aload_n 0, 1) := by decide +kernel
theorem dX5_fewestBars_134 : decode cX5_fewestBars 134 = .ok (.aload_n 0, 1) := by decide +kernel
theorem dX5_fewestBars_135 : decode cX5_fewestBars 135 = .ok (.getfield 28, 3) := by decide +kernel
theorem dX5_fewestBars_138 : decode cX5_fewestBars 138 = .ok (.iload 5, 2) := by decide +kernel
theorem dX5_fewestBars_140 : decode cX5_fewestBars 140 = .ok (.iaload, 1) := by decide +kernel
theorem dX5_fewestBars_141 : decode cX5_fewestBars 141 = .ok (.iload_n 2, 1) := by decide +kernel
theorem dX5_fewestBars_142 : decode cX5_fewestBars 142 = .ok (.invokevirtual 98, 3) := by decide +kernel
theorem dX5_fewestBars_145 : decode cX5_fewestBars 145 = .ok (.ifCond .ne 7, 3) := by decide +kernel
theorem dX5_fewestBars_148 : decode cX5_fewestBars 148 = .ok (.iload_n 3, 1) := by decide +kernel
theorem dX5_fewestBars_149 : decode cX5_fewestBars 149 = .ok (.ifCond .eq 7, 3) := by decide +kernel
theorem dX5_fewestBars_152 : decode cX5_fewestBars 152 = .ok (.iconst 1, 1) := by decide +kernel
theorem dX5_fewestBars_153 : decode cX5_fewestBars 153 = .ok (.goto 4, 3) := by decide +kernel
theorem dX5_fewestBars_156 : decode cX5_fewestBars 156 = .ok (.iconst 0, 1) := by decide +kernel
theorem dX5_fewestBars_157 : decode cX5_fewestBars 157 = .ok (.istore_n 3, 1) := by decide +kernel
theorem dX5_fewestBars_158 : decode cX5_fewestBars 158 = .ok (.iinc 5 1, 3) := by decide +kernel
theorem dX5_fewestBars_161 : decode cX5_fewestBars 161 = .ok (.goto (-73), 3) := by decide +kernel
theorem dX5_fewestBars_164 : decode cX5_fewestBars 164 = .ok (.iinc 4 1, 3) := by decide +kernel
theorem dX5_fewestBars_167 : decode cX5_fewestBars 167 = .ok (.goto (-100), 3) := by decide +kernel
theorem dX5_fewestBars_170 : decode cX5_fewestBars 170 = .ok (.sipush 1000, 3) := by decide +kernel
theorem dX5_fewestBars_173 : decode cX5_fewestBars 173 = .ok (.istore 4, 2) := by decide +kernel
theorem dX5_fewestBars_175 : decode cX5_fewestBars 175 = .ok (.iconst 0, 1) := by decide +kernel
theorem dX5_fewestBars_176 : decode cX5_fewestBars 176 = .ok (.istore 5, 2) := by decide +kernel
theorem dX5_fewestBars_178 : decode cX5_fewestBars 178 = .ok (.iload 5, 2) := by decide +kernel
theorem dX5_fewestBars_180 : decode cX5_fewestBars 180 = .ok (.aload_n 0, 1) := by decide +kernel
theorem dX5_fewestBars_181 : decode cX5_fewestBars 181 = .ok (.getfield 31, 3) := by decide +kernel
theorem dX5_fewestBars_184 : decode cX5_fewestBars 184 = .ok (.getfield 76, 3) := by decide +kernel
theorem dX5_fewestBars_187 : decode cX5_fewestBars 187 = .ok (.if_icmp .ge 45, 3) := by decide +kernel
theorem dX5_fewestBars_190 : decode cX5_fewestBars 190 = .ok (.aload_n 0, 1) := by decide +kernel
theorem dX5_fewestBars_191 : decode cX5_fewestBars 191 = .ok (.getfield 31, 3) := by decide +kernel
theorem dX5_fewestBars_194 : decode cX5_fewestBars 194 = .ok (.getfield 68, 3) := by decide +kernel
theorem dX5_fewestBars_197 : decode cX5_fewestBars 197 = .ok (.iload 5, 2) := by decide +kernel
theorem dX5_fewestBars_199 : decode cX5_fewestBars 199 = .ok (.aaload, 1) := by decide +kernel
theorem dX5_fewestBars_200 : decode cX5_fewestBars 200 = .ok (.getfield 102, 3) := by decide +kernel
theorem dX5_fewestBars_203 : decode cX5_fewestBars 203 = .ok (.iload_n 1, 1) := by decide +kernel
theorem dX5_fewestBars_204 : decode cX5_fewestBars 204 = .ok (.if_icmp .ne 18, 3) := by decide +kernel
theorem dX5_fewestBars_207 : decode cX5_fewestBars 207 = .ok (.iload 4, 2) := by decide +kernel
theorem dX5_fewestBars_209 : decode cX5_fewestBars 209 = .ok (.aload_n 0, 1) := by decide +kernel
theorem dX5_fewestBars_210 : decode cX5_fewestBars 210 = .ok (.getfield 28, 3) := by decide +kernel
theorem dX5_fewestBars_213 : decode cX5_fewestBars 213 = .ok (.iload 5, 2) := by decide +kernel
theorem dX5_fewestBars_215 : decode cX5_fewestBars 215 = .ok (.iaload, 1) := by decide +kernel
theorem dX5_fewestBars_216 : decode cX5_fewestBars 216 = .ok (.invokestatic 105, 3) := by decide +kernel
theorem dX5_fewestBars_219 : decode cX5_fewestBars 219 = .ok (.goto 5, 3) := by decide +kernel
theorem dX5_fewestBars_222 : decode cX5_fewestBars 222 = .ok (.iload 4, 2) := by decide +kernel
theorem dX5_fewestBars_224 : decode cX5_fewestBars 224 = .ok (.istore 4, 2) := by decide +kernel
theorem dX5_fewestBars_226 : decode cX5_fewestBars 226 = .ok (.iinc 5 1, 3) := by decide +kernel
theorem dX5_fewestBars_229 : decode cX5_fewestBars 229 = .ok (.goto (-51), 3) := by decide +kernel
theorem dX5_fewestBars_232 : decode cX5_fewestBars 232 = .ok (.aload_n 0, 1) := by decide +kernel
theorem dX5_fewestBars_233 : decode cX5_fewestBars 233 = .ok (.getfield 31, 3) := by decide +kernel
theorem dX5_fewestBars_236 : decode cX5_fewestBars 236 = .ok (.getfield 111, 3) := by decide +kernel
theorem dX5_fewestBars_239 : decode cX5_fewestBars 239 = .ok (.iload_n 2, 1) := by decide +kernel
theorem dX5_fewestBars_240 : decode cX5_fewestBars 240 = .ok (.aaload, 1) := by decide +kernel
theorem dX5_fewestBars_241 : decode cX5_fewestBars 241 = .ok (.iload_n 1, 1) := by decide +kernel
theorem dX5_fewestBars_242 : decode cX5_fewestBars 242 = .ok (.invokevirtual 115, 3) := by decide +kernel
theorem dX5_fewestBars_245 : decode cX5_fewestBars 245 = .ok (.ifCond .eq 22, 3) := by decide +kernel
theorem dX5_fewestBars_248 : decode cX5_fewestBars 248 = .ok (.aload_n 0, 1) := by decide +kernel
theorem dX5_fewestBars_249 : decode cX5_fewestBars 249 = .ok (.getfield 31, 3) := by decide +kernel
theorem dX5_fewestBars_252 : decode cX5_fewestBars 252 = .ok (.getfield 111, 3) := by decide +kernel
theorem dX5_fewestBars_255 : decode cX5_fewestBars 255 = .ok (.iload_n 2, 1) := by decide +kernel
theorem dX5_fewestBars_256 : decode cX5_fewestBars 256 = .ok (.aaload, 1) := by decide +kernel
theorem dX5_fewestBars_257 : decode cX5_fewestBars 257 = .ok (.getfield 120, 3) := by decide +kernel
theorem dX5_fewestBars_260 : decode cX5_fewestBars 260 = .ok (.ifCond .ne 7, 3) := by decide +kernel
theorem dX5_fewestBars_263 : decode cX5_fewestBars 263 = .ok (.iconst 1, 1) := by decide +kernel
theorem dX5_fewestBars_264 : decode cX5_fewestBars 264 = .ok (.goto 4, 3) := by decide +kernel
theorem dX5_fewestBars_267 : decode cX5_fewestBars 267 = .ok (.iconst 0, 1) := by decide +kernel
theorem dX5_fewestBars_268 : decode cX5_fewestBars 268 = .ok (.istore 5, 2) := by decide +kernel
theorem dX5_fewestBars_270 : decode cX5_fewestBars 270 = .ok (.iload 5, 2) := by decide +kernel
theorem dX5_fewestBars_272 : decode cX5_fewestBars 272 = .ok (.ifCond .eq 16, 3) := by decide +kernel
theorem dX5_fewestBars_275 : decode cX5_fewestBars 275 = .ok (.iload 4, 2) := by decide +kernel
theorem dX5_fewestBars_277 : decode cX5_fewestBars 277 = .ok (.sipush 1000, 3) := by decide +kernel
theorem dX5_fewestBars_280 : decode cX5_fewestBars 280 = .ok (.if_icmp .ge 8, 3) := by decide +kernel
theorem dX5_fewestBars_283 : decode cX5_fewestBars 283 = .ok (.iload 4, 2) := by decide +kernel
theorem dX5_fewestBars_285 : decode cX5_fewestBars 285 = .ok (.goto 5, 3) := by decide +kernel
theorem dX5_fewestBars_288 : decode cX5_fewestBars 288 = .ok (.bipush (-4), 2) := by decide +kernel
theorem dX5_fewestBars_290 : decode cX5_fewestBars 290 = .ok (.ireturn, 1) := by decide +kernel
theorem dX5_relax_0 : decode cX5_relax 0 = .ok (.iconst 0, 1) := by decide +kernel
theorem dX5_relax_1 : decode cX5_relax 1 = .ok (.istore_n 3, 1) := by decide +kernel
theorem dX5_relax_2 : decode cX5_relax 2 = .ok (.iconst 0, 1) := by decide +kernel
theorem dX5_relax_3 : decode cX5_relax 3 = .ok (.istore 4, 2) := by decide +kernel
theorem dX5_relax_5 : decode cX5_relax 5 = .ok (.iload 4, 2) := by decide +kernel
theorem dX5_relax_7 : decode cX5_relax 7 = .ok (.aload_n 0, 1) := by decide +kernel
theorem dX5_relax_8 : decode cX5_relax 8 = .ok (.getfield 31, 3) := by decide +kernel
theorem dX5_relax_11 : decode cX5_relax 11 = .ok (.getfield 76, 3) := by decide +kernel
theorem dX5_relax_14 : decode cX5_relax 14 = .ok (.if_icmp .ge 81, 3) := by decide +kernel
theorem dX5_relax_17 : decode cX5_relax 17 = .ok (.aload_n 0, 1) := by decide +kernel
theorem dX5_relax_18 : decode cX5_relax 18 = .ok (.getfield 31, 3) := by decide +kernel
theorem dX5_relax_21 : decode cX5_relax 21 = .ok (.getfield 68, 3) := by decide +kernel
theorem dX5_relax_24 : decode cX5_relax 24 = .ok (.iload 4, 2) := by decide +kernel
theorem dX5_relax_26 : decode cX5_relax 26 = .ok (.aaload, 1) := by decide +kernel
theorem dX5_relax_27 : decode cX5_relax 27 = .ok (.astore 5, 2) := by decide +kernel
theorem dX5_relax_29 : decode cX5_relax 29 = .ok (.iload_n 1, 1) := by decide +kernel
theorem dX5_relax_30 : decode cX5_relax 30 = .ok (.aload_n 0, 1) := by decide +kernel
theorem dX5_relax_31 : decode cX5_relax 31 = .ok (.getfield 31, 3) := by decide +kernel
theorem dX5_relax_34 : decode cX5_relax 34 = .ok (.aload 5, 2) := by decide +kernel
theorem dX5_relax_36 : decode cX5_relax 36 = .ok (.aload_n 0, 1) := by decide +kernel
theorem dX5_relax_37 : decode cX5_relax 37 = .ok (.getfield 31, 3) := by decide +kernel
theorem dX5_relax_40 : decode cX5_relax 40 = .ok (.getfield 111, 3) := by decide +kernel
theorem dX5_relax_43 : decode cX5_relax 43 = .ok (.iload_n 2, 1) := by decide +kernel
theorem dX5_relax_44 : decode cX5_relax 44 = .ok (.aaload, 1) := by decide +kernel
theorem dX5_relax_45 : decode cX5_relax 45 = .ok (.invokevirtual 124, 3) := by decide +kernel
theorem dX5_relax_48 : decode cX5_relax 48 = .ok (.invokestatic 128, 3) := by decide +kernel
theorem dX5_relax_51 : decode cX5_relax 51 = .ok (.iadd, 1) := by decide +kernel
theorem dX5_relax_52 : decode cX5_relax 52 = .ok (.istore 6, 2) := by decide +kernel
theorem dX5_relax_54 : decode cX5_relax 54 = .ok (.iload 6, 2) := by decide +kernel
theorem dX5_relax_56 : decode cX5_relax 56 = .ok (.aload_n 0, 1) := by decide +kernel
theorem dX5_relax_57 : decode cX5_relax 57 = .ok (.getfield 28, 3) := by decide +kernel
theorem dX5_relax_60 : decode cX5_relax 60 = .ok (.iload 4, 2) := by decide +kernel
theorem dX5_relax_62 : decode cX5_relax 62 = .ok (.iaload, 1) := by decide +kernel
theorem dX5_relax_63 : decode cX5_relax 63 = .ok (.if_icmp .ge 26, 3) := by decide +kernel
theorem dX5_relax_66 : decode cX5_relax 66 = .ok (.aload_n 0, 1) := by decide +kernel
theorem dX5_relax_67 : decode cX5_relax 67 = .ok (.getfield 12, 3) := by decide +kernel
theorem dX5_relax_70 : decode cX5_relax 70 = .ok (.aload 5, 2) := by decide +kernel
theorem dX5_relax_72 : decode cX5_relax 72 = .ok (.invokevirtual 79, 3) := by decide +kernel
theorem dX5_relax_75 : decode cX5_relax 75 = .ok (.ifCond .eq 14, 3) := by decide +kernel
theorem dX5_relax_78 : decode cX5_relax 78 = .ok (.aload_n 0, 1) := by decide +kernel
theorem dX5_relax_79 : decode cX5_relax 79 = .ok (.getfield 28, 3) := by decide +kernel
theorem dX5_relax_82 : decode cX5_relax 82 = .ok (.iload 4, 2) := by decide +kernel
theorem dX5_relax_84 : decode cX5_relax 84 = .ok (.iload 6, 2) := by decide +kernel
theorem dX5_relax_86 : decode cX5_relax 86 = .ok (.iastore, 1) := by decide +kernel
theorem dX5_relax_87 : decode cX5_relax 87 = .ok (.iconst 1, 1) := by decide +kernel
theorem dX5_relax_88 : decode cX5_relax 88 = .ok (.istore_n 3, 1) := by decide +kernel
theorem dX5_relax_89 : decode cX5_relax 89 = .ok (.iinc 4 1, 3) := by decide +kernel
theorem dX5_relax_92 : decode cX5_relax 92 = .ok (.goto (-87), 3) := by decide +kernel
theorem dX5_relax_95 : decode cX5_relax 95 = .ok (.iload_n 3, 1) := by decide +kernel
theorem dX5_relax_96 : decode cX5_relax 96 = .ok (.ireturn, 1) := by decide +kernel
theorem dX6_init_0 : decode cX6_init 0 = .ok (.aload_n 0, 1) := by decide +kernel
theorem dX6_init_1 : decode cX6_init 1 = .ok (.invokespecial 3, 3) := by decide +kernel
theorem dX6_init_4 : decode cX6_init 4 = .ok (.aload_n 0, 1) := by decide +kernel
theorem dX6_init_5 : decode cX6_init 5 = .ok (.bipush 16, 2) := by decide +kernel
theorem dX6_init_7 : decode cX6_init 7 = .ok (.newarray .int, 2) := by decide +kernel
theorem dX6_init_9 : decode cX6_init 9 = .ok (.putfield 9, 3) := by decide +kernel
theorem dX6_init_12 : decode cX6_init 12 = .ok (.aload_n 0, 1) := by decide +kernel
theorem dX6_init_13 : decode cX6_init 13 = .ok (.iconst (-1), 1) := by decide +kernel
theorem dX6_init_14 : decode cX6_init 14 = .ok (.putfield 15, 3) := by decide +kernel
theorem dX6_init_17 : decode cX6_init 17 = .ok (.return_, 1) := by decide +kernel
theorem dX6_begin_0 : decode cX6_begin 0 = .ok (.aload_n 0, 1) := by decide +kernel
theorem dX6_begin_1 : decode cX6_begin 1 = .ok (.iload_n 1, 1) := by decide +kernel
theorem dX6_begin_2 : decode cX6_begin 2 = .ok (.putfield 15, 3) := by decide +kernel
theorem dX6_begin_5 : decode cX6_begin 5 = .ok (.aload_n 0, 1) := by decide +kernel
theorem dX6_begin_6 : decode cX6_begin 6 = .ok (.iload_n 2, 1) := by decide +kernel
theorem dX6_begin_7 : decode cX6_begin 7 = .ok (.putfield 19, 3) := by decide +kernel
theorem dX6_begin_10 : decode cX6_begin 10 = .ok (.aload_n 0, 1) := by decide +kernel
theorem dX6_begin_11 : decode cX6_begin 11 = .ok (.getfield 9, 3) := by decide +kernel
theorem dX6_begin_14 : decode cX6_begin 14 = .ok (.iconst 0, 1) := by decide +kernel
theorem dX6_begin_15 : decode cX6_begin 15 = .ok (.invokestatic 22, 3) := by decide +kernel
theorem dX6_begin_18 : decode cX6_begin 18 = .ok (.return_, 1) := by decide +kernel
theorem dX6_refuse_0 : decode cX6_refuse 0 = .ok (.aload_n 0, 1) := by decide +kernel
theorem dX6_refuse_1 : decode cX6_refuse 1 = .ok (.getfield 15, 3) := by decide +kernel
theorem dX6_refuse_4 : decode cX6_refuse 4 = .ok (.iconst (-1), 1) := by decide +kernel
theorem dX6_refuse_5 : decode cX6_refuse 5 = .ok (.if_icmp .ne 6, 3) := by decide +kernel
theorem dX6_refuse_8 : decode cX6_refuse 8 = .ok (.bipush (-11), 2) := by decide +kernel
theorem dX6_refuse_10 : decode cX6_refuse 10 = .ok (.ireturn, 1) := by decide +kernel
theorem dX6_refuse_11 : decode cX6_refuse 11 = .ok (.aload_n 0, 1) := by decide +kernel
theorem dX6_refuse_12 : decode cX6_refuse 12 = .ok (.getfield 15, 3) := by decide +kernel
theorem dX6_refuse_15 : decode cX6_refuse 15 = .ok (.iload_n 1, 1) := by decide +kernel
theorem dX6_refuse_16 : decode cX6_refuse 16 = .ok (.if_icmp .ne 7, 3) := by decide +kernel
theorem dX6_refuse_19 : decode cX6_refuse 19 = .ok (.iconst 0, 1) := by decide +kernel
theorem dX6_refuse_20 : decode cX6_refuse 20 = .ok (.goto 5, 3) := by decide +kernel
theorem dX6_refuse_23 : decode cX6_refuse 23 = .ok (.bipush (-12), 2) := by decide +kernel
theorem dX6_refuse_25 : decode cX6_refuse 25 = .ok (.ireturn, 1) := by decide +kernel
theorem dX6_put_0 : decode cX6_put 0 = .ok (.aload_n 0, 1) := by decide +kernel
theorem dX6_put_1 : decode cX6_put 1 = .ok (.getfield 15, 3) := by decide +kernel
theorem dX6_put_4 : decode cX6_put 4 = .ok (.lookupswitch 50 #[(0, 28), (1, 39)], 28) := by decide +kernel
theorem dX6_put_32 : decode cX6_put 32 = .ok (.aload_n 0, 1) := by decide +kernel
theorem dX6_put_33 : decode cX6_put 33 = .ok (.getfield 9, 3) := by decide +kernel
theorem dX6_put_36 : decode cX6_put 36 = .ok (.iload_n 1, 1) := by decide +kernel
theorem dX6_put_37 : decode cX6_put 37 = .ok (.iload_n 2, 1) := by decide +kernel
theorem dX6_put_38 : decode cX6_put 38 = .ok (.i2b, 1) := by decide +kernel
theorem dX6_put_39 : decode cX6_put 39 = .ok (.iastore, 1) := by decide +kernel
theorem dX6_put_40 : decode cX6_put 40 = .ok (.goto 21, 3) := by decide +kernel
theorem dX6_put_43 : decode cX6_put 43 = .ok (.aload_n 0, 1) := by decide +kernel
theorem dX6_put_44 : decode cX6_put 44 = .ok (.getfield 9, 3) := by decide +kernel
theorem dX6_put_47 : decode cX6_put 47 = .ok (.iload_n 1, 1) := by decide +kernel
theorem dX6_put_48 : decode cX6_put 48 = .ok (.iload_n 2, 1) := by decide +kernel
theorem dX6_put_49 : decode cX6_put 49 = .ok (.i2s, 1) := by decide +kernel
theorem dX6_put_50 : decode cX6_put 50 = .ok (.iastore, 1) := by decide +kernel
theorem dX6_put_51 : decode cX6_put 51 = .ok (.goto 10, 3) := by decide +kernel
theorem dX6_put_54 : decode cX6_put 54 = .ok (.aload_n 0, 1) := by decide +kernel
theorem dX6_put_55 : decode cX6_put 55 = .ok (.getfield 9, 3) := by decide +kernel
theorem dX6_put_58 : decode cX6_put 58 = .ok (.iload_n 1, 1) := by decide +kernel
theorem dX6_put_59 : decode cX6_put 59 = .ok (.iload_n 2, 1) := by decide +kernel
theorem dX6_put_60 : decode cX6_put 60 = .ok (.iastore, 1) := by decide +kernel
theorem dX6_put_61 : decode cX6_put 61 = .ok (.return_, 1) := by decide +kernel
theorem dX6_marksFrom_0 : decode cX6_marksFrom 0 = .ok (.iconst 0, 1) := by decide +kernel
theorem dX6_marksFrom_1 : decode cX6_marksFrom 1 = .ok (.istore_n 2, 1) := by decide +kernel
theorem dX6_marksFrom_2 : decode cX6_marksFrom 2 = .ok (.iconst 0, 1) := by decide +kernel
theorem dX6_marksFrom_3 : decode cX6_marksFrom 3 = .ok (.istore_n 3, 1) := by decide +kernel
theorem dX6_marksFrom_4 : decode cX6_marksFrom 4 = .ok (.iload_n 3, 1) := by decide +kernel
theorem dX6_marksFrom_5 : decode cX6_marksFrom 5 = .ok (.bipush 6, 2) := by decide +kernel
theorem dX6_marksFrom_7 : decode cX6_marksFrom 7 = .ok (.if_icmp .ge 30, 3) := by decide +kernel
theorem dX6_marksFrom_10 : decode cX6_marksFrom 10 = .ok (.iload_n 2, 1) := by decide +kernel
theorem dX6_marksFrom_11 : decode cX6_marksFrom 11 = .ok (.aload_n 0, 1) := by decide +kernel
theorem dX6_marksFrom_12 : decode cX6_marksFrom 12 = .ok (.getfield 9, 3) := by decide +kernel
theorem dX6_marksFrom_15 : decode cX6_marksFrom 15 = .ok (.iload_n 1, 1) := by decide +kernel
theorem dX6_marksFrom_16 : decode cX6_marksFrom 16 = .ok (.iload_n 3, 1) := by decide +kernel
theorem dX6_marksFrom_17 : decode cX6_marksFrom 17 = .ok (.iadd, 1) := by decide +kernel
theorem dX6_marksFrom_18 : decode cX6_marksFrom 18 = .ok (.iaload, 1) := by decide +kernel
theorem dX6_marksFrom_19 : decode cX6_marksFrom 19 = .ok (.ifCond .eq 9, 3) := by decide +kernel
theorem dX6_marksFrom_22 : decode cX6_marksFrom 22 = .ok (.iconst 1, 1) := by decide +kernel
theorem dX6_marksFrom_23 : decode cX6_marksFrom 23 = .ok (.iload_n 3, 1) := by decide +kernel
theorem dX6_marksFrom_24 : decode cX6_marksFrom 24 = .ok (.ishl, 1) := by decide +kernel
theorem dX6_marksFrom_25 : decode cX6_marksFrom 25 = .ok (.goto 4, 3) := by decide +kernel
theorem dX6_marksFrom_28 : decode cX6_marksFrom 28 = .ok (.iconst 0, 1) := by decide +kernel
theorem dX6_marksFrom_29 : decode cX6_marksFrom 29 = .ok (.ior, 1) := by decide +kernel
theorem dX6_marksFrom_30 : decode cX6_marksFrom 30 = .ok (.istore_n 2, 1) := by decide +kernel
theorem dX6_marksFrom_31 : decode cX6_marksFrom 31 = .ok (.iinc 3 1, 3) := by decide +kernel
theorem dX6_marksFrom_34 : decode cX6_marksFrom 34 = .ok (.goto (-30), 3) := by decide +kernel
theorem dX6_marksFrom_37 : decode cX6_marksFrom 37 = .ok (.iload_n 2, 1) := by decide +kernel
theorem dX6_marksFrom_38 : decode cX6_marksFrom 38 = .ok (.ireturn, 1) := by decide +kernel
theorem dX7_init_0 : decode cX7_init 0 = .ok (.aload_n 0, 1) := by decide +kernel
theorem dX7_init_1 : decode cX7_init 1 = .ok (.invokespecial 3, 3) := by decide +kernel
theorem dX7_init_4 : decode cX7_init 4 = .ok (.aload_n 0, 1) := by decide +kernel
theorem dX7_init_5 : decode cX7_init 5 = .ok (.bipush 120, 2) := by decide +kernel
theorem dX7_init_7 : decode cX7_init 7 = .ok (.newarray .char, 2) := by decide +kernel
theorem dX7_init_9 : decode cX7_init 9 = .ok (.putfield 9, 3) := by decide +kernel
theorem dX7_init_12 : decode cX7_init 12 = .ok (.aload_n 0, 1) := by decide +kernel
theorem dX7_init_13 : decode cX7_init 13 = .ok (.bipush 12, 2) := by decide +kernel
theorem dX7_init_15 : decode cX7_init 15 = .ok (.anewarray 15, 3) := by decide +kernel
theorem dX7_init_18 : decode cX7_init 18 = .ok (.putfield 17, 3) := by decide +kernel
theorem dX7_init_21 : decode cX7_init 21 = .ok (.aload_n 0, 1) := by decide +kernel
theorem dX7_init_22 : decode cX7_init 22 = .ok (.bipush 12, 2) := by decide +kernel
theorem dX7_init_24 : decode cX7_init 24 = .ok (.anewarray 21, 3) := by decide +kernel
theorem dX7_init_27 : decode cX7_init 27 = .ok (.putfield 23, 3) := by decide +kernel
theorem dX7_init_30 : decode cX7_init 30 = .ok (.iconst 0, 1) := by decide +kernel
theorem dX7_init_31 : decode cX7_init 31 = .ok (.istore_n 1, 1) := by decide +kernel
theorem dX7_init_32 : decode cX7_init 32 = .ok (.iload_n 1, 1) := by decide +kernel
theorem dX7_init_33 : decode cX7_init 33 = .ok (.bipush 12, 2) := by decide +kernel
theorem dX7_init_35 : decode cX7_init 35 = .ok (.if_icmp .ge 35, 3) := by decide +kernel
theorem dX7_init_38 : decode cX7_init 38 = .ok (.aload_n 0, 1) := by decide +kernel
theorem dX7_init_39 : decode cX7_init 39 = .ok (.getfield 17, 3) := by decide +kernel
theorem dX7_init_42 : decode cX7_init 42 = .ok (.iload_n 1, 1) := by decide +kernel
theorem dX7_init_43 : decode cX7_init 43 = .ok (.new 15, 3) := by decide +kernel
theorem dX7_init_46 : decode cX7_init 46 = .ok (.dup, 1) := by decide +kernel
theorem dX7_init_47 : decode cX7_init 47 = .ok (.invokespecial 27, 3) := by decide +kernel
theorem dX7_init_50 : decode cX7_init 50 = .ok (.aastore, 1) := by decide +kernel
theorem dX7_init_51 : decode cX7_init 51 = .ok (.aload_n 0, 1) := by decide +kernel
theorem dX7_init_52 : decode cX7_init 52 = .ok (.getfield 23, 3) := by decide +kernel
theorem dX7_init_55 : decode cX7_init 55 = .ok (.iload_n 1, 1) := by decide +kernel
theorem dX7_init_56 : decode cX7_init 56 = .ok (.new 21, 3) := by decide +kernel
theorem dX7_init_59 : decode cX7_init 59 = .ok (.dup, 1) := by decide +kernel
theorem dX7_init_60 : decode cX7_init 60 = .ok (.invokespecial 28, 3) := by decide +kernel
theorem dX7_init_63 : decode cX7_init 63 = .ok (.aastore, 1) := by decide +kernel
theorem dX7_init_64 : decode cX7_init 64 = .ok (.iinc 1 1, 3) := by decide +kernel
theorem dX7_init_67 : decode cX7_init 67 = .ok (.goto (-35), 3) := by decide +kernel
theorem dX7_init_70 : decode cX7_init 70 = .ok (.return_, 1) := by decide +kernel
theorem dX7_write_0 : decode cX7_write 0 = .ok (.aload_n 0, 1) := by decide +kernel
theorem dX7_write_1 : decode cX7_write 1 = .ok (.getfield 29, 3) := by decide +kernel
theorem dX7_write_4 : decode cX7_write 4 = .ok (.bipush 120, 2) := by decide +kernel
theorem dX7_write_6 : decode cX7_write 6 = .ok (.if_icmp .ge 23, 3) := by decide +kernel
theorem dX7_write_9 : decode cX7_write 9 = .ok (.aload_n 0, 1) := by decide +kernel
theorem dX7_write_10 : decode cX7_write 10 = .ok (.getfield 9, 3) := by decide +kernel
theorem dX7_write_13 : decode cX7_write 13 = .ok (.aload_n 0, 1) := by decide +kernel
theorem dX7_write_14 : decode cX7_write 14 = .ok (.getfield 29, 3) := by decide +kernel
theorem dX7_write_17 : decode cX7_write 17 = .ok (.iload_n 1, 1) := by decide +kernel
theorem dX7_write_18 : decode cX7_write 18 = .ok (.castore, 1) := by decide +kernel
theorem dX7_write_19 : decode cX7_write 19 = .ok (.aload_n 0, 1) := by decide +kernel
theorem dX7_write_20 : decode cX7_write 20 = .ok (.dup, 1) := by decide +kernel
theorem dX7_write_21 : decode cX7_write 21 = .ok (.getfield 29, 3) := by decide +kernel
theorem dX7_write_24 : decode cX7_write 24 = .ok (.iconst 1, 1) := by decide +kernel
theorem dX7_write_25 : decode cX7_write 25 = .ok (.iadd, 1) := by decide +kernel
theorem dX7_write_26 : decode cX7_write 26 = .ok (.putfield 29, 3) := by decide +kernel
theorem dX7_write_29 : decode cX7_write 29 = .ok (.return_, 1) := by decide +kernel
theorem dX7_parse_0 : decode cX7_parse 0 = .ok (.aload_n 0, 1) := by decide +kernel
theorem dX7_parse_1 : decode cX7_parse 1 = .ok (.iconst 0, 1) := by decide +kernel
theorem dX7_parse_2 : decode cX7_parse 2 = .ok (.putfield 33, 3) := by decide +kernel
theorem dX7_parse_5 : decode cX7_parse 5 = .ok (.aload_n 0, 1) := by decide +kernel
theorem dX7_parse_6 : decode cX7_parse 6 = .ok (.iconst (-1), 1) := by decide +kernel
theorem dX7_parse_7 : decode cX7_parse 7 = .ok (.putfield 36, 3) := by decide +kernel
theorem dX7_parse_10 : decode cX7_parse 10 = .ok (.aload_n 0, 1) := by decide +kernel
theorem dX7_parse_11 : decode cX7_parse 11 = .ok (.iconst 0, 1) := by decide +kernel
theorem dX7_parse_12 : decode cX7_parse 12 = .ok (.putfield 39, 3) := by decide +kernel
theorem dX7_parse_15 : decode cX7_parse 15 = .ok (.aload_n 0, 1) := by decide +kernel
theorem dX7_parse_16 : decode cX7_parse 16 = .ok (.iconst 0, 1) := by decide +kernel
theorem dX7_parse_17 : decode cX7_parse 17 = .ok (.putfield 42, 3) := by decide +kernel
theorem dX7_parse_20 : decode cX7_parse 20 = .ok (.iconst 0, 1) := by decide +kernel
theorem dX7_parse_21 : decode cX7_parse 21 = .ok (.istore_n 1, 1) := by decide +kernel
theorem dX7_parse_22 : decode cX7_parse 22 = .ok (.aload_n 0, 1) := by decide +kernel
theorem dX7_parse_23 : decode cX7_parse 23 = .ok (.invokevirtual 45, 3) := by decide +kernel
theorem dX7_parse_26 : decode cX7_parse 26 = .ok (.iinc 1 1, 3) := by decide +kernel
theorem dX7_parse_29 : decode cX7_parse 29 = .ok (.iload_n 1, 1) := by decide +kernel
theorem dX7_parse_30 : decode cX7_parse 30 = .ok (.bipush 12, 2) := by decide +kernel
theorem dX7_parse_32 : decode cX7_parse 32 = .ok (.if_icmp .ge 20, 3) := by decide +kernel
theorem dX7_parse_35 : decode cX7_parse 35 = .ok (.aload_n 0, 1) := by decide +kernel
theorem dX7_parse_36 : decode cX7_parse 36 = .ok (.getfield 36, 3) := by decide +kernel
theorem dX7_parse_39 : decode cX7_parse 39 = .ok (.iconst (-1), 1) := by decide +kernel
theorem dX7_parse_40 : decode cX7_parse 40 = .ok (.if_icmp .ne 12, 3) := by decide +kernel
theorem dX7_parse_43 : decode cX7_parse 43 = .ok (.aload_n 0, 1) := by decide +kernel
theorem dX7_parse_44 : decode cX7_parse 44 = .ok (.bipush 59, 2) := by decide +kernel
theorem dX7_parse_46 : decode cX7_parse 46 = .ok (.invokevirtual 48, 3) := by decide +kernel
theorem dX7_parse_49 : decode cX7_parse 49 = .ok (.ifCond .ne (-27), 3) := by decide +kernel
theorem dX7_parse_52 : decode cX7_parse 52 = .ok (.aload_n 0, 1) := by decide +kernel
theorem dX7_parse_53 : decode cX7_parse 53 = .ok (.invokevirtual 52, 3) := by decide +kernel
theorem dX7_parse_56 : decode cX7_parse 56 = .ok (.iconst (-1), 1) := by decide +kernel
theorem dX7_parse_57 : decode cX7_parse 57 = .ok (.if_icmp .eq 11, 3) := by decide +kernel
theorem dX7_parse_60 : decode cX7_parse 60 = .ok (.aload_n 0, 1) := by decide +kernel
theorem dX7_parse_61 : decode cX7_parse 61 = .ok (.aload_n 0, 1) := by decide +kernel
theorem dX7_parse_62 : decode cX7_parse 62 = .ok (.getfield 33, 3) := by decide +kernel
theorem dX7_parse_65 : decode cX7_parse 65 = .ok (.invokevirtual 56, 3) := by decide +kernel
theorem dX7_parse_68 : decode cX7_parse 68 = .ok (.aload_n 0, 1) := by decide +kernel
theorem dX7_parse_69 : decode cX7_parse 69 = .ok (.getfield 36, 3) := by decide +kernel
theorem dX7_parse_72 : decode cX7_parse 72 = .ok (.iconst (-1), 1) := by decide +kernel
theorem dX7_parse_73 : decode cX7_parse 73 = .ok (.if_icmp .ne 7, 3) := by decide +kernel
theorem dX7_parse_76 : decode cX7_parse 76 = .ok (.iload_n 1, 1) := by decide +kernel
theorem dX7_parse_77 : decode cX7_parse 77 = .ok (.goto 10, 3) := by decide +kernel
theorem dX7_parse_80 : decode cX7_parse 80 = .ok (.bipush (-20), 2) := by decide +kernel
theorem dX7_parse_82 : decode cX7_parse 82 = .ok (.aload_n 0, 1) := by decide +kernel
theorem dX7_parse_83 : decode cX7_parse 83 = .ok (.getfield 36, 3) := by decide +kernel
theorem dX7_parse_86 : decode cX7_parse 86 = .ok (.isub, 1) := by decide +kernel
theorem dX7_parse_87 : decode cX7_parse 87 = .ok (.ireturn, 1) := by decide +kernel
theorem dX7_fail_0 : decode cX7_fail 0 = .ok (.aload_n 0, 1) := by decide +kernel
theorem dX7_fail_1 : decode cX7_fail 1 = .ok (.getfield 36, 3) := by decide +kernel
theorem dX7_fail_4 : decode cX7_fail 4 = .ok (.iconst (-1), 1) := by decide +kernel
theorem dX7_fail_5 : decode cX7_fail 5 = .ok (.if_icmp .ne 8, 3) := by decide +kernel
theorem dX7_fail_8 : decode cX7_fail 8 = .ok (.aload_n 0, 1) := by decide +kernel
theorem dX7_fail_9 : decode cX7_fail 9 = .ok (.iload_n 1, 1) := by decide +kernel
theorem dX7_fail_10 : decode cX7_fail 10 = .ok (.putfield 36, 3) := by decide +kernel
theorem dX7_fail_13 : decode cX7_fail 13 = .ok (.return_, 1) := by decide +kernel
theorem dX7_next_0 : decode cX7_next 0 = .ok (.aload_n 0, 1) := by decide +kernel
theorem dX7_next_1 : decode cX7_next 1 = .ok (.getfield 33, 3) := by decide +kernel
theorem dX7_next_4 : decode cX7_next 4 = .ok (.aload_n 0, 1) := by decide +kernel
theorem dX7_next_5 : decode cX7_next 5 = .ok (.getfield 29, 3) := by decide +kernel
theorem dX7_next_8 : decode cX7_next 8 = .ok (.if_icmp .ge 30, 3) := by decide +kernel
theorem dX7_next_11 : decode cX7_next 11 = .ok (.aload_n 0, 1) := by decide +kernel
theorem dX7_next_12 : decode cX7_next 12 = .ok (.getfield 9, 3) := by decide +kernel
theorem dX7_next_15 : decode cX7_next 15 = .ok (.aload_n 0, 1) := by decide +kernel
theorem dX7_next_16 : decode cX7_next 16 = .ok (.getfield 33, 3) := by decide +kernel
theorem dX7_next_19 : decode cX7_next 19 = .ok (.caload, 1) := by decide +kernel
theorem dX7_next_20 : decode cX7_next 20 = .ok (.bipush 32, 2) := by decide +kernel
theorem dX7_next_22 : decode cX7_next 22 = .ok (.if_icmp .ne 16, 3) := by decide +kernel
theorem dX7_next_25 : decode cX7_next 25 = .ok (.aload_n 0, 1) := by decide +kernel
theorem dX7_next_26 : decode cX7_next 26 = .ok (.dup, 1) := by decide +kernel
theorem dX7_next_27 : decode cX7_next 27 = .ok (.getfield 33, 3) := by decide +kernel
theorem dX7_next_30 : decode cX7_next 30 = .ok (.iconst 1, 1) := by decide +kernel
theorem dX7_next_31 : decode cX7_next 31 = .ok (.iadd, 1) := by decide +kernel
theorem dX7_next_32 : decode cX7_next 32 = .ok (.putfield 33, 3) := by decide +kernel
theorem dX7_next_35 : decode cX7_next 35 = .ok (.goto (-35), 3) := by decide +kernel
theorem dX7_next_38 : decode cX7_next 38 = .ok (.aload_n 0, 1) := by decide +kernel
theorem dX7_next_39 : decode cX7_next 39 = .ok (.getfield 33, 3) := by decide +kernel
theorem dX7_next_42 : decode cX7_next 42 = .ok (.aload_n 0, 1) := by decide +kernel
theorem dX7_next_43 : decode cX7_next 43 = .ok (.getfield 29, 3) := by decide +kernel
theorem dX7_next_46 : decode cX7_next 46 = .ok (.if_icmp .ge 15, 3) := by decide +kernel
theorem dX7_next_49 : decode cX7_next 49 = .ok (.aload_n 0, 1) := by decide +kernel
theorem dX7_next_50 : decode cX7_next 50 = .ok (.getfield 9, 3) := by decide +kernel
theorem dX7_next_53 : decode cX7_next 53 = .ok (.aload_n 0, 1) := by decide +kernel
theorem dX7_next_54 : decode cX7_next 54 = .ok (.getfield 33, 3) := by decide +kernel
theorem dX7_next_57 : decode cX7_next 57 = .ok (.caload, 1) := by decide +kernel
theorem dX7_next_58 : decode cX7_next 58 = .ok (.goto 4, 3) := by decide +kernel
theorem dX7_next_61 : decode cX7_next 61 = .ok (.iconst (-1), 1) := by decide +kernel
theorem dX7_next_62 : decode cX7_next 62 = .ok (.ireturn, 1) := by decide +kernel
theorem dX7_takes_0 : decode cX7_takes 0 = .ok (.aload_n 0, 1) := by decide +kernel
theorem dX7_takes_1 : decode cX7_takes 1 = .ok (.invokevirtual 52, 3) := by decide +kernel
theorem dX7_takes_4 : decode cX7_takes 4 = .ok (.iload_n 1, 1) := by decide +kernel
theorem dX7_takes_5 : decode cX7_takes 5 = .ok (.if_icmp .ne 7, 3) := by decide +kernel
theorem dX7_takes_8 : decode cX7_takes 8 = .ok (.iconst 1, 1) := by decide +kernel
theorem dX7_takes_9 : decode cX7_takes 9 = .ok (.goto 4, 3) := by decide +kernel
theorem dX7_takes_12 : decode cX7_takes 12 = .ok (.iconst 0, 1) := by decide +kernel
theorem dX7_takes_13 : decode cX7_takes 13 = .ok (.istore_n 2, 1) := by decide +kernel
theorem dX7_takes_14 : decode cX7_takes 14 = .ok (.iload_n 2, 1) := by decide +kernel
theorem dX7_takes_15 : decode cX7_takes 15 = .ok (.ifCond .eq 13, 3) := by decide +kernel
theorem dX7_takes_18 : decode cX7_takes 18 = .ok (.aload_n 0, 1) := by decide +kernel
theorem dX7_takes_19 : decode cX7_takes 19 = .ok (.dup, 1) := by decide +kernel
theorem dX7_takes_20 : decode cX7_takes 20 = .ok (.getfield 33, 3) := by decide +kernel
theorem dX7_takes_23 : decode cX7_takes 23 = .ok (.iconst 1, 1) := by decide +kernel
theorem dX7_takes_24 : decode cX7_takes 24 = .ok (.iadd, 1) := by decide +kernel
theorem dX7_takes_25 : decode cX7_takes 25 = .ok (.putfield 33, 3) := by decide +kernel
theorem dX7_takes_28 : decode cX7_takes 28 = .ok (.iload_n 2, 1) := by decide +kernel
theorem dX7_takes_29 : decode cX7_takes 29 = .ok (.ireturn, 1) := by decide +kernel
theorem dX7_need_0 : decode cX7_need 0 = .ok (.aload_n 0, 1) := by decide +kernel
theorem dX7_need_1 : decode cX7_need 1 = .ok (.iload_n 1, 1) := by decide +kernel
theorem dX7_need_2 : decode cX7_need 2 = .ok (.invokevirtual 48, 3) := by decide +kernel
theorem dX7_need_5 : decode cX7_need 5 = .ok (.ifCond .ne 11, 3) := by decide +kernel
theorem dX7_need_8 : decode cX7_need 8 = .ok (.aload_n 0, 1) := by decide +kernel
theorem dX7_need_9 : decode cX7_need 9 = .ok (.aload_n 0, 1) := by decide +kernel
theorem dX7_need_10 : decode cX7_need 10 = .ok (.getfield 33, 3) := by decide +kernel
theorem dX7_need_13 : decode cX7_need 13 = .ok (.invokevirtual 56, 3) := by decide +kernel
theorem dX7_need_16 : decode cX7_need 16 = .ok (.return_, 1) := by decide +kernel
theorem dX7_readClause_0 : decode cX7_readClause 0 = .ok (.aload_n 0, 1) := by decide +kernel
theorem dX7_readClause_1 : decode cX7_readClause 1 = .ok (.bipush (-4), 2) := by decide +kernel
theorem dX7_readClause_3 : decode cX7_readClause 3 = .ok (.invokevirtual 60, 3) := by decide +kernel
theorem dX7_readClause_6 : decode cX7_readClause 6 = .ok (.istore_n 1, 1) := by decide +kernel
theorem dX7_readClause_7 : decode cX7_readClause 7 = .ok (.aload_n 0, 1) := by decide +kernel
theorem dX7_readClause_8 : decode cX7_readClause 8 = .ok (.bipush 58, 2) := by decide +kernel
theorem dX7_readClause_10 : decode cX7_readClause 10 = .ok (.invokevirtual 48, 3) := by decide +kernel
theorem dX7_readClause_13 : decode cX7_readClause 13 = .ok (.ifCond .eq 11, 3) := by decide +kernel
theorem dX7_readClause_16 : decode cX7_readClause 16 = .ok (.aload_n 0, 1) := by decide +kernel
theorem dX7_readClause_17 : decode cX7_readClause 17 = .ok (.iload_n 1, 1) := by decide +kernel
theorem dX7_readClause_18 : decode cX7_readClause 18 = .ok (.invokevirtual 64, 3) := by decide +kernel
theorem dX7_readClause_21 : decode cX7_readClause 21 = .ok (.goto 28, 3) := by decide +kernel
theorem dX7_readClause_24 : decode cX7_readClause 24 = .ok (.aload_n 0, 1) := by decide +kernel
theorem dX7_readClause_25 : decode cX7_readClause 25 = .ok (.bipush 62, 2) := by decide +kernel
theorem dX7_readClause_27 : decode cX7_readClause 27 = .ok (.invokevirtual 48, 3) := by decide +kernel
theorem dX7_readClause_30 : decode cX7_readClause 30 = .ok (.ifCond .eq 11, 3) := by decide +kernel
theorem dX7_readClause_33 : decode cX7_readClause 33 = .ok (.aload_n 0, 1) := by decide +kernel
theorem dX7_readClause_34 : decode cX7_readClause 34 = .ok (.iload_n 1, 1) := by decide +kernel
theorem dX7_readClause_35 : decode cX7_readClause 35 = .ok (.invokevirtual 67, 3) := by decide +kernel
theorem dX7_readClause_38 : decode cX7_readClause 38 = .ok (.goto 11, 3) := by decide +kernel
theorem dX7_readClause_41 : decode cX7_readClause 41 = .ok (.aload_n 0, 1) := by decide +kernel
theorem dX7_readClause_42 : decode cX7_readClause 42 = .ok (.aload_n 0, 1) := by decide +kernel
theorem dX7_readClause_43 : decode cX7_readClause 43 = .ok (.getfield 33, 3) := by decide +kernel
theorem dX7_readClause_46 : decode cX7_readClause 46 = .ok (.invokevirtual 56, 3) := by decide +kernel
theorem dX7_readClause_49 : decode cX7_readClause 49 = .ok (.return_, 1) := by decide +kernel
theorem dX7_readCrime_0 : decode cX7_readCrime 0 = .ok (.aload_n 0, 1) := by decide +kernel
theorem dX7_readCrime_1 : decode cX7_readCrime 1 = .ok (.iconst 0, 1) := by decide +kernel
theorem dX7_readCrime_2 : decode cX7_readCrime 2 = .ok (.invokevirtual 70, 3) := by decide +kernel
theorem dX7_readCrime_5 : decode cX7_readCrime 5 = .ok (.istore_n 2, 1) := by decide +kernel
theorem dX7_readCrime_6 : decode cX7_readCrime 6 = .ok (.aload_n 0, 1) := by decide +kernel
theorem dX7_readCrime_7 : decode cX7_readCrime 7 = .ok (.bipush 45, 2) := by decide +kernel
theorem dX7_readCrime_9 : decode cX7_readCrime 9 = .ok (.invokevirtual 48, 3) := by decide +kernel
theorem dX7_readCrime_12 : decode cX7_readCrime 12 = .ok (.ifCond .eq 11, 3) := by decide +kernel
theorem dX7_readCrime_15 : decode cX7_readCrime 15 = .ok (.aload_n 0, 1) := by decide +kernel
theorem dX7_readCrime_16 : decode cX7_readCrime 16 = .ok (.iload_n 2, 1) := by decide +kernel
theorem dX7_readCrime_17 : decode cX7_readCrime 17 = .ok (.invokevirtual 70, 3) := by decide +kernel
theorem dX7_readCrime_20 : decode cX7_readCrime 20 = .ok (.goto 4, 3) := by decide +kernel
theorem dX7_readCrime_23 : decode cX7_readCrime 23 = .ok (.iconst 0, 1) := by decide +kernel
theorem dX7_readCrime_24 : decode cX7_readCrime 24 = .ok (.istore_n 3, 1) := by decide +kernel
theorem dX7_readCrime_25 : decode cX7_readCrime 25 = .ok (.aload_n 0, 1) := by decide +kernel
theorem dX7_readCrime_26 : decode cX7_readCrime 26 = .ok (.iconst 0, 1) := by decide +kernel
theorem dX7_readCrime_27 : decode cX7_readCrime 27 = .ok (.bipush 40, 2) := by decide +kernel
theorem dX7_readCrime_29 : decode cX7_readCrime 29 = .ok (.invokevirtual 73, 3) := by decide +kernel
theorem dX7_readCrime_32 : decode cX7_readCrime 32 = .ok (.istore 4, 2) := by decide +kernel
theorem dX7_readCrime_34 : decode cX7_readCrime 34 = .ok (.aload_n 0, 1) := by decide +kernel
theorem dX7_readCrime_35 : decode cX7_readCrime 35 = .ok (.bipush 46, 2) := by decide +kernel
theorem dX7_readCrime_37 : decode cX7_readCrime 37 = .ok (.invokevirtual 77, 3) := by decide +kernel
theorem dX7_readCrime_40 : decode cX7_readCrime 40 = .ok (.aload_n 0, 1) := by decide +kernel
theorem dX7_readCrime_41 : decode cX7_readCrime 41 = .ok (.bipush 46, 2) := by decide +kernel
theorem dX7_readCrime_43 : decode cX7_readCrime 43 = .ok (.invokevirtual 77, 3) := by decide +kernel
theorem dX7_readCrime_46 : decode cX7_readCrime 46 = .ok (.aload_n 0, 1) := by decide +kernel
theorem dX7_readCrime_47 : decode cX7_readCrime 47 = .ok (.iconst 1, 1) := by decide +kernel
theorem dX7_readCrime_48 : decode cX7_readCrime 48 = .ok (.iload 4, 2) := by decide +kernel
theorem dX7_readCrime_50 : decode cX7_readCrime 50 = .ok (.invokestatic 80, 3) := by decide +kernel
theorem dX7_readCrime_53 : decode cX7_readCrime 53 = .ok (.bipush 40, 2) := by decide +kernel
theorem dX7_readCrime_55 : decode cX7_readCrime 55 = .ok (.invokevirtual 73, 3) := by decide +kernel
theorem dX7_readCrime_58 : decode cX7_readCrime 58 = .ok (.istore 5, 2) := by decide +kernel
theorem dX7_readCrime_60 : decode cX7_readCrime 60 = .ok (.aload_n 0, 1) := by decide +kernel
theorem dX7_readCrime_61 : decode cX7_readCrime 61 = .ok (.bipush 33, 2) := by decide +kernel
theorem dX7_readCrime_63 : decode cX7_readCrime 63 = .ok (.invokevirtual 48, 3) := by decide +kernel
theorem dX7_readCrime_66 : decode cX7_readCrime 66 = .ok (.istore 6, 2) := by decide +kernel
theorem dX7_readCrime_68 : decode cX7_readCrime 68 = .ok (.aload_n 0, 1) := by decide +kernel
theorem dX7_readCrime_69 : decode cX7_readCrime 69 = .ok (.getfield 36, 3) := by decide +kernel
theorem dX7_readCrime_72 : decode cX7_readCrime 72 = .ok (.iconst (-1), 1) := by decide +kernel
theorem dX7_readCrime_73 : decode cX7_readCrime 73 = .ok (.if_icmp .ne 43, 3) := by decide +kernel
theorem dX7_readCrime_76 : decode cX7_readCrime 76 = .ok (.aload_n 0, 1) := by decide +kernel
theorem dX7_readCrime_77 : decode cX7_readCrime 77 = .ok (.getfield 39, 3) := by decide +kernel
theorem dX7_readCrime_80 : decode cX7_readCrime 80 = .ok (.bipush 12, 2) := by decide +kernel
theorem dX7_readCrime_82 : decode cX7_readCrime 82 = .ok (.if_icmp .ge 34, 3) := by decide +kernel
theorem dX7_readCrime_85 : decode cX7_readCrime 85 = .ok (.aload_n 0, 1) := by decide +kernel
theorem dX7_readCrime_86 : decode cX7_readCrime 86 = .ok (.getfield 17, 3) := by decide +kernel
theorem dX7_readCrime_89 : decode cX7_readCrime 89 = .ok (.aload_n 0, 1) := by decide +kernel
theorem dX7_readCrime_90 : decode cX7_readCrime 90 = .ok (.getfield 39, 3) := by decide +kernel
theorem dX7_readCrime_93 : decode cX7_readCrime 93 = .ok (.aaload, 1) := by decide +kernel
theorem dX7_readCrime_94 : decode cX7_readCrime 94 = .ok (.iload_n 1, 1) := by decide +kernel
theorem dX7_readCrime_95 : decode cX7_readCrime 95 = .ok (.iload_n 2, 1) := by decide +kernel
theorem dX7_readCrime_96 : decode cX7_readCrime 96 = .ok (.iload_n 3, 1) := by decide +kernel
theorem dX7_readCrime_97 : decode cX7_readCrime 97 = .ok (.iload 4, 2) := by decide +kernel
theorem dX7_readCrime_99 : decode cX7_readCrime 99 = .ok (.iload 5, 2) := by decide +kernel
theorem dX7_readCrime_101 : decode cX7_readCrime 101 = .ok (.iload 6, 2) := by decide +kernel
theorem dX7_readCrime_103 : decode cX7_readCrime 103 = .ok (.invokevirtual 85, 3) := by decide +kernel
theorem dX7_readCrime_106 : decode cX7_readCrime 106 = .ok (.aload_n 0, 1) := by decide +kernel
theorem dX7_readCrime_107 : decode cX7_readCrime 107 = .ok (.dup, 1) := by decide +kernel
theorem dX7_readCrime_108 : decode cX7_readCrime 108 = .ok (.getfield 39, 3) := by decide +kernel
theorem dX7_readCrime_111 : decode cX7_readCrime 111 = .ok (.iconst 1, 1) := by decide +kernel
theorem dX7_readCrime_112 : decode cX7_readCrime 112 = .ok (.iadd, 1) := by decide +kernel
theorem dX7_readCrime_113 : decode cX7_readCrime 113 = .ok (.putfield 39, 3) := by decide +kernel
theorem dX7_readCrime_116 : decode cX7_readCrime 116 = .ok (.return_, 1) := by decide +kernel
theorem dX7_readPaper_0 : decode cX7_readPaper 0 = .ok (.aload_n 0, 1) := by decide +kernel
theorem dX7_readPaper_1 : decode cX7_readPaper 1 = .ok (.iload_n 1, 1) := by decide +kernel
theorem dX7_readPaper_2 : decode cX7_readPaper 2 = .ok (.invokevirtual 60, 3) := by decide +kernel
theorem dX7_readPaper_5 : decode cX7_readPaper 5 = .ok (.istore_n 2, 1) := by decide +kernel
theorem dX7_readPaper_6 : decode cX7_readPaper 6 = .ok (.aload_n 0, 1) := by decide +kernel
theorem dX7_readPaper_7 : decode cX7_readPaper 7 = .ok (.bipush 121, 2) := by decide +kernel
theorem dX7_readPaper_9 : decode cX7_readPaper 9 = .ok (.invokevirtual 48, 3) := by decide +kernel
theorem dX7_readPaper_12 : decode cX7_readPaper 12 = .ok (.istore_n 3, 1) := by decide +kernel
theorem dX7_readPaper_13 : decode cX7_readPaper 13 = .ok (.iconst 1, 1) := by decide +kernel
theorem dX7_readPaper_14 : decode cX7_readPaper 14 = .ok (.istore 4, 2) := by decide +kernel
theorem dX7_readPaper_16 : decode cX7_readPaper 16 = .ok (.iload_n 3, 1) := by decide +kernel
theorem dX7_readPaper_17 : decode cX7_readPaper 17 = .ok (.ifCond .eq 15, 3) := by decide +kernel
theorem dX7_readPaper_20 : decode cX7_readPaper 20 = .ok (.aload_n 0, 1) := by decide +kernel
theorem dX7_readPaper_21 : decode cX7_readPaper 21 = .ok (.iconst 1, 1) := by decide +kernel
theorem dX7_readPaper_22 : decode cX7_readPaper 22 = .ok (.bipush 40, 2) := by decide +kernel
theorem dX7_readPaper_24 : decode cX7_readPaper 24 = .ok (.invokevirtual 73, 3) := by decide +kernel
theorem dX7_readPaper_27 : decode cX7_readPaper 27 = .ok (.istore 4, 2) := by decide +kernel
theorem dX7_readPaper_29 : decode cX7_readPaper 29 = .ok (.goto 9, 3) := by decide +kernel
theorem dX7_readPaper_32 : decode cX7_readPaper 32 = .ok (.aload_n 0, 1) := by decide +kernel
theorem dX7_readPaper_33 : decode cX7_readPaper 33 = .ok (.bipush 42, 2) := by decide +kernel
theorem dX7_readPaper_35 : decode cX7_readPaper 35 = .ok (.invokevirtual 77, 3) := by decide +kernel
theorem dX7_readPaper_38 : decode cX7_readPaper 38 = .ok (.aload_n 0, 1) := by decide +kernel
theorem dX7_readPaper_39 : decode cX7_readPaper 39 = .ok (.ldc 89, 2) := by decide +kernel
theorem dX7_readPaper_41 : decode cX7_readPaper 41 = .ok (.iconst 0, 1) := by decide +kernel
theorem dX7_readPaper_42 : decode cX7_readPaper 42 = .ok (.invokevirtual 91, 3) := by decide +kernel
theorem dX7_readPaper_45 : decode cX7_readPaper 45 = .ok (.istore 5, 2) := by decide +kernel
theorem dX7_readPaper_47 : decode cX7_readPaper 47 = .ok (.aload_n 0, 1) := by decide +kernel
theorem dX7_readPaper_48 : decode cX7_readPaper 48 = .ok (.bipush 116, 2) := by decide +kernel
theorem dX7_readPaper_50 : decode cX7_readPaper 50 = .ok (.invokevirtual 48, 3) := by decide +kernel
theorem dX7_readPaper_53 : decode cX7_readPaper 53 = .ok (.ifCond .eq 13, 3) := by decide +kernel
theorem dX7_readPaper_56 : decode cX7_readPaper 56 = .ok (.aload_n 0, 1) := by decide +kernel
theorem dX7_readPaper_57 : decode cX7_readPaper 57 = .ok (.iconst 1, 1) := by decide +kernel
theorem dX7_readPaper_58 : decode cX7_readPaper 58 = .ok (.bipush 99, 2) := by decide +kernel
theorem dX7_readPaper_60 : decode cX7_readPaper 60 = .ok (.invokevirtual 73, 3) := by decide +kernel
theorem dX7_readPaper_63 : decode cX7_readPaper 63 = .ok (.goto 4, 3) := by decide +kernel
theorem dX7_readPaper_66 : decode cX7_readPaper 66 = .ok (.iconst 0, 1) := by decide +kernel
theorem dX7_readPaper_67 : decode cX7_readPaper 67 = .ok (.istore 6, 2) := by decide +kernel
theorem dX7_readPaper_69 : decode cX7_readPaper 69 = .ok (.aload_n 0, 1) := by decide +kernel
theorem dX7_readPaper_70 : decode cX7_readPaper 70 = .ok (.bipush 43, 2) := by decide +kernel
theorem dX7_readPaper_72 : decode cX7_readPaper 72 = .ok (.invokevirtual 48, 3) := by decide +kernel
theorem dX7_readPaper_75 : decode cX7_readPaper 75 = .ok (.ifCond .eq 10, 3) := by decide +kernel
theorem dX7_readPaper_78 : decode cX7_readPaper 78 = .ok (.aload_n 0, 1) := by decide +kernel
theorem dX7_readPaper_79 : decode cX7_readPaper 79 = .ok (.invokevirtual 95, 3) := by decide +kernel
theorem dX7_readPaper_82 : decode cX7_readPaper 82 = .ok (.goto 4, 3) := by decide +kernel
theorem dX7_readPaper_85 : decode cX7_readPaper 85 = .ok (.iconst 0, 1) := by decide +kernel
theorem dX7_readPaper_86 : decode cX7_readPaper 86 = .ok (.istore 7, 2) := by decide +kernel
theorem dX7_readPaper_88 : decode cX7_readPaper 88 = .ok (.aload_n 0, 1) := by decide +kernel
theorem dX7_readPaper_89 : decode cX7_readPaper 89 = .ok (.getfield 36, 3) := by decide +kernel
theorem dX7_readPaper_92 : decode cX7_readPaper 92 = .ok (.iconst (-1), 1) := by decide +kernel
theorem dX7_readPaper_93 : decode cX7_readPaper 93 = .ok (.if_icmp .ne 68, 3) := by decide +kernel
theorem dX7_readPaper_96 : decode cX7_readPaper 96 = .ok (.aload_n 0, 1) := by decide +kernel
theorem dX7_readPaper_97 : decode cX7_readPaper 97 = .ok (.getfield 42, 3) := by decide +kernel
theorem dX7_readPaper_100 : decode cX7_readPaper 100 = .ok (.bipush 12, 2) := by decide +kernel
theorem dX7_readPaper_102 : decode cX7_readPaper 102 = .ok (.if_icmp .ge 59, 3) := by decide +kernel
theorem dX7_readPaper_105 : decode cX7_readPaper 105 = .ok (.aload_n 0, 1) := by decide +kernel
theorem dX7_readPaper_106 : decode cX7_readPaper 106 = .ok (.getfield 23, 3) := by decide +kernel
theorem dX7_readPaper_109 : decode cX7_readPaper 109 = .ok (.aload_n 0, 1) := by decide +kernel
theorem dX7_readPaper_110 : decode cX7_readPaper 110 = .ok (.getfield 42, 3) := by decide +kernel
theorem dX7_readPaper_113 : decode cX7_readPaper 113 = .ok (.aaload, 1) := by decide +kernel
theorem dX7_readPaper_114 : decode cX7_readPaper 114 = .ok (.astore 8, 2) := by decide +kernel
theorem dX7_readPaper_116 : decode cX7_readPaper 116 = .ok (.aload 8, 2) := by decide +kernel
theorem dX7_readPaper_118 : decode cX7_readPaper 118 = .ok (.iload_n 1, 1) := by decide +kernel
theorem dX7_readPaper_119 : decode cX7_readPaper 119 = .ok (.iload_n 2, 1) := by decide +kernel
theorem dX7_readPaper_120 : decode cX7_readPaper 120 = .ok (.invokevirtual 98, 3) := by decide +kernel
theorem dX7_readPaper_123 : decode cX7_readPaper 123 = .ok (.aload 8, 2) := by decide +kernel
theorem dX7_readPaper_125 : decode cX7_readPaper 125 = .ok (.iload_n 3, 1) := by decide +kernel
theorem dX7_readPaper_126 : decode cX7_readPaper 126 = .ok (.ifCond .eq 7, 3) := by decide +kernel
theorem dX7_readPaper_129 : decode cX7_readPaper 129 = .ok (.iconst 0, 1) := by decide +kernel
theorem dX7_readPaper_130 : decode cX7_readPaper 130 = .ok (.goto 4, 3) := by decide +kernel
theorem dX7_readPaper_133 : decode cX7_readPaper 133 = .ok (.iconst 2, 1) := by decide +kernel
theorem dX7_readPaper_134 : decode cX7_readPaper 134 = .ok (.iload 4, 2) := by decide +kernel
theorem dX7_readPaper_136 : decode cX7_readPaper 136 = .ok (.iconst 0, 1) := by decide +kernel
theorem dX7_readPaper_137 : decode cX7_readPaper 137 = .ok (.invokevirtual 102, 3) := by decide +kernel
theorem dX7_readPaper_140 : decode cX7_readPaper 140 = .ok (.aload 8, 2) := by decide +kernel
theorem dX7_readPaper_142 : decode cX7_readPaper 142 = .ok (.iload 5, 2) := by decide +kernel
theorem dX7_readPaper_144 : decode cX7_readPaper 144 = .ok (.iload 6, 2) := by decide +kernel
theorem dX7_readPaper_146 : decode cX7_readPaper 146 = .ok (.iload 7, 2) := by decide +kernel
theorem dX7_readPaper_148 : decode cX7_readPaper 148 = .ok (.invokevirtual 106, 3) := by decide +kernel
theorem dX7_readPaper_151 : decode cX7_readPaper 151 = .ok (.aload_n 0, 1) := by decide +kernel
theorem dX7_readPaper_152 : decode cX7_readPaper 152 = .ok (.dup, 1) := by decide +kernel
theorem dX7_readPaper_153 : decode cX7_readPaper 153 = .ok (.getfield 42, 3) := by decide +kernel
theorem dX7_readPaper_156 : decode cX7_readPaper 156 = .ok (.iconst 1, 1) := by decide +kernel
theorem dX7_readPaper_157 : decode cX7_readPaper 157 = .ok (.iadd, 1) := by decide +kernel
theorem dX7_readPaper_158 : decode cX7_readPaper 158 = .ok (.putfield 42, 3) := by decide +kernel
theorem dX7_readPaper_161 : decode cX7_readPaper 161 = .ok (.return_, 1) := by decide +kernel
theorem dX7_readLand_0 : decode cX7_readLand 0 = .ok (.aload_n 0, 1) := by decide +kernel
theorem dX7_readLand_1 : decode cX7_readLand 1 = .ok (.invokevirtual 52, 3) := by decide +kernel
theorem dX7_readLand_4 : decode cX7_readLand 4 = .ok (.bipush 65, 2) := by decide +kernel
theorem dX7_readLand_6 : decode cX7_readLand 6 = .ok (.isub, 1) := by decide +kernel
theorem dX7_readLand_7 : decode cX7_readLand 7 = .ok (.istore_n 2, 1) := by decide +kernel
theorem dX7_readLand_8 : decode cX7_readLand 8 = .ok (.iload_n 2, 1) := by decide +kernel
theorem dX7_readLand_9 : decode cX7_readLand 9 = .ok (.invokestatic 109, 3) := by decide +kernel
theorem dX7_readLand_12 : decode cX7_readLand 12 = .ok (.ifCond .eq 8, 3) := by decide +kernel
theorem dX7_readLand_15 : decode cX7_readLand 15 = .ok (.iload_n 2, 1) := by decide +kernel
theorem dX7_readLand_16 : decode cX7_readLand 16 = .ok (.iload_n 1, 1) := by decide +kernel
theorem dX7_readLand_17 : decode cX7_readLand 17 = .ok (.if_icmp .ne 13, 3) := by decide +kernel
theorem dX7_readLand_20 : decode cX7_readLand 20 = .ok (.aload_n 0, 1) := by decide +kernel
theorem dX7_readLand_21 : decode cX7_readLand 21 = .ok (.aload_n 0, 1) := by decide +kernel
theorem dX7_readLand_22 : decode cX7_readLand 22 = .ok (.getfield 33, 3) := by decide +kernel
theorem dX7_readLand_25 : decode cX7_readLand 25 = .ok (.invokevirtual 56, 3) := by decide +kernel
theorem dX7_readLand_28 : decode cX7_readLand 28 = .ok (.iconst 0, 1) := by decide +kernel
theorem dX7_readLand_29 : decode cX7_readLand 29 = .ok (.ireturn, 1) := by decide +kernel
theorem dX7_readLand_30 : decode cX7_readLand 30 = .ok (.aload_n 0, 1) := by decide +kernel
theorem dX7_readLand_31 : decode cX7_readLand 31 = .ok (.dup, 1) := by decide +kernel
theorem dX7_readLand_32 : decode cX7_readLand 32 = .ok (.getfield 33, 3) := by decide +kernel
theorem dX7_readLand_35 : decode cX7_readLand 35 = .ok (.iconst 1, 1) := by decide +kernel
theorem dX7_readLand_36 : decode cX7_readLand 36 = .ok (.iadd, 1) := by decide +kernel
theorem dX7_readLand_37 : decode cX7_readLand 37 = .ok (.putfield 33, 3) := by decide +kernel
theorem dX7_readLand_40 : decode cX7_readLand 40 = .ok (.iload_n 2, 1) := by decide +kernel
theorem dX7_readLand_41 : decode cX7_readLand 41 = .ok (.ireturn, 1) := by decide +kernel
theorem dX7_readMarks_0 : decode cX7_readMarks 0 = .ok (.iconst 0, 1) := by decide +kernel
theorem dX7_readMarks_1 : decode cX7_readMarks 1 = .ok (.istore_n 2, 1) := by decide +kernel
theorem dX7_readMarks_2 : decode cX7_readMarks 2 = .ok (.iconst 0, 1) := by decide +kernel
theorem dX7_readMarks_3 : decode cX7_readMarks 3 = .ok (.istore_n 3, 1) := by decide +kernel
theorem dX7_readMarks_4 : decode cX7_readMarks 4 = .ok (.iload_n 3, 1) := by decide +kernel
theorem dX7_readMarks_5 : decode cX7_readMarks 5 = .ok (.bipush 6, 2) := by decide +kernel
theorem dX7_readMarks_7 : decode cX7_readMarks 7 = .ok (.if_icmp .ge 78, 3) := by decide +kernel
theorem dX7_readMarks_10 : decode cX7_readMarks 10 = .ok (.aload_n 0, 1) := by decide +kernel
theorem dX7_readMarks_11 : decode cX7_readMarks 11 = .ok (.invokevirtual 52, 3) := by decide +kernel
theorem dX7_readMarks_14 : decode cX7_readMarks 14 = .ok (.bipush 97, 2) := by decide +kernel
theorem dX7_readMarks_16 : decode cX7_readMarks 16 = .ok (.isub, 1) := by decide +kernel
theorem dX7_readMarks_17 : decode cX7_readMarks 17 = .ok (.istore 4, 2) := by decide +kernel
theorem dX7_readMarks_19 : decode cX7_readMarks 19 = .ok (.iload 4, 2) := by decide +kernel
theorem dX7_readMarks_21 : decode cX7_readMarks 21 = .ok (.ifCond .lt 64, 3) := by decide +kernel
theorem dX7_readMarks_24 : decode cX7_readMarks 24 = .ok (.iload 4, 2) := by decide +kernel
theorem dX7_readMarks_26 : decode cX7_readMarks 26 = .ok (.bipush 6, 2) := by decide +kernel
theorem dX7_readMarks_28 : decode cX7_readMarks 28 = .ok (.if_icmp .lt 6, 3) := by decide +kernel
theorem dX7_readMarks_31 : decode cX7_readMarks 31 = .ok (.goto 54, 3) := by decide +kernel
theorem dX7_readMarks_34 : decode cX7_readMarks 34 = .ok (.iconst 1, 1) := by decide +kernel
theorem dX7_readMarks_35 : decode cX7_readMarks 35 = .ok (.iload 4, 2) := by decide +kernel
theorem dX7_readMarks_37 : decode cX7_readMarks 37 = .ok (.ishl, 1) := by decide +kernel
theorem dX7_readMarks_38 : decode cX7_readMarks 38 = .ok (.istore 5, 2) := by decide +kernel
theorem dX7_readMarks_40 : decode cX7_readMarks 40 = .ok (.iload 5, 2) := by decide +kernel
theorem dX7_readMarks_42 : decode cX7_readMarks 42 = .ok (.iload_n 2, 1) := by decide +kernel
theorem dX7_readMarks_43 : decode cX7_readMarks 43 = .ok (.if_icmp .le 10, 3) := by decide +kernel
theorem dX7_readMarks_46 : decode cX7_readMarks 46 = .ok (.iload 5, 2) := by decide +kernel
theorem dX7_readMarks_48 : decode cX7_readMarks 48 = .ok (.iload_n 1, 1) := by decide +kernel
theorem dX7_readMarks_49 : decode cX7_readMarks 49 = .ok (.iand, 1) := by decide +kernel
theorem dX7_readMarks_50 : decode cX7_readMarks 50 = .ok (.ifCond .eq 14, 3) := by decide +kernel
theorem dX7_readMarks_53 : decode cX7_readMarks 53 = .ok (.aload_n 0, 1) := by decide +kernel
theorem dX7_readMarks_54 : decode cX7_readMarks 54 = .ok (.aload_n 0, 1) := by decide +kernel
theorem dX7_readMarks_55 : decode cX7_readMarks 55 = .ok (.getfield 33, 3) := by decide +kernel
theorem dX7_readMarks_58 : decode cX7_readMarks 58 = .ok (.invokevirtual 56, 3) := by decide +kernel
theorem dX7_readMarks_61 : decode cX7_readMarks 61 = .ok (.goto 24, 3) := by decide +kernel
theorem dX7_readMarks_64 : decode cX7_readMarks 64 = .ok (.iload_n 2, 1) := by decide +kernel
theorem dX7_readMarks_65 : decode cX7_readMarks 65 = .ok (.iload 5, 2) := by decide +kernel
theorem dX7_readMarks_67 : decode cX7_readMarks 67 = .ok (.ior, 1) := by decide +kernel
theorem dX7_readMarks_68 : decode cX7_readMarks 68 = .ok (.istore_n 2, 1) := by decide +kernel
theorem dX7_readMarks_69 : decode cX7_readMarks 69 = .ok (.aload_n 0, 1) := by decide +kernel
theorem dX7_readMarks_70 : decode cX7_readMarks 70 = .ok (.dup, 1) := by decide +kernel
theorem dX7_readMarks_71 : decode cX7_readMarks 71 = .ok (.getfield 33, 3) := by decide +kernel
theorem dX7_readMarks_74 : decode cX7_readMarks 74 = .ok (.iconst 1, 1) := by decide +kernel
theorem dX7_readMarks_75 : decode cX7_readMarks 75 = .ok (.iadd, 1) := by decide +kernel
theorem dX7_readMarks_76 : decode cX7_readMarks 76 = .ok (.putfield 33, 3) := by decide +kernel
theorem dX7_readMarks_79 : decode cX7_readMarks 79 = .ok (.iinc 3 1, 3) := by decide +kernel
theorem dX7_readMarks_82 : decode cX7_readMarks 82 = .ok (.goto (-78), 3) := by decide +kernel
theorem dX7_readMarks_85 : decode cX7_readMarks 85 = .ok (.iload_n 2, 1) := by decide +kernel
theorem dX7_readMarks_86 : decode cX7_readMarks 86 = .ok (.ifCond .ne 11, 3) := by decide +kernel
theorem dX7_readMarks_89 : decode cX7_readMarks 89 = .ok (.aload_n 0, 1) := by decide +kernel
theorem dX7_readMarks_90 : decode cX7_readMarks 90 = .ok (.aload_n 0, 1) := by decide +kernel
theorem dX7_readMarks_91 : decode cX7_readMarks 91 = .ok (.getfield 33, 3) := by decide +kernel
theorem dX7_readMarks_94 : decode cX7_readMarks 94 = .ok (.invokevirtual 56, 3) := by decide +kernel
theorem dX7_readMarks_97 : decode cX7_readMarks 97 = .ok (.iload_n 2, 1) := by decide +kernel
theorem dX7_readMarks_98 : decode cX7_readMarks 98 = .ok (.ireturn, 1) := by decide +kernel
theorem dX7_readNumber_0 : decode cX7_readNumber 0 = .ok (.aload_n 0, 1) := by decide +kernel
theorem dX7_readNumber_1 : decode cX7_readNumber 1 = .ok (.invokevirtual 52, 3) := by decide +kernel
theorem dX7_readNumber_4 : decode cX7_readNumber 4 = .ok (.pop, 1) := by decide +kernel
theorem dX7_readNumber_5 : decode cX7_readNumber 5 = .ok (.aload_n 0, 1) := by decide +kernel
theorem dX7_readNumber_6 : decode cX7_readNumber 6 = .ok (.getfield 33, 3) := by decide +kernel
theorem dX7_readNumber_9 : decode cX7_readNumber 9 = .ok (.istore_n 3, 1) := by decide +kernel
theorem dX7_readNumber_10 : decode cX7_readNumber 10 = .ok (.iconst 0, 1) := by decide +kernel
theorem dX7_readNumber_11 : decode cX7_readNumber 11 = .ok (.istore 4, 2) := by decide +kernel
theorem dX7_readNumber_13 : decode cX7_readNumber 13 = .ok (.aload_n 0, 1) := by decide +kernel
theorem dX7_readNumber_14 : decode cX7_readNumber 14 = .ok (.getfield 33, 3) := by decide +kernel
theorem dX7_readNumber_17 : decode cX7_readNumber 17 = .ok (.aload_n 0, 1) := by decide +kernel
theorem dX7_readNumber_18 : decode cX7_readNumber 18 = .ok (.getfield 29, 3) := by decide +kernel
theorem dX7_readNumber_21 : decode cX7_readNumber 21 = .ok (.if_icmp .ge 70, 3) := by decide +kernel
theorem dX7_readNumber_24 : decode cX7_readNumber 24 = .ok (.aload_n 0, 1) := by decide +kernel
theorem dX7_readNumber_25 : decode cX7_readNumber 25 = .ok (.getfield 9, 3) := by decide +kernel
theorem dX7_readNumber_28 : decode cX7_readNumber 28 = .ok (.aload_n 0, 1) := by decide +kernel
theorem dX7_readNumber_29 : decode cX7_readNumber 29 = .ok (.getfield 33, 3) := by decide +kernel
theorem dX7_readNumber_32 : decode cX7_readNumber 32 = .ok (.caload, 1) := by decide +kernel
theorem dX7_readNumber_33 : decode cX7_readNumber 33 = .ok (.bipush 48, 2) := by decide +kernel
theorem dX7_readNumber_35 : decode cX7_readNumber 35 = .ok (.if_icmp .lt 56, 3) := by decide +kernel
theorem dX7_readNumber_38 : decode cX7_readNumber 38 = .ok (.aload_n 0, 1) := by decide +kernel
theorem dX7_readNumber_39 : decode cX7_readNumber 39 = .ok (.getfield 9, 3) := by decide +kernel
theorem dX7_readNumber_42 : decode cX7_readNumber 42 = .ok (.aload_n 0, 1) := by decide +kernel
theorem dX7_readNumber_43 : decode cX7_readNumber 43 = .ok (.getfield 33, 3) := by decide +kernel
theorem dX7_readNumber_46 : decode cX7_readNumber 46 = .ok (.caload, 1) := by decide +kernel
theorem dX7_readNumber_47 : decode cX7_readNumber 47 = .ok (.bipush 57, 2) := by decide +kernel
theorem dX7_readNumber_49 : decode cX7_readNumber 49 = .ok (.if_icmp .gt 42, 3) := by decide +kernel
theorem dX7_readNumber_52 : decode cX7_readNumber 52 = .ok (.iload 4, 2) := by decide +kernel
theorem dX7_readNumber_54 : decode cX7_readNumber 54 = .ok (.bipush 10, 2) := by decide +kernel
theorem dX7_readNumber_56 : decode cX7_readNumber 56 = .ok (.imul, 1) := by decide +kernel
theorem dX7_readNumber_57 : decode cX7_readNumber 57 = .ok (.aload_n 0, 1) := by decide +kernel
theorem dX7_readNumber_58 : decode cX7_readNumber 58 = .ok (.getfield 9, 3) := by decide +kernel
theorem dX7_readNumber_61 : decode cX7_readNumber 61 = .ok (.aload_n 0, 1) := by decide +kernel
theorem dX7_readNumber_62 : decode cX7_readNumber 62 = .ok (.getfield 33, 3) := by decide +kernel
theorem dX7_readNumber_65 : decode cX7_readNumber 65 = .ok (.caload, 1) := by decide +kernel
theorem dX7_readNumber_66 : decode cX7_readNumber 66 = .ok (.iadd, 1) := by decide +kernel
theorem dX7_readNumber_67 : decode cX7_readNumber 67 = .ok (.bipush 48, 2) := by decide +kernel
theorem dX7_readNumber_69 : decode cX7_readNumber 69 = .ok (.isub, 1) := by decide +kernel
theorem dX7_readNumber_70 : decode cX7_readNumber 70 = .ok (.sipush 1000, 3) := by decide +kernel
theorem dX7_readNumber_73 : decode cX7_readNumber 73 = .ok (.invokestatic 112, 3) := by decide +kernel
theorem dX7_readNumber_76 : decode cX7_readNumber 76 = .ok (.istore 4, 2) := by decide +kernel
theorem dX7_readNumber_78 : decode cX7_readNumber 78 = .ok (.aload_n 0, 1) := by decide +kernel
theorem dX7_readNumber_79 : decode cX7_readNumber 79 = .ok (.dup, 1) := by decide +kernel
theorem dX7_readNumber_80 : decode cX7_readNumber 80 = .ok (.getfield 33, 3) := by decide +kernel
theorem dX7_readNumber_83 : decode cX7_readNumber 83 = .ok (.iconst 1, 1) := by decide +kernel
theorem dX7_readNumber_84 : decode cX7_readNumber 84 = .ok (.iadd, 1) := by decide +kernel
theorem dX7_readNumber_85 : decode cX7_readNumber 85 = .ok (.putfield 33, 3) := by decide +kernel
theorem dX7_readNumber_88 : decode cX7_readNumber 88 = .ok (.goto (-75), 3) := by decide +kernel
theorem dX7_readNumber_91 : decode cX7_readNumber 91 = .ok (.aload_n 0, 1) := by decide +kernel
theorem dX7_readNumber_92 : decode cX7_readNumber 92 = .ok (.getfield 33, 3) := by decide +kernel
theorem dX7_readNumber_95 : decode cX7_readNumber 95 = .ok (.iload_n 3, 1) := by decide +kernel
theorem dX7_readNumber_96 : decode cX7_readNumber 96 = .ok (.if_icmp .eq 15, 3) := by decide +kernel
theorem dX7_readNumber_99 : decode cX7_readNumber 99 = .ok (.iload 4, 2) := by decide +kernel
theorem dX7_readNumber_101 : decode cX7_readNumber 101 = .ok (.iload_n 1, 1) := by decide +kernel
theorem dX7_readNumber_102 : decode cX7_readNumber 102 = .ok (.if_icmp .lt 9, 3) := by decide +kernel
theorem dX7_readNumber_105 : decode cX7_readNumber 105 = .ok (.iload 4, 2) := by decide +kernel
theorem dX7_readNumber_107 : decode cX7_readNumber 107 = .ok (.iload_n 2, 1) := by decide +kernel
theorem dX7_readNumber_108 : decode cX7_readNumber 108 = .ok (.if_icmp .le 8, 3) := by decide +kernel
theorem dX7_readNumber_111 : decode cX7_readNumber 111 = .ok (.aload_n 0, 1) := by decide +kernel
theorem dX7_readNumber_112 : decode cX7_readNumber 112 = .ok (.iload_n 3, 1) := by decide +kernel
theorem dX7_readNumber_113 : decode cX7_readNumber 113 = .ok (.invokevirtual 56, 3) := by decide +kernel
theorem dX7_readNumber_116 : decode cX7_readNumber 116 = .ok (.iload 4, 2) := by decide +kernel
theorem dX7_readNumber_118 : decode cX7_readNumber 118 = .ok (.ireturn, 1) := by decide +kernel
theorem dX7_readPromises_0 : decode cX7_readPromises 0 = .ok (.aload_n 0, 1) := by decide +kernel
theorem dX7_readPromises_1 : decode cX7_readPromises 1 = .ok (.ldc 115, 2) := by decide +kernel
theorem dX7_readPromises_3 : decode cX7_readPromises 3 = .ok (.iconst 1, 1) := by decide +kernel
theorem dX7_readPromises_4 : decode cX7_readPromises 4 = .ok (.invokevirtual 91, 3) := by decide +kernel
theorem dX7_readPromises_7 : decode cX7_readPromises 7 = .ok (.istore_n 1, 1) := by decide +kernel
theorem dX7_readPromises_8 : decode cX7_readPromises 8 = .ok (.iload_n 1, 1) := by decide +kernel
theorem dX7_readPromises_9 : decode cX7_readPromises 9 = .ok (.ifCond .ne 11, 3) := by decide +kernel
theorem dX7_readPromises_12 : decode cX7_readPromises 12 = .ok (.aload_n 0, 1) := by decide +kernel
theorem dX7_readPromises_13 : decode cX7_readPromises 13 = .ok (.aload_n 0, 1) := by decide +kernel
theorem dX7_readPromises_14 : decode cX7_readPromises 14 = .ok (.getfield 33, 3) := by decide +kernel
theorem dX7_readPromises_17 : decode cX7_readPromises 17 = .ok (.invokevirtual 56, 3) := by decide +kernel
theorem dX7_readPromises_20 : decode cX7_readPromises 20 = .ok (.iload_n 1, 1) := by decide +kernel
theorem dX7_readPromises_21 : decode cX7_readPromises 21 = .ok (.ireturn, 1) := by decide +kernel
theorem dX7_readLetters_0 : decode cX7_readLetters 0 = .ok (.iconst 0, 1) := by decide +kernel
theorem dX7_readLetters_1 : decode cX7_readLetters 1 = .ok (.istore_n 3, 1) := by decide +kernel
theorem dX7_readLetters_2 : decode cX7_readLetters 2 = .ok (.iconst 0, 1) := by decide +kernel
theorem dX7_readLetters_3 : decode cX7_readLetters 3 = .ok (.istore 4, 2) := by decide +kernel
theorem dX7_readLetters_5 : decode cX7_readLetters 5 = .ok (.iload 4, 2) := by decide +kernel
theorem dX7_readLetters_7 : decode cX7_readLetters 7 = .ok (.aload_n 1, 1) := by decide +kernel
theorem dX7_readLetters_8 : decode cX7_readLetters 8 = .ok (.invokevirtual 117, 3) := by decide +kernel
theorem dX7_readLetters_11 : decode cX7_readLetters 11 = .ok (.if_icmp .ge 91, 3) := by decide +kernel
theorem dX7_readLetters_14 : decode cX7_readLetters 14 = .ok (.aload_n 0, 1) := by decide +kernel
theorem dX7_readLetters_15 : decode cX7_readLetters 15 = .ok (.invokevirtual 52, 3) := by decide +kernel
theorem dX7_readLetters_18 : decode cX7_readLetters 18 = .ok (.istore 5, 2) := by decide +kernel
theorem dX7_readLetters_20 : decode cX7_readLetters 20 = .ok (.iload 5, 2) := by decide +kernel
theorem dX7_readLetters_22 : decode cX7_readLetters 22 = .ok (.iconst (-1), 1) := by decide +kernel
theorem dX7_readLetters_23 : decode cX7_readLetters 23 = .ok (.if_icmp .ne 7, 3) := by decide +kernel
theorem dX7_readLetters_26 : decode cX7_readLetters 26 = .ok (.iconst (-1), 1) := by decide +kernel
theorem dX7_readLetters_27 : decode cX7_readLetters 27 = .ok (.goto 10, 3) := by decide +kernel
theorem dX7_readLetters_30 : decode cX7_readLetters 30 = .ok (.aload_n 1, 1) := by decide +kernel
theorem dX7_readLetters_31 : decode cX7_readLetters 31 = .ok (.iload 5, 2) := by decide +kernel
theorem dX7_readLetters_33 : decode cX7_readLetters 33 = .ok (.i2c, 1) := by decide +kernel
theorem dX7_readLetters_34 : decode cX7_readLetters 34 = .ok (.invokevirtual 121, 3) := by decide +kernel
theorem dX7_readLetters_37 : decode cX7_readLetters 37 = .ok (.istore 6, 2) := by decide +kernel
theorem dX7_readLetters_39 : decode cX7_readLetters 39 = .ok (.iload 6, 2) := by decide +kernel
theorem dX7_readLetters_41 : decode cX7_readLetters 41 = .ok (.ifCond .ge 6, 3) := by decide +kernel
theorem dX7_readLetters_44 : decode cX7_readLetters 44 = .ok (.goto 58, 3) := by decide +kernel
theorem dX7_readLetters_47 : decode cX7_readLetters 47 = .ok (.iconst 1, 1) := by decide +kernel
theorem dX7_readLetters_48 : decode cX7_readLetters 48 = .ok (.iload 6, 2) := by decide +kernel
theorem dX7_readLetters_50 : decode cX7_readLetters 50 = .ok (.ishl, 1) := by decide +kernel
theorem dX7_readLetters_51 : decode cX7_readLetters 51 = .ok (.istore 7, 2) := by decide +kernel
theorem dX7_readLetters_53 : decode cX7_readLetters 53 = .ok (.iload_n 3, 1) := by decide +kernel
theorem dX7_readLetters_54 : decode cX7_readLetters 54 = .ok (.iload 7, 2) := by decide +kernel
theorem dX7_readLetters_56 : decode cX7_readLetters 56 = .ok (.iand, 1) := by decide +kernel
theorem dX7_readLetters_57 : decode cX7_readLetters 57 = .ok (.ifCond .ne 13, 3) := by decide +kernel
theorem dX7_readLetters_60 : decode cX7_readLetters 60 = .ok (.iload_n 2, 1) := by decide +kernel
theorem dX7_readLetters_61 : decode cX7_readLetters 61 = .ok (.ifCond .eq 20, 3) := by decide +kernel
theorem dX7_readLetters_64 : decode cX7_readLetters 64 = .ok (.iload 7, 2) := by decide +kernel
theorem dX7_readLetters_66 : decode cX7_readLetters 66 = .ok (.iload_n 3, 1) := by decide +kernel
theorem dX7_readLetters_67 : decode cX7_readLetters 67 = .ok (.if_icmp .ge 14, 3) := by decide +kernel
theorem dX7_readLetters_70 : decode cX7_readLetters 70 = .ok (.aload_n 0, 1) := by decide +kernel
theorem dX7_readLetters_71 : decode cX7_readLetters 71 = .ok (.aload_n 0, 1) := by decide +kernel
theorem dX7_readLetters_72 : decode cX7_readLetters 72 = .ok (.getfield 33, 3) := by decide +kernel
theorem dX7_readLetters_75 : decode cX7_readLetters 75 = .ok (.invokevirtual 56, 3) := by decide +kernel
theorem dX7_readLetters_78 : decode cX7_readLetters 78 = .ok (.goto 24, 3) := by decide +kernel
theorem dX7_readLetters_81 : decode cX7_readLetters 81 = .ok (.iload_n 3, 1) := by decide +kernel
theorem dX7_readLetters_82 : decode cX7_readLetters 82 = .ok (.iload 7, 2) := by decide +kernel
theorem dX7_readLetters_84 : decode cX7_readLetters 84 = .ok (.ior, 1) := by decide +kernel
theorem dX7_readLetters_85 : decode cX7_readLetters 85 = .ok (.istore_n 3, 1) := by decide +kernel
theorem dX7_readLetters_86 : decode cX7_readLetters 86 = .ok (.aload_n 0, 1) := by decide +kernel
theorem dX7_readLetters_87 : decode cX7_readLetters 87 = .ok (.dup, 1) := by decide +kernel
theorem dX7_readLetters_88 : decode cX7_readLetters 88 = .ok (.getfield 33, 3) := by decide +kernel
theorem dX7_readLetters_91 : decode cX7_readLetters 91 = .ok (.iconst 1, 1) := by decide +kernel
theorem dX7_readLetters_92 : decode cX7_readLetters 92 = .ok (.iadd, 1) := by decide +kernel
theorem dX7_readLetters_93 : decode cX7_readLetters 93 = .ok (.putfield 33, 3) := by decide +kernel
theorem dX7_readLetters_96 : decode cX7_readLetters 96 = .ok (.iinc 4 1, 3) := by decide +kernel
theorem dX7_readLetters_99 : decode cX7_readLetters 99 = .ok (.goto (-94), 3) := by decide +kernel
theorem dX7_readLetters_102 : decode cX7_readLetters 102 = .ok (.iload_n 3, 1) := by decide +kernel
theorem dX7_readLetters_103 : decode cX7_readLetters 103 = .ok (.ireturn, 1) := by decide +kernel
theorem dX8_init_0 : decode cX8_init 0 = .ok (.aload_n 0, 1) := by decide +kernel
theorem dX8_init_1 : decode cX8_init 1 = .ok (.invokespecial 3, 3) := by decide +kernel
theorem dX8_init_4 : decode cX8_init 4 = .ok (.aload_n 0, 1) := by decide +kernel
theorem dX8_init_5 : decode cX8_init 5 = .ok (.bipush 24, 2) := by decide +kernel
theorem dX8_init_7 : decode cX8_init 7 = .ok (.anewarray 9, 3) := by decide +kernel
theorem dX8_init_10 : decode cX8_init 10 = .ok (.putfield 11, 3) := by decide +kernel
theorem dX8_init_13 : decode cX8_init 13 = .ok (.aload_n 0, 1) := by decide +kernel
theorem dX8_init_14 : decode cX8_init 14 = .ok (.bipush 8, 2) := by decide +kernel
theorem dX8_init_16 : decode cX8_init 16 = .ok (.anewarray 17, 3) := by decide +kernel
theorem dX8_init_19 : decode cX8_init 19 = .ok (.putfield 19, 3) := by decide +kernel
theorem dX8_init_22 : decode cX8_init 22 = .ok (.aload_n 0, 1) := by decide +kernel
theorem dX8_init_23 : decode cX8_init 23 = .ok (.bipush 12, 2) := by decide +kernel
theorem dX8_init_25 : decode cX8_init 25 = .ok (.anewarray 23, 3) := by decide +kernel
theorem dX8_init_28 : decode cX8_init 28 = .ok (.putfield 25, 3) := by decide +kernel
theorem dX8_init_31 : decode cX8_init 31 = .ok (.aload_n 0, 1) := by decide +kernel
theorem dX8_init_32 : decode cX8_init 32 = .ok (.bipush 8, 2) := by decide +kernel
theorem dX8_init_34 : decode cX8_init 34 = .ok (.anewarray 29, 3) := by decide +kernel
theorem dX8_init_37 : decode cX8_init 37 = .ok (.putfield 31, 3) := by decide +kernel
theorem dX8_init_40 : decode cX8_init 40 = .ok (.aload_n 0, 1) := by decide +kernel
theorem dX8_init_41 : decode cX8_init 41 = .ok (.new 35, 3) := by decide +kernel
theorem dX8_init_44 : decode cX8_init 44 = .ok (.dup, 1) := by decide +kernel
theorem dX8_init_45 : decode cX8_init 45 = .ok (.invokespecial 37, 3) := by decide +kernel
theorem dX8_init_48 : decode cX8_init 48 = .ok (.putfield 38, 3) := by decide +kernel
theorem dX8_init_51 : decode cX8_init 51 = .ok (.iconst 0, 1) := by decide +kernel
theorem dX8_init_52 : decode cX8_init 52 = .ok (.istore_n 1, 1) := by decide +kernel
theorem dX8_init_53 : decode cX8_init 53 = .ok (.iload_n 1, 1) := by decide +kernel
theorem dX8_init_54 : decode cX8_init 54 = .ok (.bipush 24, 2) := by decide +kernel
theorem dX8_init_56 : decode cX8_init 56 = .ok (.if_icmp .ge 22, 3) := by decide +kernel
theorem dX8_init_59 : decode cX8_init 59 = .ok (.aload_n 0, 1) := by decide +kernel
theorem dX8_init_60 : decode cX8_init 60 = .ok (.getfield 11, 3) := by decide +kernel
theorem dX8_init_63 : decode cX8_init 63 = .ok (.iload_n 1, 1) := by decide +kernel
theorem dX8_init_64 : decode cX8_init 64 = .ok (.new 9, 3) := by decide +kernel
theorem dX8_init_67 : decode cX8_init 67 = .ok (.dup, 1) := by decide +kernel
theorem dX8_init_68 : decode cX8_init 68 = .ok (.invokespecial 42, 3) := by decide +kernel
theorem dX8_init_71 : decode cX8_init 71 = .ok (.aastore, 1) := by decide +kernel
theorem dX8_init_72 : decode cX8_init 72 = .ok (.iinc 1 1, 3) := by decide +kernel
theorem dX8_init_75 : decode cX8_init 75 = .ok (.goto (-22), 3) := by decide +kernel
theorem dX8_init_78 : decode cX8_init 78 = .ok (.iconst 0, 1) := by decide +kernel
theorem dX8_init_79 : decode cX8_init 79 = .ok (.istore_n 1, 1) := by decide +kernel
theorem dX8_init_80 : decode cX8_init 80 = .ok (.iload_n 1, 1) := by decide +kernel
theorem dX8_init_81 : decode cX8_init 81 = .ok (.bipush 8, 2) := by decide +kernel
theorem dX8_init_83 : decode cX8_init 83 = .ok (.if_icmp .ge 22, 3) := by decide +kernel
theorem dX8_init_86 : decode cX8_init 86 = .ok (.aload_n 0, 1) := by decide +kernel
theorem dX8_init_87 : decode cX8_init 87 = .ok (.getfield 19, 3) := by decide +kernel
theorem dX8_init_90 : decode cX8_init 90 = .ok (.iload_n 1, 1) := by decide +kernel
theorem dX8_init_91 : decode cX8_init 91 = .ok (.new 17, 3) := by decide +kernel
theorem dX8_init_94 : decode cX8_init 94 = .ok (.dup, 1) := by decide +kernel
theorem dX8_init_95 : decode cX8_init 95 = .ok (.invokespecial 43, 3) := by decide +kernel
theorem dX8_init_98 : decode cX8_init 98 = .ok (.aastore, 1) := by decide +kernel
theorem dX8_init_99 : decode cX8_init 99 = .ok (.iinc 1 1, 3) := by decide +kernel
theorem dX8_init_102 : decode cX8_init 102 = .ok (.goto (-22), 3) := by decide +kernel
theorem dX8_init_105 : decode cX8_init 105 = .ok (.iconst 0, 1) := by decide +kernel
theorem dX8_init_106 : decode cX8_init 106 = .ok (.istore_n 1, 1) := by decide +kernel
theorem dX8_init_107 : decode cX8_init 107 = .ok (.iload_n 1, 1) := by decide +kernel
theorem dX8_init_108 : decode cX8_init 108 = .ok (.bipush 12, 2) := by decide +kernel
theorem dX8_init_110 : decode cX8_init 110 = .ok (.if_icmp .ge 22, 3) := by decide +kernel
theorem dX8_init_113 : decode cX8_init 113 = .ok (.aload_n 0, 1) := by decide +kernel
theorem dX8_init_114 : decode cX8_init 114 = .ok (.getfield 25, 3) := by decide +kernel
theorem dX8_init_117 : decode cX8_init 117 = .ok (.iload_n 1, 1) := by decide +kernel
theorem dX8_init_118 : decode cX8_init 118 = .ok (.new 23, 3) := by decide +kernel
theorem dX8_init_121 : decode cX8_init 121 = .ok (.dup, 1) := by decide +kernel
theorem dX8_init_122 : decode cX8_init 122 = .ok (.invokespecial 44, 3) := by decide +kernel
theorem dX8_init_125 : decode cX8_init 125 = .ok (.aastore, 1) := by decide +kernel
theorem dX8_init_126 : decode cX8_init 126 = .ok (.iinc 1 1, 3) := by decide +kernel
theorem dX8_init_129 : decode cX8_init 129 = .ok (.goto (-22), 3) := by decide +kernel
theorem dX8_init_132 : decode cX8_init 132 = .ok (.iconst 0, 1) := by decide +kernel
theorem dX8_init_133 : decode cX8_init 133 = .ok (.istore_n 1, 1) := by decide +kernel
theorem dX8_init_134 : decode cX8_init 134 = .ok (.iload_n 1, 1) := by decide +kernel
theorem dX8_init_135 : decode cX8_init 135 = .ok (.bipush 8, 2) := by decide +kernel
theorem dX8_init_137 : decode cX8_init 137 = .ok (.if_icmp .ge 22, 3) := by decide +kernel
theorem dX8_init_140 : decode cX8_init 140 = .ok (.aload_n 0, 1) := by decide +kernel
theorem dX8_init_141 : decode cX8_init 141 = .ok (.getfield 31, 3) := by decide +kernel
theorem dX8_init_144 : decode cX8_init 144 = .ok (.iload_n 1, 1) := by decide +kernel
theorem dX8_init_145 : decode cX8_init 145 = .ok (.new 29, 3) := by decide +kernel
theorem dX8_init_148 : decode cX8_init 148 = .ok (.dup, 1) := by decide +kernel
theorem dX8_init_149 : decode cX8_init 149 = .ok (.invokespecial 45, 3) := by decide +kernel
theorem dX8_init_152 : decode cX8_init 152 = .ok (.aastore, 1) := by decide +kernel
theorem dX8_init_153 : decode cX8_init 153 = .ok (.iinc 1 1, 3) := by decide +kernel
theorem dX8_init_156 : decode cX8_init 156 = .ok (.goto (-22), 3) := by decide +kernel
theorem dX8_init_159 : decode cX8_init 159 = .ok (.return_, 1) := by decide +kernel
theorem dX8_copy_0 : decode cX8_copy 0 = .ok (.aload_n 0, 1) := by decide +kernel
theorem dX8_copy_1 : decode cX8_copy 1 = .ok (.aload_n 1, 1) := by decide +kernel
theorem dX8_copy_2 : decode cX8_copy 2 = .ok (.getfield 46, 3) := by decide +kernel
theorem dX8_copy_5 : decode cX8_copy 5 = .ok (.putfield 46, 3) := by decide +kernel
theorem dX8_copy_8 : decode cX8_copy 8 = .ok (.iconst 0, 1) := by decide +kernel
theorem dX8_copy_9 : decode cX8_copy 9 = .ok (.istore_n 2, 1) := by decide +kernel
theorem dX8_copy_10 : decode cX8_copy 10 = .ok (.iload_n 2, 1) := by decide +kernel
theorem dX8_copy_11 : decode cX8_copy 11 = .ok (.aload_n 0, 1) := by decide +kernel
theorem dX8_copy_12 : decode cX8_copy 12 = .ok (.getfield 46, 3) := by decide +kernel
theorem dX8_copy_15 : decode cX8_copy 15 = .ok (.if_icmp .ge 24, 3) := by decide +kernel
theorem dX8_copy_18 : decode cX8_copy 18 = .ok (.aload_n 0, 1) := by decide +kernel
theorem dX8_copy_19 : decode cX8_copy 19 = .ok (.getfield 11, 3) := by decide +kernel
theorem dX8_copy_22 : decode cX8_copy 22 = .ok (.iload_n 2, 1) := by decide +kernel
theorem dX8_copy_23 : decode cX8_copy 23 = .ok (.aaload, 1) := by decide +kernel
theorem dX8_copy_24 : decode cX8_copy 24 = .ok (.aload_n 1, 1) := by decide +kernel
theorem dX8_copy_25 : decode cX8_copy 25 = .ok (.getfield 11, 3) := by decide +kernel
theorem dX8_copy_28 : decode cX8_copy 28 = .ok (.iload_n 2, 1) := by decide +kernel
theorem dX8_copy_29 : decode cX8_copy 29 = .ok (.aaload, 1) := by decide +kernel
theorem dX8_copy_30 : decode cX8_copy 30 = .ok (.invokevirtual 50, 3) := by decide +kernel
theorem dX8_copy_33 : decode cX8_copy 33 = .ok (.iinc 2 1, 3) := by decide +kernel
theorem dX8_copy_36 : decode cX8_copy 36 = .ok (.goto (-26), 3) := by decide +kernel
theorem dX8_copy_39 : decode cX8_copy 39 = .ok (.aload_n 0, 1) := by decide +kernel
theorem dX8_copy_40 : decode cX8_copy 40 = .ok (.aload_n 1, 1) := by decide +kernel
theorem dX8_copy_41 : decode cX8_copy 41 = .ok (.getfield 54, 3) := by decide +kernel
theorem dX8_copy_44 : decode cX8_copy 44 = .ok (.putfield 54, 3) := by decide +kernel
theorem dX8_copy_47 : decode cX8_copy 47 = .ok (.iconst 0, 1) := by decide +kernel
theorem dX8_copy_48 : decode cX8_copy 48 = .ok (.istore_n 2, 1) := by decide +kernel
theorem dX8_copy_49 : decode cX8_copy 49 = .ok (.iload_n 2, 1) := by decide +kernel
theorem dX8_copy_50 : decode cX8_copy 50 = .ok (.aload_n 0, 1) := by decide +kernel
theorem dX8_copy_51 : decode cX8_copy 51 = .ok (.getfield 54, 3) := by decide +kernel
theorem dX8_copy_54 : decode cX8_copy 54 = .ok (.if_icmp .ge 29, 3) := by decide +kernel
theorem dX8_copy_57 : decode cX8_copy 57 = .ok (.aload_n 0, 1) := by decide +kernel
theorem dX8_copy_58 : decode cX8_copy 58 = .ok (.getfield 19, 3) := by decide +kernel
theorem dX8_copy_61 : decode cX8_copy 61 = .ok (.iload_n 2, 1) := by decide +kernel
theorem dX8_copy_62 : decode cX8_copy 62 = .ok (.aaload, 1) := by decide +kernel
theorem dX8_copy_63 : decode cX8_copy 63 = .ok (.aload_n 1, 1) := by decide +kernel
theorem dX8_copy_64 : decode cX8_copy 64 = .ok (.getfield 19, 3) := by decide +kernel
theorem dX8_copy_67 : decode cX8_copy 67 = .ok (.iload_n 2, 1) := by decide +kernel
theorem dX8_copy_68 : decode cX8_copy 68 = .ok (.aaload, 1) := by decide +kernel
theorem dX8_copy_69 : decode cX8_copy 69 = .ok (.invokevirtual 57, 3) := by decide +kernel
theorem dX8_copy_72 : decode cX8_copy 72 = .ok (.aload_n 0, 1) := by decide +kernel
theorem dX8_copy_73 : decode cX8_copy 73 = .ok (.iload_n 2, 1) := by decide +kernel
theorem dX8_copy_74 : decode cX8_copy 74 = .ok (.invokevirtual 60, 3) := by decide +kernel
theorem dX8_copy_77 : decode cX8_copy 77 = .ok (.iinc 2 1, 3) := by decide +kernel
theorem dX8_copy_80 : decode cX8_copy 80 = .ok (.goto (-31), 3) := by decide +kernel
theorem dX8_copy_83 : decode cX8_copy 83 = .ok (.aload_n 0, 1) := by decide +kernel
theorem dX8_copy_84 : decode cX8_copy 84 = .ok (.aload_n 1, 1) := by decide +kernel
theorem dX8_copy_85 : decode cX8_copy 85 = .ok (.getfield 64, 3) := by decide +kernel
theorem dX8_copy_88 : decode cX8_copy 88 = .ok (.putfield 64, 3) := by decide +kernel
theorem dX8_copy_91 : decode cX8_copy 91 = .ok (.iconst 0, 1) := by decide +kernel
theorem dX8_copy_92 : decode cX8_copy 92 = .ok (.istore_n 2, 1) := by decide +kernel
theorem dX8_copy_93 : decode cX8_copy 93 = .ok (.iload_n 2, 1) := by decide +kernel
theorem dX8_copy_94 : decode cX8_copy 94 = .ok (.aload_n 0, 1) := by decide +kernel
theorem dX8_copy_95 : decode cX8_copy 95 = .ok (.getfield 64, 3) := by decide +kernel
theorem dX8_copy_98 : decode cX8_copy 98 = .ok (.if_icmp .ge 24, 3) := by decide +kernel
theorem dX8_copy_101 : decode cX8_copy 101 = .ok (.aload_n 0, 1) := by decide +kernel
theorem dX8_copy_102 : decode cX8_copy 102 = .ok (.getfield 25, 3) := by decide +kernel
theorem dX8_copy_105 : decode cX8_copy 105 = .ok (.iload_n 2, 1) := by decide +kernel
theorem dX8_copy_106 : decode cX8_copy 106 = .ok (.aaload, 1) := by decide +kernel
theorem dX8_copy_107 : decode cX8_copy 107 = .ok (.aload_n 1, 1) := by decide +kernel
theorem dX8_copy_108 : decode cX8_copy 108 = .ok (.getfield 25, 3) := by decide +kernel
theorem dX8_copy_111 : decode cX8_copy 111 = .ok (.iload_n 2, 1) := by decide +kernel
theorem dX8_copy_112 : decode cX8_copy 112 = .ok (.aaload, 1) := by decide +kernel
theorem dX8_copy_113 : decode cX8_copy 113 = .ok (.invokevirtual 67, 3) := by decide +kernel
theorem dX8_copy_116 : decode cX8_copy 116 = .ok (.iinc 2 1, 3) := by decide +kernel
theorem dX8_copy_119 : decode cX8_copy 119 = .ok (.goto (-26), 3) := by decide +kernel
theorem dX8_copy_122 : decode cX8_copy 122 = .ok (.aload_n 0, 1) := by decide +kernel
theorem dX8_copy_123 : decode cX8_copy 123 = .ok (.aload_n 1, 1) := by decide +kernel
theorem dX8_copy_124 : decode cX8_copy 124 = .ok (.getfield 70, 3) := by decide +kernel
theorem dX8_copy_127 : decode cX8_copy 127 = .ok (.putfield 70, 3) := by decide +kernel
theorem dX8_copy_130 : decode cX8_copy 130 = .ok (.iconst 0, 1) := by decide +kernel
theorem dX8_copy_131 : decode cX8_copy 131 = .ok (.istore_n 2, 1) := by decide +kernel
theorem dX8_copy_132 : decode cX8_copy 132 = .ok (.iload_n 2, 1) := by decide +kernel
theorem dX8_copy_133 : decode cX8_copy 133 = .ok (.aload_n 0, 1) := by decide +kernel
theorem dX8_copy_134 : decode cX8_copy 134 = .ok (.getfield 70, 3) := by decide +kernel
theorem dX8_copy_137 : decode cX8_copy 137 = .ok (.if_icmp .ge 45, 3) := by decide +kernel
theorem dX8_copy_140 : decode cX8_copy 140 = .ok (.aload_n 0, 1) := by decide +kernel
theorem dX8_copy_141 : decode cX8_copy 141 = .ok (.getfield 31, 3) := by decide +kernel
theorem dX8_copy_144 : decode cX8_copy 144 = .ok (.iload_n 2, 1) := by decide +kernel
theorem dX8_copy_145 : decode cX8_copy 145 = .ok (.aaload, 1) := by decide +kernel
theorem dX8_copy_146 : decode cX8_copy 146 = .ok (.aload_n 1, 1) := by decide +kernel
theorem dX8_copy_147 : decode cX8_copy 147 = .ok (.getfield 31, 3) := by decide +kernel
theorem dX8_copy_150 : decode cX8_copy 150 = .ok (.iload_n 2, 1) := by decide +kernel
theorem dX8_copy_151 : decode cX8_copy 151 = .ok (.aaload, 1) := by decide +kernel
theorem dX8_copy_152 : decode cX8_copy 152 = .ok (.getfield 73, 3) := by decide +kernel
theorem dX8_copy_155 : decode cX8_copy 155 = .ok (.aload_n 1, 1) := by decide +kernel
theorem dX8_copy_156 : decode cX8_copy 156 = .ok (.getfield 31, 3) := by decide +kernel
theorem dX8_copy_159 : decode cX8_copy 159 = .ok (.iload_n 2, 1) := by decide +kernel
theorem dX8_copy_160 : decode cX8_copy 160 = .ok (.aaload, 1) := by decide +kernel
theorem dX8_copy_161 : decode cX8_copy 161 = .ok (.getfield 76, 3) := by decide +kernel
theorem dX8_copy_164 : decode cX8_copy 164 = .ok (.aload_n 1, 1) := by decide +kernel
theorem dX8_copy_165 : decode cX8_copy 165 = .ok (.getfield 31, 3) := by decide +kernel
theorem dX8_copy_168 : decode cX8_copy 168 = .ok (.iload_n 2, 1) := by decide +kernel
theorem dX8_copy_169 : decode cX8_copy 169 = .ok (.aaload, 1) := by decide +kernel
theorem dX8_copy_170 : decode cX8_copy 170 = .ok (.getfield 78, 3) := by decide +kernel
theorem dX8_copy_173 : decode cX8_copy 173 = .ok (.invokevirtual 81, 3) := by decide +kernel
theorem dX8_copy_176 : decode cX8_copy 176 = .ok (.iinc 2 1, 3) := by decide +kernel
theorem dX8_copy_179 : decode cX8_copy 179 = .ok (.goto (-47), 3) := by decide +kernel
theorem dX8_copy_182 : decode cX8_copy 182 = .ok (.aload_n 0, 1) := by decide +kernel
theorem dX8_copy_183 : decode cX8_copy 183 = .ok (.getfield 38, 3) := by decide +kernel
theorem dX8_copy_186 : decode cX8_copy 186 = .ok (.aload_n 1, 1) := by decide +kernel
theorem dX8_copy_187 : decode cX8_copy 187 = .ok (.getfield 38, 3) := by decide +kernel
theorem dX8_copy_190 : decode cX8_copy 190 = .ok (.invokevirtual 85, 3) := by decide +kernel
theorem dX8_copy_193 : decode cX8_copy 193 = .ok (.return_, 1) := by decide +kernel
theorem dX8_takeCrime_0 : decode cX8_takeCrime 0 = .ok (.iconst 0, 1) := by decide +kernel
theorem dX8_takeCrime_1 : decode cX8_takeCrime 1 = .ok (.istore_n 1, 1) := by decide +kernel
theorem dX8_takeCrime_2 : decode cX8_takeCrime 2 = .ok (.iload_n 1, 1) := by decide +kernel
theorem dX8_takeCrime_3 : decode cX8_takeCrime 3 = .ok (.aload_n 0, 1) := by decide +kernel
theorem dX8_takeCrime_4 : decode cX8_takeCrime 4 = .ok (.getfield 54, 3) := by decide +kernel
theorem dX8_takeCrime_7 : decode cX8_takeCrime 7 = .ok (.if_icmp .ge 31, 3) := by decide +kernel
theorem dX8_takeCrime_10 : decode cX8_takeCrime 10 = .ok (.aload_n 0, 1) := by decide +kernel
theorem dX8_takeCrime_11 : decode cX8_takeCrime 11 = .ok (.getfield 19, 3) := by decide +kernel
theorem dX8_takeCrime_14 : decode cX8_takeCrime 14 = .ok (.iload_n 1, 1) := by decide +kernel
theorem dX8_takeCrime_15 : decode cX8_takeCrime 15 = .ok (.aaload, 1) := by decide +kernel
theorem dX8_takeCrime_16 : decode cX8_takeCrime 16 = .ok (.aload_n 0, 1) := by decide +kernel
theorem dX8_takeCrime_17 : decode cX8_takeCrime 17 = .ok (.getfield 46, 3) := by decide +kernel
theorem dX8_takeCrime_20 : decode cX8_takeCrime 20 = .ok (.aload_n 0, 1) := by decide +kernel
theorem dX8_takeCrime_21 : decode cX8_takeCrime 21 = .ok (.getfield 11, 3) := by decide +kernel
theorem dX8_takeCrime_24 : decode cX8_takeCrime 24 = .ok (.aload_n 0, 1) := by decide +kernel
theorem dX8_takeCrime_25 : decode cX8_takeCrime 25 = .ok (.getfield 46, 3) := by decide +kernel
theorem dX8_takeCrime_28 : decode cX8_takeCrime 28 = .ok (.aaload, 1) := by decide +kernel
theorem dX8_takeCrime_29 : decode cX8_takeCrime 29 = .ok (.invokevirtual 88, 3) := by decide +kernel
theorem dX8_takeCrime_32 : decode cX8_takeCrime 32 = .ok (.iinc 1 1, 3) := by decide +kernel
theorem dX8_takeCrime_35 : decode cX8_takeCrime 35 = .ok (.goto (-33), 3) := by decide +kernel
theorem dX8_takeCrime_38 : decode cX8_takeCrime 38 = .ok (.aload_n 0, 1) := by decide +kernel
theorem dX8_takeCrime_39 : decode cX8_takeCrime 39 = .ok (.dup, 1) := by decide +kernel
theorem dX8_takeCrime_40 : decode cX8_takeCrime 40 = .ok (.getfield 46, 3) := by decide +kernel
theorem dX8_takeCrime_43 : decode cX8_takeCrime 43 = .ok (.iconst 1, 1) := by decide +kernel
theorem dX8_takeCrime_44 : decode cX8_takeCrime 44 = .ok (.iadd, 1) := by decide +kernel
theorem dX8_takeCrime_45 : decode cX8_takeCrime 45 = .ok (.putfield 46, 3) := by decide +kernel
theorem dX8_takeCrime_48 : decode cX8_takeCrime 48 = .ok (.aload_n 0, 1) := by decide +kernel
theorem dX8_takeCrime_49 : decode cX8_takeCrime 49 = .ok (.getfield 46, 3) := by decide +kernel
theorem dX8_takeCrime_52 : decode cX8_takeCrime 52 = .ok (.iconst 1, 1) := by decide +kernel
theorem dX8_takeCrime_53 : decode cX8_takeCrime 53 = .ok (.isub, 1) := by decide +kernel
theorem dX8_takeCrime_54 : decode cX8_takeCrime 54 = .ok (.ireturn, 1) := by decide +kernel
theorem dX8_takeDeed_0 : decode cX8_takeDeed 0 = .ok (.aload_n 0, 1) := by decide +kernel
theorem dX8_takeDeed_1 : decode cX8_takeDeed 1 = .ok (.aload_n 0, 1) := by decide +kernel
theorem dX8_takeDeed_2 : decode cX8_takeDeed 2 = .ok (.getfield 54, 3) := by decide +kernel
theorem dX8_takeDeed_5 : decode cX8_takeDeed 5 = .ok (.invokevirtual 60, 3) := by decide +kernel
theorem dX8_takeDeed_8 : decode cX8_takeDeed 8 = .ok (.aload_n 0, 1) := by decide +kernel
theorem dX8_takeDeed_9 : decode cX8_takeDeed 9 = .ok (.dup, 1) := by decide +kernel
theorem dX8_takeDeed_10 : decode cX8_takeDeed 10 = .ok (.getfield 54, 3) := by decide +kernel
theorem dX8_takeDeed_13 : decode cX8_takeDeed 13 = .ok (.iconst 1, 1) := by decide +kernel
theorem dX8_takeDeed_14 : decode cX8_takeDeed 14 = .ok (.iadd, 1) := by decide +kernel
theorem dX8_takeDeed_15 : decode cX8_takeDeed 15 = .ok (.putfield 54, 3) := by decide +kernel
theorem dX8_takeDeed_18 : decode cX8_takeDeed 18 = .ok (.aload_n 0, 1) := by decide +kernel
theorem dX8_takeDeed_19 : decode cX8_takeDeed 19 = .ok (.getfield 54, 3) := by decide +kernel
theorem dX8_takeDeed_22 : decode cX8_takeDeed 22 = .ok (.iconst 1, 1) := by decide +kernel
theorem dX8_takeDeed_23 : decode cX8_takeDeed 23 = .ok (.isub, 1) := by decide +kernel
theorem dX8_takeDeed_24 : decode cX8_takeDeed 24 = .ok (.ireturn, 1) := by decide +kernel
theorem dX8_takePaper_0 : decode cX8_takePaper 0 = .ok (.aload_n 0, 1) := by decide +kernel
theorem dX8_takePaper_1 : decode cX8_takePaper 1 = .ok (.dup, 1) := by decide +kernel
theorem dX8_takePaper_2 : decode cX8_takePaper 2 = .ok (.getfield 64, 3) := by decide +kernel
theorem dX8_takePaper_5 : decode cX8_takePaper 5 = .ok (.iconst 1, 1) := by decide +kernel
theorem dX8_takePaper_6 : decode cX8_takePaper 6 = .ok (.iadd, 1) := by decide +kernel
theorem dX8_takePaper_7 : decode cX8_takePaper 7 = .ok (.putfield 64, 3) := by decide +kernel
theorem dX8_takePaper_10 : decode cX8_takePaper 10 = .ok (.aload_n 0, 1) := by decide +kernel
theorem dX8_takePaper_11 : decode cX8_takePaper 11 = .ok (.getfield 64, 3) := by decide +kernel
theorem dX8_takePaper_14 : decode cX8_takePaper 14 = .ok (.iconst 1, 1) := by decide +kernel
theorem dX8_takePaper_15 : decode cX8_takePaper 15 = .ok (.isub, 1) := by decide +kernel
theorem dX8_takePaper_16 : decode cX8_takePaper 16 = .ok (.ireturn, 1) := by decide +kernel
theorem dX8_learnAgain_0 : decode cX8_learnAgain 0 = .ok (.aload_n 0, 1) := by decide +kernel
theorem dX8_learnAgain_1 : decode cX8_learnAgain 1 = .ok (.getfield 19, 3) := by decide +kernel
theorem dX8_learnAgain_4 : decode cX8_learnAgain 4 = .ok (.iload_n 1, 1) := by decide +kernel
theorem dX8_learnAgain_5 : decode cX8_learnAgain 5 = .ok (.aaload, 1) := by decide +kernel
theorem dX8_learnAgain_6 : decode cX8_learnAgain 6 = .ok (.invokevirtual 92, 3) := by decide +kernel
theorem dX8_learnAgain_9 : decode cX8_learnAgain 9 = .ok (.iconst 0, 1) := by decide +kernel
theorem dX8_learnAgain_10 : decode cX8_learnAgain 10 = .ok (.istore_n 2, 1) := by decide +kernel
theorem dX8_learnAgain_11 : decode cX8_learnAgain 11 = .ok (.iload_n 2, 1) := by decide +kernel
theorem dX8_learnAgain_12 : decode cX8_learnAgain 12 = .ok (.aload_n 0, 1) := by decide +kernel
theorem dX8_learnAgain_13 : decode cX8_learnAgain 13 = .ok (.getfield 46, 3) := by decide +kernel
theorem dX8_learnAgain_16 : decode cX8_learnAgain 16 = .ok (.if_icmp .ge 25, 3) := by decide +kernel
theorem dX8_learnAgain_19 : decode cX8_learnAgain 19 = .ok (.aload_n 0, 1) := by decide +kernel
theorem dX8_learnAgain_20 : decode cX8_learnAgain 20 = .ok (.getfield 19, 3) := by decide +kernel
theorem dX8_learnAgain_23 : decode cX8_learnAgain 23 = .ok (.iload_n 1, 1) := by decide +kernel
theorem dX8_learnAgain_24 : decode cX8_learnAgain 24 = .ok (.aaload, 1) := by decide +kernel
theorem dX8_learnAgain_25 : decode cX8_learnAgain 25 = .ok (.iload_n 2, 1) := by decide +kernel
theorem dX8_learnAgain_26 : decode cX8_learnAgain 26 = .ok (.aload_n 0, 1) := by decide +kernel
theorem dX8_learnAgain_27 : decode cX8_learnAgain 27 = .ok (.getfield 11, 3) := by decide +kernel
theorem dX8_learnAgain_30 : decode cX8_learnAgain 30 = .ok (.iload_n 2, 1) := by decide +kernel
theorem dX8_learnAgain_31 : decode cX8_learnAgain 31 = .ok (.aaload, 1) := by decide +kernel
theorem dX8_learnAgain_32 : decode cX8_learnAgain 32 = .ok (.invokevirtual 88, 3) := by decide +kernel
theorem dX8_learnAgain_35 : decode cX8_learnAgain 35 = .ok (.iinc 2 1, 3) := by decide +kernel
theorem dX8_learnAgain_38 : decode cX8_learnAgain 38 = .ok (.goto (-27), 3) := by decide +kernel
theorem dX8_learnAgain_41 : decode cX8_learnAgain 41 = .ok (.return_, 1) := by decide +kernel
theorem dX8_allDeeds_0 : decode cX8_allDeeds 0 = .ok (.iconst 1, 1) := by decide +kernel
theorem dX8_allDeeds_1 : decode cX8_allDeeds 1 = .ok (.aload_n 0, 1) := by decide +kernel
theorem dX8_allDeeds_2 : decode cX8_allDeeds 2 = .ok (.getfield 54, 3) := by decide +kernel
theorem dX8_allDeeds_5 : decode cX8_allDeeds 5 = .ok (.ishl, 1) := by decide +kernel
theorem dX8_allDeeds_6 : decode cX8_allDeeds 6 = .ok (.iconst 1, 1) := by decide +kernel
theorem dX8_allDeeds_7 : decode cX8_allDeeds 7 = .ok (.isub, 1) := by decide +kernel
theorem dX8_allDeeds_8 : decode cX8_allDeeds 8 = .ok (.ireturn, 1) := by decide +kernel
theorem dX8_crimesOf_0 : decode cX8_crimesOf 0 = .ok (.iconst 0, 1) := by decide +kernel
theorem dX8_crimesOf_1 : decode cX8_crimesOf 1 = .ok (.istore_n 2, 1) := by decide +kernel
theorem dX8_crimesOf_2 : decode cX8_crimesOf 2 = .ok (.iconst 0, 1) := by decide +kernel
theorem dX8_crimesOf_3 : decode cX8_crimesOf 3 = .ok (.istore_n 3, 1) := by decide +kernel
theorem dX8_crimesOf_4 : decode cX8_crimesOf 4 = .ok (.iload_n 3, 1) := by decide +kernel
theorem dX8_crimesOf_5 : decode cX8_crimesOf 5 = .ok (.aload_n 0, 1) := by decide +kernel
theorem dX8_crimesOf_6 : decode cX8_crimesOf 6 = .ok (.getfield 46, 3) := by decide +kernel
theorem dX8_crimesOf_9 : decode cX8_crimesOf 9 = .ok (.if_icmp .ge 32, 3) := by decide +kernel
theorem dX8_crimesOf_12 : decode cX8_crimesOf 12 = .ok (.iload_n 2, 1) := by decide +kernel
theorem dX8_crimesOf_13 : decode cX8_crimesOf 13 = .ok (.aload_n 0, 1) := by decide +kernel
theorem dX8_crimesOf_14 : decode cX8_crimesOf 14 = .ok (.getfield 11, 3) := by decide +kernel
theorem dX8_crimesOf_17 : decode cX8_crimesOf 17 = .ok (.iload_n 3, 1) := by decide +kernel
theorem dX8_crimesOf_18 : decode cX8_crimesOf 18 = .ok (.aaload, 1) := by decide +kernel
theorem dX8_crimesOf_19 : decode cX8_crimesOf 19 = .ok (.getfield 95, 3) := by decide +kernel
theorem dX8_crimesOf_22 : decode cX8_crimesOf 22 = .ok (.iload_n 1, 1) := by decide +kernel
theorem dX8_crimesOf_23 : decode cX8_crimesOf 23 = .ok (.if_icmp .ne 9, 3) := by decide +kernel
theorem dX8_crimesOf_26 : decode cX8_crimesOf 26 = .ok (.iconst 1, 1) := by decide +kernel
theorem dX8_crimesOf_27 : decode cX8_crimesOf 27 = .ok (.iload_n 3, 1) := by decide +kernel
theorem dX8_crimesOf_28 : decode cX8_crimesOf 28 = .ok (.ishl, 1) := by decide +kernel
theorem dX8_crimesOf_29 : decode cX8_crimesOf 29 = .ok (.goto 4, 3) := by decide +kernel
theorem dX8_crimesOf_32 : decode cX8_crimesOf 32 = .ok (.iconst 0, 1) := by decide +kernel
theorem dX8_crimesOf_33 : decode cX8_crimesOf 33 = .ok (.ior, 1) := by decide +kernel
theorem dX8_crimesOf_34 : decode cX8_crimesOf 34 = .ok (.istore_n 2, 1) := by decide +kernel
theorem dX8_crimesOf_35 : decode cX8_crimesOf 35 = .ok (.iinc 3 1, 3) := by decide +kernel
theorem dX8_crimesOf_38 : decode cX8_crimesOf 38 = .ok (.goto (-34), 3) := by decide +kernel
theorem dX8_crimesOf_41 : decode cX8_crimesOf 41 = .ok (.iload_n 2, 1) := by decide +kernel
theorem dX8_crimesOf_42 : decode cX8_crimesOf 42 = .ok (.ireturn, 1) := by decide +kernel
theorem dX8_landsWhereCrime_0 : decode cX8_landsWhereCrime 0 = .ok (.iconst 0, 1) := by decide +kernel
theorem dX8_landsWhereCrime_1 : decode cX8_landsWhereCrime 1 = .ok (.istore_n 2, 1) := by decide +kernel
theorem dX8_landsWhereCrime_2 : decode cX8_landsWhereCrime 2 = .ok (.iconst 0, 1) := by decide +kernel
theorem dX8_landsWhereCrime_3 : decode cX8_landsWhereCrime 3 = .ok (.istore_n 3, 1) := by decide +kernel
theorem dX8_landsWhereCrime_4 : decode cX8_landsWhereCrime 4 = .ok (.iload_n 3, 1) := by decide +kernel
theorem dX8_landsWhereCrime_5 : decode cX8_landsWhereCrime 5 = .ok (.aload_n 0, 1) := by decide +kernel
theorem dX8_landsWhereCrime_6 : decode cX8_landsWhereCrime 6 = .ok (.getfield 46, 3) := by decide +kernel
theorem dX8_landsWhereCrime_9 : decode cX8_landsWhereCrime 9 = .ok (.if_icmp .ge 40, 3) := by decide +kernel
theorem dX8_landsWhereCrime_12 : decode cX8_landsWhereCrime 12 = .ok (.iload_n 2, 1) := by decide +kernel
theorem dX8_landsWhereCrime_13 : decode cX8_landsWhereCrime 13 = .ok (.aload_n 0, 1) := by decide +kernel
theorem dX8_landsWhereCrime_14 : decode cX8_landsWhereCrime 14 = .ok (.getfield 11, 3) := by decide +kernel
theorem dX8_landsWhereCrime_17 : decode cX8_landsWhereCrime 17 = .ok (.iload_n 3, 1) := by decide +kernel
theorem dX8_landsWhereCrime_18 : decode cX8_landsWhereCrime 18 = .ok (.aaload, 1) := by decide +kernel
theorem dX8_landsWhereCrime_19 : decode cX8_landsWhereCrime 19 = .ok (.iload_n 1, 1) := by decide +kernel
theorem dX8_landsWhereCrime_20 : decode cX8_landsWhereCrime 20 = .ok (.invokevirtual 96, 3) := by decide +kernel
theorem dX8_landsWhereCrime_23 : decode cX8_landsWhereCrime 23 = .ok (.ifCond .eq 17, 3) := by decide +kernel
theorem dX8_landsWhereCrime_26 : decode cX8_landsWhereCrime 26 = .ok (.iconst 1, 1) := by decide +kernel
theorem dX8_landsWhereCrime_27 : decode cX8_landsWhereCrime 27 = .ok (.aload_n 0, 1) := by decide +kernel
theorem dX8_landsWhereCrime_28 : decode cX8_landsWhereCrime 28 = .ok (.getfield 11, 3) := by decide +kernel
theorem dX8_landsWhereCrime_31 : decode cX8_landsWhereCrime 31 = .ok (.iload_n 3, 1) := by decide +kernel
theorem dX8_landsWhereCrime_32 : decode cX8_landsWhereCrime 32 = .ok (.aaload, 1) := by decide +kernel
theorem dX8_landsWhereCrime_33 : decode cX8_landsWhereCrime 33 = .ok (.getfield 95, 3) := by decide +kernel
theorem dX8_landsWhereCrime_36 : decode cX8_landsWhereCrime 36 = .ok (.ishl, 1) := by decide +kernel
theorem dX8_landsWhereCrime_37 : decode cX8_landsWhereCrime 37 = .ok (.goto 4, 3) := by decide +kernel
theorem dX8_landsWhereCrime_40 : decode cX8_landsWhereCrime 40 = .ok (.iconst 0, 1) := by decide +kernel
theorem dX8_landsWhereCrime_41 : decode cX8_landsWhereCrime 41 = .ok (.ior, 1) := by decide +kernel
theorem dX8_landsWhereCrime_42 : decode cX8_landsWhereCrime 42 = .ok (.istore_n 2, 1) := by decide +kernel
theorem dX8_landsWhereCrime_43 : decode cX8_landsWhereCrime 43 = .ok (.iinc 3 1, 3) := by decide +kernel
theorem dX8_landsWhereCrime_46 : decode cX8_landsWhereCrime 46 = .ok (.goto (-42), 3) := by decide +kernel
theorem dX8_landsWhereCrime_49 : decode cX8_landsWhereCrime 49 = .ok (.iload_n 2, 1) := by decide +kernel
theorem dX8_landsWhereCrime_50 : decode cX8_landsWhereCrime 50 = .ok (.ireturn, 1) := by decide +kernel
theorem dX8_coveredBy_0 : decode cX8_coveredBy 0 = .ok (.iconst 0, 1) := by decide +kernel
theorem dX8_coveredBy_1 : decode cX8_coveredBy 1 = .ok (.istore_n 2, 1) := by decide +kernel
theorem dX8_coveredBy_2 : decode cX8_coveredBy 2 = .ok (.iconst 0, 1) := by decide +kernel
theorem dX8_coveredBy_3 : decode cX8_coveredBy 3 = .ok (.istore_n 3, 1) := by decide +kernel
theorem dX8_coveredBy_4 : decode cX8_coveredBy 4 = .ok (.iload_n 3, 1) := by decide +kernel
theorem dX8_coveredBy_5 : decode cX8_coveredBy 5 = .ok (.aload_n 0, 1) := by decide +kernel
theorem dX8_coveredBy_6 : decode cX8_coveredBy 6 = .ok (.getfield 54, 3) := by decide +kernel
theorem dX8_coveredBy_9 : decode cX8_coveredBy 9 = .ok (.if_icmp .ge 32, 3) := by decide +kernel
theorem dX8_coveredBy_12 : decode cX8_coveredBy 12 = .ok (.iload_n 2, 1) := by decide +kernel
theorem dX8_coveredBy_13 : decode cX8_coveredBy 13 = .ok (.aload_n 1, 1) := by decide +kernel
theorem dX8_coveredBy_14 : decode cX8_coveredBy 14 = .ok (.aload_n 0, 1) := by decide +kernel
theorem dX8_coveredBy_15 : decode cX8_coveredBy 15 = .ok (.getfield 19, 3) := by decide +kernel
theorem dX8_coveredBy_18 : decode cX8_coveredBy 18 = .ok (.iload_n 3, 1) := by decide +kernel
theorem dX8_coveredBy_19 : decode cX8_coveredBy 19 = .ok (.aaload, 1) := by decide +kernel
theorem dX8_coveredBy_20 : decode cX8_coveredBy 20 = .ok (.invokevirtual 100, 3) := by decide +kernel
theorem dX8_coveredBy_23 : decode cX8_coveredBy 23 = .ok (.ifCond .eq 9, 3) := by decide +kernel
theorem dX8_coveredBy_26 : decode cX8_coveredBy 26 = .ok (.iconst 1, 1) := by decide +kernel
theorem dX8_coveredBy_27 : decode cX8_coveredBy 27 = .ok (.iload_n 3, 1) := by decide +kernel
theorem dX8_coveredBy_28 : decode cX8_coveredBy 28 = .ok (.ishl, 1) := by decide +kernel
theorem dX8_coveredBy_29 : decode cX8_coveredBy 29 = .ok (.goto 4, 3) := by decide +kernel
theorem dX8_coveredBy_32 : decode cX8_coveredBy 32 = .ok (.iconst 0, 1) := by decide +kernel
theorem dX8_coveredBy_33 : decode cX8_coveredBy 33 = .ok (.ior, 1) := by decide +kernel
theorem dX8_coveredBy_34 : decode cX8_coveredBy 34 = .ok (.istore_n 2, 1) := by decide +kernel
theorem dX8_coveredBy_35 : decode cX8_coveredBy 35 = .ok (.iinc 3 1, 3) := by decide +kernel
theorem dX8_coveredBy_38 : decode cX8_coveredBy 38 = .ok (.goto (-34), 3) := by decide +kernel
theorem dX8_coveredBy_41 : decode cX8_coveredBy 41 = .ok (.iload_n 2, 1) := by decide +kernel
theorem dX8_coveredBy_42 : decode cX8_coveredBy 42 = .ok (.ireturn, 1) := by decide +kernel
theorem dX8_barsAgainst_0 : decode cX8_barsAgainst 0 = .ok (.iconst 0, 1) := by decide +kernel
theorem dX8_barsAgainst_1 : decode cX8_barsAgainst 1 = .ok (.istore_n 3, 1) := by decide +kernel
theorem dX8_barsAgainst_2 : decode cX8_barsAgainst 2 = .ok (.iload_n 3, 1) := by decide +kernel
theorem dX8_barsAgainst_3 : decode cX8_barsAgainst 3 = .ok (.aload_n 0, 1) := by decide +kernel
theorem dX8_barsAgainst_4 : decode cX8_barsAgainst 4 = .ok (.getfield 38, 3) := by decide +kernel
theorem dX8_barsAgainst_7 : decode cX8_barsAgainst 7 = .ok (.getfield 104, 3) := by decide +kernel
theorem dX8_barsAgainst_10 : decode cX8_barsAgainst 10 = .ok (.aload_n 1, 1) := by decide +kernel
theorem dX8_barsAgainst_11 : decode cX8_barsAgainst 11 = .ok (.getfield 107, 3) := by decide +kernel
theorem dX8_barsAgainst_14 : decode cX8_barsAgainst 14 = .ok (.if_icmp .ne 7, 3) := by decide +kernel
theorem dX8_barsAgainst_17 : decode cX8_barsAgainst 17 = .ok (.iconst 1, 1) := by decide +kernel
theorem dX8_barsAgainst_18 : decode cX8_barsAgainst 18 = .ok (.goto 4, 3) := by decide +kernel
theorem dX8_barsAgainst_21 : decode cX8_barsAgainst 21 = .ok (.iconst 0, 1) := by decide +kernel
theorem dX8_barsAgainst_22 : decode cX8_barsAgainst 22 = .ok (.ior, 1) := by decide +kernel
theorem dX8_barsAgainst_23 : decode cX8_barsAgainst 23 = .ok (.istore_n 3, 1) := by decide +kernel
theorem dX8_barsAgainst_24 : decode cX8_barsAgainst 24 = .ok (.iload_n 3, 1) := by decide +kernel
theorem dX8_barsAgainst_25 : decode cX8_barsAgainst 25 = .ok (.aload_n 2, 1) := by decide +kernel
theorem dX8_barsAgainst_26 : decode cX8_barsAgainst 26 = .ok (.getfield 110, 3) := by decide +kernel
theorem dX8_barsAgainst_29 : decode cX8_barsAgainst 29 = .ok (.ifCond .eq 7, 3) := by decide +kernel
theorem dX8_barsAgainst_32 : decode cX8_barsAgainst 32 = .ok (.iconst 2, 1) := by decide +kernel
theorem dX8_barsAgainst_33 : decode cX8_barsAgainst 33 = .ok (.goto 4, 3) := by decide +kernel
theorem dX8_barsAgainst_36 : decode cX8_barsAgainst 36 = .ok (.iconst 0, 1) := by decide +kernel
theorem dX8_barsAgainst_37 : decode cX8_barsAgainst 37 = .ok (.ior, 1) := by decide +kernel
theorem dX8_barsAgainst_38 : decode cX8_barsAgainst 38 = .ok (.istore_n 3, 1) := by decide +kernel
theorem dX8_barsAgainst_39 : decode cX8_barsAgainst 39 = .ok (.iload_n 3, 1) := by decide +kernel
theorem dX8_barsAgainst_40 : decode cX8_barsAgainst 40 = .ok (.aload_n 2, 1) := by decide +kernel
theorem dX8_barsAgainst_41 : decode cX8_barsAgainst 41 = .ok (.getfield 114, 3) := by decide +kernel
theorem dX8_barsAgainst_44 : decode cX8_barsAgainst 44 = .ok (.bipush 32, 2) := by decide +kernel
theorem dX8_barsAgainst_46 : decode cX8_barsAgainst 46 = .ok (.iand, 1) := by decide +kernel
theorem dX8_barsAgainst_47 : decode cX8_barsAgainst 47 = .ok (.ifCond .eq 7, 3) := by decide +kernel
theorem dX8_barsAgainst_50 : decode cX8_barsAgainst 50 = .ok (.iconst 4, 1) := by decide +kernel
theorem dX8_barsAgainst_51 : decode cX8_barsAgainst 51 = .ok (.goto 4, 3) := by decide +kernel
theorem dX8_barsAgainst_54 : decode cX8_barsAgainst 54 = .ok (.iconst 0, 1) := by decide +kernel
theorem dX8_barsAgainst_55 : decode cX8_barsAgainst 55 = .ok (.ior, 1) := by decide +kernel
theorem dX8_barsAgainst_56 : decode cX8_barsAgainst 56 = .ok (.istore_n 3, 1) := by decide +kernel
theorem dX8_barsAgainst_57 : decode cX8_barsAgainst 57 = .ok (.iload_n 3, 1) := by decide +kernel
theorem dX8_barsAgainst_58 : decode cX8_barsAgainst 58 = .ok (.aload_n 2, 1) := by decide +kernel
theorem dX8_barsAgainst_59 : decode cX8_barsAgainst 59 = .ok (.aload_n 1, 1) := by decide +kernel
theorem dX8_barsAgainst_60 : decode cX8_barsAgainst 60 = .ok (.getfield 117, 3) := by decide +kernel
theorem dX8_barsAgainst_63 : decode cX8_barsAgainst 63 = .ok (.invokevirtual 120, 3) := by decide +kernel
theorem dX8_barsAgainst_66 : decode cX8_barsAgainst 66 = .ok (.ifCond .eq 16, 3) := by decide +kernel
theorem dX8_barsAgainst_69 : decode cX8_barsAgainst 69 = .ok (.aload_n 1, 1) := by decide +kernel
theorem dX8_barsAgainst_70 : decode cX8_barsAgainst 70 = .ok (.iconst 1, 1) := by decide +kernel
theorem dX8_barsAgainst_71 : decode cX8_barsAgainst 71 = .ok (.invokevirtual 123, 3) := by decide +kernel
theorem dX8_barsAgainst_74 : decode cX8_barsAgainst 74 = .ok (.ifCond .ne 8, 3) := by decide +kernel
theorem dX8_barsAgainst_77 : decode cX8_barsAgainst 77 = .ok (.bipush 8, 2) := by decide +kernel
theorem dX8_barsAgainst_79 : decode cX8_barsAgainst 79 = .ok (.goto 4, 3) := by decide +kernel
theorem dX8_barsAgainst_82 : decode cX8_barsAgainst 82 = .ok (.iconst 0, 1) := by decide +kernel
theorem dX8_barsAgainst_83 : decode cX8_barsAgainst 83 = .ok (.ior, 1) := by decide +kernel
theorem dX8_barsAgainst_84 : decode cX8_barsAgainst 84 = .ok (.istore_n 3, 1) := by decide +kernel
theorem dX8_barsAgainst_85 : decode cX8_barsAgainst 85 = .ok (.iload_n 3, 1) := by decide +kernel
theorem dX8_barsAgainst_86 : decode cX8_barsAgainst 86 = .ok (.aload_n 2, 1) := by decide +kernel
theorem dX8_barsAgainst_87 : decode cX8_barsAgainst 87 = .ok (.getfield 126, 3) := by decide +kernel
theorem dX8_barsAgainst_90 : decode cX8_barsAgainst 90 = .ok (.aload_n 1, 1) := by decide +kernel
theorem dX8_barsAgainst_91 : decode cX8_barsAgainst 91 = .ok (.getfield 107, 3) := by decide +kernel
theorem dX8_barsAgainst_94 : decode cX8_barsAgainst 94 = .ok (.if_icmp .ne 8, 3) := by decide +kernel
theorem dX8_barsAgainst_97 : decode cX8_barsAgainst 97 = .ok (.bipush 16, 2) := by decide +kernel
theorem dX8_barsAgainst_99 : decode cX8_barsAgainst 99 = .ok (.goto 4, 3) := by decide +kernel
theorem dX8_barsAgainst_102 : decode cX8_barsAgainst 102 = .ok (.iconst 0, 1) := by decide +kernel
theorem dX8_barsAgainst_103 : decode cX8_barsAgainst 103 = .ok (.ior, 1) := by decide +kernel
theorem dX8_barsAgainst_104 : decode cX8_barsAgainst 104 = .ok (.istore_n 3, 1) := by decide +kernel
theorem dX8_barsAgainst_105 : decode cX8_barsAgainst 105 = .ok (.iload_n 3, 1) := by decide +kernel
theorem dX8_barsAgainst_106 : decode cX8_barsAgainst 106 = .ok (.aload_n 1, 1) := by decide +kernel
theorem dX8_barsAgainst_107 : decode cX8_barsAgainst 107 = .ok (.getfield 127, 3) := by decide +kernel
theorem dX8_barsAgainst_110 : decode cX8_barsAgainst 110 = .ok (.iand, 1) := by decide +kernel
theorem dX8_barsAgainst_111 : decode cX8_barsAgainst 111 = .ok (.istore_n 3, 1) := by decide +kernel
theorem dX8_barsAgainst_112 : decode cX8_barsAgainst 112 = .ok (.aload_n 1, 1) := by decide +kernel
theorem dX8_barsAgainst_113 : decode cX8_barsAgainst 113 = .ok (.getfield 130, 3) := by decide +kernel
theorem dX8_barsAgainst_116 : decode cX8_barsAgainst 116 = .ok (.ifCond .eq 29, 3) := by decide +kernel
theorem dX8_barsAgainst_119 : decode cX8_barsAgainst 119 = .ok (.aload_n 0, 1) := by decide +kernel
theorem dX8_barsAgainst_120 : decode cX8_barsAgainst 120 = .ok (.getfield 38, 3) := by decide +kernel
theorem dX8_barsAgainst_123 : decode cX8_barsAgainst 123 = .ok (.getfield 133, 3) := by decide +kernel
theorem dX8_barsAgainst_126 : decode cX8_barsAgainst 126 = .ok (.aload_n 2, 1) := by decide +kernel
theorem dX8_barsAgainst_127 : decode cX8_barsAgainst 127 = .ok (.getfield 136, 3) := by decide +kernel
theorem dX8_barsAgainst_130 : decode cX8_barsAgainst 130 = .ok (.isub, 1) := by decide +kernel
theorem dX8_barsAgainst_131 : decode cX8_barsAgainst 131 = .ok (.aload_n 1, 1) := by decide +kernel
theorem dX8_barsAgainst_132 : decode cX8_barsAgainst 132 = .ok (.getfield 130, 3) := by decide +kernel
theorem dX8_barsAgainst_135 : decode cX8_barsAgainst 135 = .ok (.if_icmp .le 10, 3) := by decide +kernel
theorem dX8_barsAgainst_138 : decode cX8_barsAgainst 138 = .ok (.iload_n 3, 1) := by decide +kernel
theorem dX8_barsAgainst_139 : decode cX8_barsAgainst 139 = .ok (.bipush 32, 2) := by decide +kernel
theorem dX8_barsAgainst_141 : decode cX8_barsAgainst 141 = .ok (.ior, 1) := by decide +kernel
theorem dX8_barsAgainst_142 : decode cX8_barsAgainst 142 = .ok (.goto 4, 3) := by decide +kernel
theorem dX8_barsAgainst_145 : decode cX8_barsAgainst 145 = .ok (.iload_n 3, 1) := by decide +kernel
theorem dX8_barsAgainst_146 : decode cX8_barsAgainst 146 = .ok (.ireturn, 1) := by decide +kernel
theorem dX8_weigh_0 : decode cX8_weigh 0 = .ok (.aload_n 1, 1) := by decide +kernel
theorem dX8_weigh_1 : decode cX8_weigh 1 = .ok (.iconst 0, 1) := by decide +kernel
theorem dX8_weigh_2 : decode cX8_weigh 2 = .ok (.putfield 137, 3) := by decide +kernel
theorem dX8_weigh_5 : decode cX8_weigh 5 = .ok (.aload_n 1, 1) := by decide +kernel
theorem dX8_weigh_6 : decode cX8_weigh 6 = .ok (.iconst 0, 1) := by decide +kernel
theorem dX8_weigh_7 : decode cX8_weigh 7 = .ok (.putfield 140, 3) := by decide +kernel
theorem dX8_weigh_10 : decode cX8_weigh 10 = .ok (.iconst 0, 1) := by decide +kernel
theorem dX8_weigh_11 : decode cX8_weigh 11 = .ok (.istore_n 2, 1) := by decide +kernel
theorem dX8_weigh_12 : decode cX8_weigh 12 = .ok (.iload_n 2, 1) := by decide +kernel
theorem dX8_weigh_13 : decode cX8_weigh 13 = .ok (.aload_n 0, 1) := by decide +kernel
theorem dX8_weigh_14 : decode cX8_weigh 14 = .ok (.getfield 54, 3) := by decide +kernel
theorem dX8_weigh_17 : decode cX8_weigh 17 = .ok (.if_icmp .ge 76, 3) := by decide +kernel
theorem dX8_weigh_20 : decode cX8_weigh 20 = .ok (.aload_n 0, 1) := by decide +kernel
theorem dX8_weigh_21 : decode cX8_weigh 21 = .ok (.getfield 19, 3) := by decide +kernel
theorem dX8_weigh_24 : decode cX8_weigh 24 = .ok (.iload_n 2, 1) := by decide +kernel
theorem dX8_weigh_25 : decode cX8_weigh 25 = .ok (.aaload, 1) := by decide +kernel
theorem dX8_weigh_26 : decode cX8_weigh 26 = .ok (.astore_n 3, 1) := by decide +kernel
theorem dX8_weigh_27 : decode cX8_weigh 27 = .ok (.aload_n 1, 1) := by decide +kernel
theorem dX8_weigh_28 : decode cX8_weigh 28 = .ok (.dup, 1) := by decide +kernel
theorem dX8_weigh_29 : decode cX8_weigh 29 = .ok (.getfield 137, 3) := by decide +kernel
theorem dX8_weigh_32 : decode cX8_weigh 32 = .ok (.aload_n 1, 1) := by decide +kernel
theorem dX8_weigh_33 : decode cX8_weigh 33 = .ok (.aload_n 3, 1) := by decide +kernel
theorem dX8_weigh_34 : decode cX8_weigh 34 = .ok (.invokevirtual 100, 3) := by decide +kernel
theorem dX8_weigh_37 : decode cX8_weigh 37 = .ok (.ifCond .eq 18, 3) := by decide +kernel
theorem dX8_weigh_40 : decode cX8_weigh 40 = .ok (.aload_n 0, 1) := by decide +kernel
theorem dX8_weigh_41 : decode cX8_weigh 41 = .ok (.aload_n 1, 1) := by decide +kernel
theorem dX8_weigh_42 : decode cX8_weigh 42 = .ok (.aload_n 3, 1) := by decide +kernel
theorem dX8_weigh_43 : decode cX8_weigh 43 = .ok (.invokevirtual 143, 3) := by decide +kernel
theorem dX8_weigh_46 : decode cX8_weigh 46 = .ok (.ifCond .ne 9, 3) := by decide +kernel
theorem dX8_weigh_49 : decode cX8_weigh 49 = .ok (.iconst 1, 1) := by decide +kernel
theorem dX8_weigh_50 : decode cX8_weigh 50 = .ok (.iload_n 2, 1) := by decide +kernel
theorem dX8_weigh_51 : decode cX8_weigh 51 = .ok (.ishl, 1) := by decide +kernel
theorem dX8_weigh_52 : decode cX8_weigh 52 = .ok (.goto 4, 3) := by decide +kernel
theorem dX8_weigh_55 : decode cX8_weigh 55 = .ok (.iconst 0, 1) := by decide +kernel
theorem dX8_weigh_56 : decode cX8_weigh 56 = .ok (.ior, 1) := by decide +kernel
theorem dX8_weigh_57 : decode cX8_weigh 57 = .ok (.putfield 137, 3) := by decide +kernel
theorem dX8_weigh_60 : decode cX8_weigh 60 = .ok (.aload_n 1, 1) := by decide +kernel
theorem dX8_weigh_61 : decode cX8_weigh 61 = .ok (.dup, 1) := by decide +kernel
theorem dX8_weigh_62 : decode cX8_weigh 62 = .ok (.getfield 140, 3) := by decide +kernel
theorem dX8_weigh_65 : decode cX8_weigh 65 = .ok (.aload_n 3, 1) := by decide +kernel
theorem dX8_weigh_66 : decode cX8_weigh 66 = .ok (.aload_n 1, 1) := by decide +kernel
theorem dX8_weigh_67 : decode cX8_weigh 67 = .ok (.getfield 117, 3) := by decide +kernel
theorem dX8_weigh_70 : decode cX8_weigh 70 = .ok (.invokevirtual 120, 3) := by decide +kernel
theorem dX8_weigh_73 : decode cX8_weigh 73 = .ok (.ifCond .eq 9, 3) := by decide +kernel
theorem dX8_weigh_76 : decode cX8_weigh 76 = .ok (.iconst 1, 1) := by decide +kernel
theorem dX8_weigh_77 : decode cX8_weigh 77 = .ok (.iload_n 2, 1) := by decide +kernel
theorem dX8_weigh_78 : decode cX8_weigh 78 = .ok (.ishl, 1) := by decide +kernel
theorem dX8_weigh_79 : decode cX8_weigh 79 = .ok (.goto 4, 3) := by decide +kernel
theorem dX8_weigh_82 : decode cX8_weigh 82 = .ok (.iconst 0, 1) := by decide +kernel
theorem dX8_weigh_83 : decode cX8_weigh 83 = .ok (.ior, 1) := by decide +kernel
theorem dX8_weigh_84 : decode cX8_weigh 84 = .ok (.putfield 140, 3) := by decide +kernel
theorem dX8_weigh_87 : decode cX8_weigh 87 = .ok (.iinc 2 1, 3) := by decide +kernel
theorem dX8_weigh_90 : decode cX8_weigh 90 = .ok (.goto (-78), 3) := by decide +kernel
theorem dX8_weigh_93 : decode cX8_weigh 93 = .ok (.return_, 1) := by decide +kernel
theorem dX8_weighAll_0 : decode cX8_weighAll 0 = .ok (.iconst 0, 1) := by decide +kernel
theorem dX8_weighAll_1 : decode cX8_weighAll 1 = .ok (.istore_n 1, 1) := by decide +kernel
theorem dX8_weighAll_2 : decode cX8_weighAll 2 = .ok (.iload_n 1, 1) := by decide +kernel
theorem dX8_weighAll_3 : decode cX8_weighAll 3 = .ok (.aload_n 0, 1) := by decide +kernel
theorem dX8_weighAll_4 : decode cX8_weighAll 4 = .ok (.getfield 64, 3) := by decide +kernel
theorem dX8_weighAll_7 : decode cX8_weighAll 7 = .ok (.if_icmp .ge 19, 3) := by decide +kernel
theorem dX8_weighAll_10 : decode cX8_weighAll 10 = .ok (.aload_n 0, 1) := by decide +kernel
theorem dX8_weighAll_11 : decode cX8_weighAll 11 = .ok (.aload_n 0, 1) := by decide +kernel
theorem dX8_weighAll_12 : decode cX8_weighAll 12 = .ok (.getfield 25, 3) := by decide +kernel
theorem dX8_weighAll_15 : decode cX8_weighAll 15 = .ok (.iload_n 1, 1) := by decide +kernel
theorem dX8_weighAll_16 : decode cX8_weighAll 16 = .ok (.aaload, 1) := by decide +kernel
theorem dX8_weighAll_17 : decode cX8_weighAll 17 = .ok (.invokevirtual 147, 3) := by decide +kernel
theorem dX8_weighAll_20 : decode cX8_weighAll 20 = .ok (.iinc 1 1, 3) := by decide +kernel
theorem dX8_weighAll_23 : decode cX8_weighAll 23 = .ok (.goto (-21), 3) := by decide +kernel
theorem dX8_weighAll_26 : decode cX8_weighAll 26 = .ok (.return_, 1) := by decide +kernel
theorem dX8_weighAlone_0 : decode cX8_weighAlone 0 = .ok (.iconst 0, 1) := by decide +kernel
theorem dX8_weighAlone_1 : decode cX8_weighAlone 1 = .ok (.istore_n 2, 1) := by decide +kernel
theorem dX8_weighAlone_2 : decode cX8_weighAlone 2 = .ok (.iload_n 2, 1) := by decide +kernel
theorem dX8_weighAlone_3 : decode cX8_weighAlone 3 = .ok (.aload_n 0, 1) := by decide +kernel
theorem dX8_weighAlone_4 : decode cX8_weighAlone 4 = .ok (.getfield 64, 3) := by decide +kernel
theorem dX8_weighAlone_7 : decode cX8_weighAlone 7 = .ok (.if_icmp .ge 67, 3) := by decide +kernel
theorem dX8_weighAlone_10 : decode cX8_weighAlone 10 = .ok (.aload_n 0, 1) := by decide +kernel
theorem dX8_weighAlone_11 : decode cX8_weighAlone 11 = .ok (.getfield 25, 3) := by decide +kernel
theorem dX8_weighAlone_14 : decode cX8_weighAlone 14 = .ok (.iload_n 2, 1) := by decide +kernel
theorem dX8_weighAlone_15 : decode cX8_weighAlone 15 = .ok (.aaload, 1) := by decide +kernel
theorem dX8_weighAlone_16 : decode cX8_weighAlone 16 = .ok (.astore_n 3, 1) := by decide +kernel
theorem dX8_weighAlone_17 : decode cX8_weighAlone 17 = .ok (.aload_n 3, 1) := by decide +kernel
theorem dX8_weighAlone_18 : decode cX8_weighAlone 18 = .ok (.aload_n 3, 1) := by decide +kernel
theorem dX8_weighAlone_19 : decode cX8_weighAlone 19 = .ok (.aload_n 0, 1) := by decide +kernel
theorem dX8_weighAlone_20 : decode cX8_weighAlone 20 = .ok (.getfield 19, 3) := by decide +kernel
theorem dX8_weighAlone_23 : decode cX8_weighAlone 23 = .ok (.iload_n 1, 1) := by decide +kernel
theorem dX8_weighAlone_24 : decode cX8_weighAlone 24 = .ok (.aaload, 1) := by decide +kernel
theorem dX8_weighAlone_25 : decode cX8_weighAlone 25 = .ok (.invokevirtual 100, 3) := by decide +kernel
theorem dX8_weighAlone_28 : decode cX8_weighAlone 28 = .ok (.ifCond .eq 9, 3) := by decide +kernel
theorem dX8_weighAlone_31 : decode cX8_weighAlone 31 = .ok (.iconst 1, 1) := by decide +kernel
theorem dX8_weighAlone_32 : decode cX8_weighAlone 32 = .ok (.iload_n 1, 1) := by decide +kernel
theorem dX8_weighAlone_33 : decode cX8_weighAlone 33 = .ok (.ishl, 1) := by decide +kernel
theorem dX8_weighAlone_34 : decode cX8_weighAlone 34 = .ok (.goto 4, 3) := by decide +kernel
theorem dX8_weighAlone_37 : decode cX8_weighAlone 37 = .ok (.iconst 0, 1) := by decide +kernel
theorem dX8_weighAlone_38 : decode cX8_weighAlone 38 = .ok (.putfield 137, 3) := by decide +kernel
theorem dX8_weighAlone_41 : decode cX8_weighAlone 41 = .ok (.aload_n 3, 1) := by decide +kernel
theorem dX8_weighAlone_42 : decode cX8_weighAlone 42 = .ok (.aload_n 0, 1) := by decide +kernel
theorem dX8_weighAlone_43 : decode cX8_weighAlone 43 = .ok (.getfield 19, 3) := by decide +kernel
theorem dX8_weighAlone_46 : decode cX8_weighAlone 46 = .ok (.iload_n 1, 1) := by decide +kernel
theorem dX8_weighAlone_47 : decode cX8_weighAlone 47 = .ok (.aaload, 1) := by decide +kernel
theorem dX8_weighAlone_48 : decode cX8_weighAlone 48 = .ok (.aload_n 3, 1) := by decide +kernel
theorem dX8_weighAlone_49 : decode cX8_weighAlone 49 = .ok (.getfield 117, 3) := by decide +kernel
theorem dX8_weighAlone_52 : decode cX8_weighAlone 52 = .ok (.invokevirtual 120, 3) := by decide +kernel
theorem dX8_weighAlone_55 : decode cX8_weighAlone 55 = .ok (.ifCond .eq 9, 3) := by decide +kernel
theorem dX8_weighAlone_58 : decode cX8_weighAlone 58 = .ok (.iconst 1, 1) := by decide +kernel
theorem dX8_weighAlone_59 : decode cX8_weighAlone 59 = .ok (.iload_n 1, 1) := by decide +kernel
theorem dX8_weighAlone_60 : decode cX8_weighAlone 60 = .ok (.ishl, 1) := by decide +kernel
theorem dX8_weighAlone_61 : decode cX8_weighAlone 61 = .ok (.goto 4, 3) := by decide +kernel
theorem dX8_weighAlone_64 : decode cX8_weighAlone 64 = .ok (.iconst 0, 1) := by decide +kernel
theorem dX8_weighAlone_65 : decode cX8_weighAlone 65 = .ok (.putfield 140, 3) := by decide +kernel
theorem dX8_weighAlone_68 : decode cX8_weighAlone 68 = .ok (.iinc 2 1, 3) := by decide +kernel
theorem dX8_weighAlone_71 : decode cX8_weighAlone 71 = .ok (.goto (-69), 3) := by decide +kernel
theorem dX8_weighAlone_74 : decode cX8_weighAlone 74 = .ok (.return_, 1) := by decide +kernel
theorem dX8_triedBy_0 : decode cX8_triedBy 0 = .ok (.iconst 0, 1) := by decide +kernel
theorem dX8_triedBy_1 : decode cX8_triedBy 1 = .ok (.istore_n 2, 1) := by decide +kernel
theorem dX8_triedBy_2 : decode cX8_triedBy 2 = .ok (.iconst 0, 1) := by decide +kernel
theorem dX8_triedBy_3 : decode cX8_triedBy 3 = .ok (.istore_n 3, 1) := by decide +kernel
theorem dX8_triedBy_4 : decode cX8_triedBy 4 = .ok (.iload_n 3, 1) := by decide +kernel
theorem dX8_triedBy_5 : decode cX8_triedBy 5 = .ok (.aload_n 0, 1) := by decide +kernel
theorem dX8_triedBy_6 : decode cX8_triedBy 6 = .ok (.getfield 54, 3) := by decide +kernel
theorem dX8_triedBy_9 : decode cX8_triedBy 9 = .ok (.if_icmp .ge 47, 3) := by decide +kernel
theorem dX8_triedBy_12 : decode cX8_triedBy 12 = .ok (.iload_n 2, 1) := by decide +kernel
theorem dX8_triedBy_13 : decode cX8_triedBy 13 = .ok (.aload_n 0, 1) := by decide +kernel
theorem dX8_triedBy_14 : decode cX8_triedBy 14 = .ok (.getfield 19, 3) := by decide +kernel
theorem dX8_triedBy_17 : decode cX8_triedBy 17 = .ok (.iload_n 3, 1) := by decide +kernel
theorem dX8_triedBy_18 : decode cX8_triedBy 18 = .ok (.aaload, 1) := by decide +kernel
theorem dX8_triedBy_19 : decode cX8_triedBy 19 = .ok (.aload_n 1, 1) := by decide +kernel
theorem dX8_triedBy_20 : decode cX8_triedBy 20 = .ok (.getfield 150, 3) := by decide +kernel
theorem dX8_triedBy_23 : decode cX8_triedBy 23 = .ok (.invokevirtual 153, 3) := by decide +kernel
theorem dX8_triedBy_26 : decode cX8_triedBy 26 = .ok (.ifCond .eq 21, 3) := by decide +kernel
theorem dX8_triedBy_29 : decode cX8_triedBy 29 = .ok (.aload_n 0, 1) := by decide +kernel
theorem dX8_triedBy_30 : decode cX8_triedBy 30 = .ok (.getfield 19, 3) := by decide +kernel
theorem dX8_triedBy_33 : decode cX8_triedBy 33 = .ok (.iload_n 3, 1) := by decide +kernel
theorem dX8_triedBy_34 : decode cX8_triedBy 34 = .ok (.aaload, 1) := by decide +kernel
theorem dX8_triedBy_35 : decode cX8_triedBy 35 = .ok (.getfield 110, 3) := by decide +kernel
theorem dX8_triedBy_38 : decode cX8_triedBy 38 = .ok (.ifCond .ne 9, 3) := by decide +kernel
theorem dX8_triedBy_41 : decode cX8_triedBy 41 = .ok (.iconst 1, 1) := by decide +kernel
theorem dX8_triedBy_42 : decode cX8_triedBy 42 = .ok (.iload_n 3, 1) := by decide +kernel
theorem dX8_triedBy_43 : decode cX8_triedBy 43 = .ok (.ishl, 1) := by decide +kernel
theorem dX8_triedBy_44 : decode cX8_triedBy 44 = .ok (.goto 4, 3) := by decide +kernel
theorem dX8_triedBy_47 : decode cX8_triedBy 47 = .ok (.iconst 0, 1) := by decide +kernel
theorem dX8_triedBy_48 : decode cX8_triedBy 48 = .ok (.ior, 1) := by decide +kernel
theorem dX8_triedBy_49 : decode cX8_triedBy 49 = .ok (.istore_n 2, 1) := by decide +kernel
theorem dX8_triedBy_50 : decode cX8_triedBy 50 = .ok (.iinc 3 1, 3) := by decide +kernel
theorem dX8_triedBy_53 : decode cX8_triedBy 53 = .ok (.goto (-49), 3) := by decide +kernel
theorem dX8_triedBy_56 : decode cX8_triedBy 56 = .ok (.iload_n 2, 1) := by decide +kernel
theorem dX8_triedBy_57 : decode cX8_triedBy 57 = .ok (.aload_n 1, 1) := by decide +kernel
theorem dX8_triedBy_58 : decode cX8_triedBy 58 = .ok (.getfield 156, 3) := by decide +kernel
theorem dX8_triedBy_61 : decode cX8_triedBy 61 = .ok (.iand, 1) := by decide +kernel
theorem dX8_triedBy_62 : decode cX8_triedBy 62 = .ok (.ireturn, 1) := by decide +kernel
theorem dX8_weighDemands_0 : decode cX8_weighDemands 0 = .ok (.iconst 0, 1) := by decide +kernel
theorem dX8_weighDemands_1 : decode cX8_weighDemands 1 = .ok (.istore_n 1, 1) := by decide +kernel
theorem dX8_weighDemands_2 : decode cX8_weighDemands 2 = .ok (.iload_n 1, 1) := by decide +kernel
theorem dX8_weighDemands_3 : decode cX8_weighDemands 3 = .ok (.aload_n 0, 1) := by decide +kernel
theorem dX8_weighDemands_4 : decode cX8_weighDemands 4 = .ok (.getfield 70, 3) := by decide +kernel
theorem dX8_weighDemands_7 : decode cX8_weighDemands 7 = .ok (.if_icmp .ge 127, 3) := by decide +kernel
theorem dX8_weighDemands_10 : decode cX8_weighDemands 10 = .ok (.aload_n 0, 1) := by decide +kernel
theorem dX8_weighDemands_11 : decode cX8_weighDemands 11 = .ok (.getfield 31, 3) := by decide +kernel
theorem dX8_weighDemands_14 : decode cX8_weighDemands 14 = .ok (.iload_n 1, 1) := by decide +kernel
theorem dX8_weighDemands_15 : decode cX8_weighDemands 15 = .ok (.aaload, 1) := by decide +kernel
theorem dX8_weighDemands_16 : decode cX8_weighDemands 16 = .ok (.astore_n 2, 1) := by decide +kernel
theorem dX8_weighDemands_17 : decode cX8_weighDemands 17 = .ok (.aload_n 2, 1) := by decide +kernel
theorem dX8_weighDemands_18 : decode cX8_weighDemands 18 = .ok (.aload_n 2, 1) := by decide +kernel
theorem dX8_weighDemands_19 : decode cX8_weighDemands 19 = .ok (.getfield 76, 3) := by decide +kernel
theorem dX8_weighDemands_22 : decode cX8_weighDemands 22 = .ok (.aload_n 0, 1) := by decide +kernel
theorem dX8_weighDemands_23 : decode cX8_weighDemands 23 = .ok (.aload_n 2, 1) := by decide +kernel
theorem dX8_weighDemands_24 : decode cX8_weighDemands 24 = .ok (.getfield 73, 3) := by decide +kernel
theorem dX8_weighDemands_27 : decode cX8_weighDemands 27 = .ok (.invokevirtual 157, 3) := by decide +kernel
theorem dX8_weighDemands_30 : decode cX8_weighDemands 30 = .ok (.iand, 1) := by decide +kernel
theorem dX8_weighDemands_31 : decode cX8_weighDemands 31 = .ok (.putfield 161, 3) := by decide +kernel
theorem dX8_weighDemands_34 : decode cX8_weighDemands 34 = .ok (.aload_n 2, 1) := by decide +kernel
theorem dX8_weighDemands_35 : decode cX8_weighDemands 35 = .ok (.iconst 0, 1) := by decide +kernel
theorem dX8_weighDemands_36 : decode cX8_weighDemands 36 = .ok (.putfield 164, 3) := by decide +kernel
theorem dX8_weighDemands_39 : decode cX8_weighDemands 39 = .ok (.aload_n 2, 1) := by decide +kernel
theorem dX8_weighDemands_40 : decode cX8_weighDemands 40 = .ok (.iconst 0, 1) := by decide +kernel
theorem dX8_weighDemands_41 : decode cX8_weighDemands 41 = .ok (.putfield 167, 3) := by decide +kernel
theorem dX8_weighDemands_44 : decode cX8_weighDemands 44 = .ok (.iconst 0, 1) := by decide +kernel
theorem dX8_weighDemands_45 : decode cX8_weighDemands 45 = .ok (.istore_n 3, 1) := by decide +kernel
theorem dX8_weighDemands_46 : decode cX8_weighDemands 46 = .ok (.iload_n 3, 1) := by decide +kernel
theorem dX8_weighDemands_47 : decode cX8_weighDemands 47 = .ok (.aload_n 0, 1) := by decide +kernel
theorem dX8_weighDemands_48 : decode cX8_weighDemands 48 = .ok (.getfield 54, 3) := by decide +kernel
theorem dX8_weighDemands_51 : decode cX8_weighDemands 51 = .ok (.if_icmp .ge 77, 3) := by decide +kernel
theorem dX8_weighDemands_54 : decode cX8_weighDemands 54 = .ok (.aload_n 2, 1) := by decide +kernel
theorem dX8_weighDemands_55 : decode cX8_weighDemands 55 = .ok (.getfield 161, 3) := by decide +kernel
theorem dX8_weighDemands_58 : decode cX8_weighDemands 58 = .ok (.iload_n 3, 1) := by decide +kernel
theorem dX8_weighDemands_59 : decode cX8_weighDemands 59 = .ok (.ishr, 1) := by decide +kernel
theorem dX8_weighDemands_60 : decode cX8_weighDemands 60 = .ok (.iconst 1, 1) := by decide +kernel
theorem dX8_weighDemands_61 : decode cX8_weighDemands 61 = .ok (.iand, 1) := by decide +kernel
theorem dX8_weighDemands_62 : decode cX8_weighDemands 62 = .ok (.ifCond .eq 60, 3) := by decide +kernel
theorem dX8_weighDemands_65 : decode cX8_weighDemands 65 = .ok (.aload_n 2, 1) := by decide +kernel
theorem dX8_weighDemands_66 : decode cX8_weighDemands 66 = .ok (.aload_n 2, 1) := by decide +kernel
theorem dX8_weighDemands_67 : decode cX8_weighDemands 67 = .ok (.getfield 164, 3) := by decide +kernel
theorem dX8_weighDemands_70 : decode cX8_weighDemands 70 = .ok (.aload_n 0, 1) := by decide +kernel
theorem dX8_weighDemands_71 : decode cX8_weighDemands 71 = .ok (.getfield 19, 3) := by decide +kernel
theorem dX8_weighDemands_74 : decode cX8_weighDemands 74 = .ok (.iload_n 3, 1) := by decide +kernel
theorem dX8_weighDemands_75 : decode cX8_weighDemands 75 = .ok (.aaload, 1) := by decide +kernel
theorem dX8_weighDemands_76 : decode cX8_weighDemands 76 = .ok (.getfield 170, 3) := by decide +kernel
theorem dX8_weighDemands_79 : decode cX8_weighDemands 79 = .ok (.aload_n 2, 1) := by decide +kernel
theorem dX8_weighDemands_80 : decode cX8_weighDemands 80 = .ok (.getfield 73, 3) := by decide +kernel
theorem dX8_weighDemands_83 : decode cX8_weighDemands 83 = .ok (.iaload, 1) := by decide +kernel
theorem dX8_weighDemands_84 : decode cX8_weighDemands 84 = .ok (.invokestatic 174, 3) := by decide +kernel
theorem dX8_weighDemands_87 : decode cX8_weighDemands 87 = .ok (.putfield 164, 3) := by decide +kernel
theorem dX8_weighDemands_90 : decode cX8_weighDemands 90 = .ok (.aload_n 2, 1) := by decide +kernel
theorem dX8_weighDemands_91 : decode cX8_weighDemands 91 = .ok (.aload_n 2, 1) := by decide +kernel
theorem dX8_weighDemands_92 : decode cX8_weighDemands 92 = .ok (.getfield 167, 3) := by decide +kernel
theorem dX8_weighDemands_95 : decode cX8_weighDemands 95 = .ok (.ifCond .ne 19, 3) := by decide +kernel
theorem dX8_weighDemands_98 : decode cX8_weighDemands 98 = .ok (.aload_n 0, 1) := by decide +kernel
theorem dX8_weighDemands_99 : decode cX8_weighDemands 99 = .ok (.getfield 19, 3) := by decide +kernel
theorem dX8_weighDemands_102 : decode cX8_weighDemands 102 = .ok (.iload_n 3, 1) := by decide +kernel
theorem dX8_weighDemands_103 : decode cX8_weighDemands 103 = .ok (.aaload, 1) := by decide +kernel
theorem dX8_weighDemands_104 : decode cX8_weighDemands 104 = .ok (.getfield 126, 3) := by decide +kernel
theorem dX8_weighDemands_107 : decode cX8_weighDemands 107 = .ok (.aload_n 2, 1) := by decide +kernel
theorem dX8_weighDemands_108 : decode cX8_weighDemands 108 = .ok (.getfield 73, 3) := by decide +kernel
theorem dX8_weighDemands_111 : decode cX8_weighDemands 111 = .ok (.if_icmp .ne 7, 3) := by decide +kernel
theorem dX8_weighDemands_114 : decode cX8_weighDemands 114 = .ok (.iconst 1, 1) := by decide +kernel
theorem dX8_weighDemands_115 : decode cX8_weighDemands 115 = .ok (.goto 4, 3) := by decide +kernel
theorem dX8_weighDemands_118 : decode cX8_weighDemands 118 = .ok (.iconst 0, 1) := by decide +kernel
theorem dX8_weighDemands_119 : decode cX8_weighDemands 119 = .ok (.putfield 167, 3) := by decide +kernel
theorem dX8_weighDemands_122 : decode cX8_weighDemands 122 = .ok (.iinc 3 1, 3) := by decide +kernel
theorem dX8_weighDemands_125 : decode cX8_weighDemands 125 = .ok (.goto (-79), 3) := by decide +kernel
theorem dX8_weighDemands_128 : decode cX8_weighDemands 128 = .ok (.iinc 1 1, 3) := by decide +kernel
theorem dX8_weighDemands_131 : decode cX8_weighDemands 131 = .ok (.goto (-129), 3) := by decide +kernel
theorem dX8_weighDemands_134 : decode cX8_weighDemands 134 = .ok (.return_, 1) := by decide +kernel
theorem dX8_letTo_0 : decode cX8_letTo 0 = .ok (.iconst 0, 1) := by decide +kernel
theorem dX8_letTo_1 : decode cX8_letTo 1 = .ok (.istore_n 2, 1) := by decide +kernel
theorem dX8_letTo_2 : decode cX8_letTo 2 = .ok (.iconst 0, 1) := by decide +kernel
theorem dX8_letTo_3 : decode cX8_letTo 3 = .ok (.istore_n 3, 1) := by decide +kernel
theorem dX8_letTo_4 : decode cX8_letTo 4 = .ok (.iload_n 3, 1) := by decide +kernel
theorem dX8_letTo_5 : decode cX8_letTo 5 = .ok (.aload_n 0, 1) := by decide +kernel
theorem dX8_letTo_6 : decode cX8_letTo 6 = .ok (.getfield 64, 3) := by decide +kernel
theorem dX8_letTo_9 : decode cX8_letTo 9 = .ok (.if_icmp .ge 42, 3) := by decide +kernel
theorem dX8_letTo_12 : decode cX8_letTo 12 = .ok (.iload_n 2, 1) := by decide +kernel
theorem dX8_letTo_13 : decode cX8_letTo 13 = .ok (.aload_n 0, 1) := by decide +kernel
theorem dX8_letTo_14 : decode cX8_letTo 14 = .ok (.getfield 25, 3) := by decide +kernel
theorem dX8_letTo_17 : decode cX8_letTo 17 = .ok (.iload_n 3, 1) := by decide +kernel
theorem dX8_letTo_18 : decode cX8_letTo 18 = .ok (.aaload, 1) := by decide +kernel
theorem dX8_letTo_19 : decode cX8_letTo 19 = .ok (.getfield 117, 3) := by decide +kernel
theorem dX8_letTo_22 : decode cX8_letTo 22 = .ok (.iload_n 1, 1) := by decide +kernel
theorem dX8_letTo_23 : decode cX8_letTo 23 = .ok (.if_icmp .ne 19, 3) := by decide +kernel
theorem dX8_letTo_26 : decode cX8_letTo 26 = .ok (.aload_n 0, 1) := by decide +kernel
theorem dX8_letTo_27 : decode cX8_letTo 27 = .ok (.getfield 38, 3) := by decide +kernel
theorem dX8_letTo_30 : decode cX8_letTo 30 = .ok (.aload_n 0, 1) := by decide +kernel
theorem dX8_letTo_31 : decode cX8_letTo 31 = .ok (.getfield 25, 3) := by decide +kernel
theorem dX8_letTo_34 : decode cX8_letTo 34 = .ok (.iload_n 3, 1) := by decide +kernel
theorem dX8_letTo_35 : decode cX8_letTo 35 = .ok (.aaload, 1) := by decide +kernel
theorem dX8_letTo_36 : decode cX8_letTo 36 = .ok (.invokevirtual 180, 3) := by decide +kernel
theorem dX8_letTo_39 : decode cX8_letTo 39 = .ok (.goto 4, 3) := by decide +kernel
theorem dX8_letTo_42 : decode cX8_letTo 42 = .ok (.iconst 0, 1) := by decide +kernel
theorem dX8_letTo_43 : decode cX8_letTo 43 = .ok (.ior, 1) := by decide +kernel
theorem dX8_letTo_44 : decode cX8_letTo 44 = .ok (.istore_n 2, 1) := by decide +kernel
theorem dX8_letTo_45 : decode cX8_letTo 45 = .ok (.iinc 3 1, 3) := by decide +kernel
theorem dX8_letTo_48 : decode cX8_letTo 48 = .ok (.goto (-44), 3) := by decide +kernel
theorem dX8_letTo_51 : decode cX8_letTo 51 = .ok (.iload_n 2, 1) := by decide +kernel
theorem dX8_letTo_52 : decode cX8_letTo 52 = .ok (.ireturn, 1) := by decide +kernel
theorem dX8_placeOf_0 : decode cX8_placeOf 0 = .ok (.iconst 0, 1) := by decide +kernel
theorem dX8_placeOf_1 : decode cX8_placeOf 1 = .ok (.istore_n 2, 1) := by decide +kernel
theorem dX8_placeOf_2 : decode cX8_placeOf 2 = .ok (.iconst 0, 1) := by decide +kernel
theorem dX8_placeOf_3 : decode cX8_placeOf 3 = .ok (.istore_n 3, 1) := by decide +kernel
theorem dX8_placeOf_4 : decode cX8_placeOf 4 = .ok (.iload_n 3, 1) := by decide +kernel
theorem dX8_placeOf_5 : decode cX8_placeOf 5 = .ok (.aload_n 0, 1) := by decide +kernel
theorem dX8_placeOf_6 : decode cX8_placeOf 6 = .ok (.getfield 70, 3) := by decide +kernel
theorem dX8_placeOf_9 : decode cX8_placeOf 9 = .ok (.if_icmp .ge 61, 3) := by decide +kernel
theorem dX8_placeOf_12 : decode cX8_placeOf 12 = .ok (.aload_n 0, 1) := by decide +kernel
theorem dX8_placeOf_13 : decode cX8_placeOf 13 = .ok (.getfield 31, 3) := by decide +kernel
theorem dX8_placeOf_16 : decode cX8_placeOf 16 = .ok (.iload_n 3, 1) := by decide +kernel
theorem dX8_placeOf_17 : decode cX8_placeOf 17 = .ok (.aaload, 1) := by decide +kernel
theorem dX8_placeOf_18 : decode cX8_placeOf 18 = .ok (.aload_n 0, 1) := by decide +kernel
theorem dX8_placeOf_19 : decode cX8_placeOf 19 = .ok (.getfield 31, 3) := by decide +kernel
theorem dX8_placeOf_22 : decode cX8_placeOf 22 = .ok (.iload_n 1, 1) := by decide +kernel
theorem dX8_placeOf_23 : decode cX8_placeOf 23 = .ok (.aaload, 1) := by decide +kernel
theorem dX8_placeOf_24 : decode cX8_placeOf 24 = .ok (.invokevirtual 184, 3) := by decide +kernel
theorem dX8_placeOf_27 : decode cX8_placeOf 27 = .ok (.istore 4, 2) := by decide +kernel
theorem dX8_placeOf_29 : decode cX8_placeOf 29 = .ok (.iload_n 2, 1) := by decide +kernel
theorem dX8_placeOf_30 : decode cX8_placeOf 30 = .ok (.aload_n 0, 1) := by decide +kernel
theorem dX8_placeOf_31 : decode cX8_placeOf 31 = .ok (.getfield 31, 3) := by decide +kernel
theorem dX8_placeOf_34 : decode cX8_placeOf 34 = .ok (.iload_n 3, 1) := by decide +kernel
theorem dX8_placeOf_35 : decode cX8_placeOf 35 = .ok (.aaload, 1) := by decide +kernel
theorem dX8_placeOf_36 : decode cX8_placeOf 36 = .ok (.getfield 161, 3) := by decide +kernel
theorem dX8_placeOf_39 : decode cX8_placeOf 39 = .ok (.ifCond .eq 22, 3) := by decide +kernel
theorem dX8_placeOf_42 : decode cX8_placeOf 42 = .ok (.iload 4, 2) := by decide +kernel
theorem dX8_placeOf_44 : decode cX8_placeOf 44 = .ok (.ifCond .lt 13, 3) := by decide +kernel
theorem dX8_placeOf_47 : decode cX8_placeOf 47 = .ok (.iload 4, 2) := by decide +kernel
theorem dX8_placeOf_49 : decode cX8_placeOf 49 = .ok (.ifCond .ne 12, 3) := by decide +kernel
theorem dX8_placeOf_52 : decode cX8_placeOf 52 = .ok (.iload_n 3, 1) := by decide +kernel
theorem dX8_placeOf_53 : decode cX8_placeOf 53 = .ok (.iload_n 1, 1) := by decide +kernel
theorem dX8_placeOf_54 : decode cX8_placeOf 54 = .ok (.if_icmp .ge 7, 3) := by decide +kernel
theorem dX8_placeOf_57 : decode cX8_placeOf 57 = .ok (.iconst 1, 1) := by decide +kernel
theorem dX8_placeOf_58 : decode cX8_placeOf 58 = .ok (.goto 4, 3) := by decide +kernel
theorem dX8_placeOf_61 : decode cX8_placeOf 61 = .ok (.iconst 0, 1) := by decide +kernel
theorem dX8_placeOf_62 : decode cX8_placeOf 62 = .ok (.iadd, 1) := by decide +kernel
theorem dX8_placeOf_63 : decode cX8_placeOf 63 = .ok (.istore_n 2, 1) := by decide +kernel
theorem dX8_placeOf_64 : decode cX8_placeOf 64 = .ok (.iinc 3 1, 3) := by decide +kernel
theorem dX8_placeOf_67 : decode cX8_placeOf 67 = .ok (.goto (-63), 3) := by decide +kernel
theorem dX8_placeOf_70 : decode cX8_placeOf 70 = .ok (.iload_n 2, 1) := by decide +kernel
theorem dX8_placeOf_71 : decode cX8_placeOf 71 = .ok (.ireturn, 1) := by decide +kernel
theorem dX9_init_0 : decode cX9_init 0 = .ok (.aload_n 0, 1) := by decide +kernel
theorem dX9_init_1 : decode cX9_init 1 = .ok (.invokespecial 1, 3) := by decide +kernel
theorem dX9_init_4 : decode cX9_init 4 = .ok (.new 7, 3) := by decide +kernel
theorem dX9_init_7 : decode cX9_init 7 = .ok (.dup, 1) := by decide +kernel
theorem dX9_init_8 : decode cX9_init 8 = .ok (.invokespecial 9, 3) := by decide +kernel
theorem dX9_init_11 : decode cX9_init 11 = .ok (.astore_n 1, 1) := by decide +kernel
theorem dX9_init_12 : decode cX9_init 12 = .ok (.aload_n 0, 1) := by decide +kernel
theorem dX9_init_13 : decode cX9_init 13 = .ok (.aload_n 1, 1) := by decide +kernel
theorem dX9_init_14 : decode cX9_init 14 = .ok (.putfield 10, 3) := by decide +kernel
theorem dX9_init_17 : decode cX9_init 17 = .ok (.aload_n 0, 1) := by decide +kernel
theorem dX9_init_18 : decode cX9_init 18 = .ok (.new 7, 3) := by decide +kernel
theorem dX9_init_21 : decode cX9_init 21 = .ok (.dup, 1) := by decide +kernel
theorem dX9_init_22 : decode cX9_init 22 = .ok (.invokespecial 9, 3) := by decide +kernel
theorem dX9_init_25 : decode cX9_init 25 = .ok (.putfield 16, 3) := by decide +kernel
theorem dX9_init_28 : decode cX9_init 28 = .ok (.aload_n 0, 1) := by decide +kernel
theorem dX9_init_29 : decode cX9_init 29 = .ok (.new 19, 3) := by decide +kernel
theorem dX9_init_32 : decode cX9_init 32 = .ok (.dup, 1) := by decide +kernel
theorem dX9_init_33 : decode cX9_init 33 = .ok (.aload_n 1, 1) := by decide +kernel
theorem dX9_init_34 : decode cX9_init 34 = .ok (.invokespecial 21, 3) := by decide +kernel
theorem dX9_init_37 : decode cX9_init 37 = .ok (.putfield 24, 3) := by decide +kernel
theorem dX9_init_40 : decode cX9_init 40 = .ok (.aload_n 0, 1) := by decide +kernel
theorem dX9_init_41 : decode cX9_init 41 = .ok (.new 28, 3) := by decide +kernel
theorem dX9_init_44 : decode cX9_init 44 = .ok (.dup, 1) := by decide +kernel
theorem dX9_init_45 : decode cX9_init 45 = .ok (.invokespecial 30, 3) := by decide +kernel
theorem dX9_init_48 : decode cX9_init 48 = .ok (.putfield 31, 3) := by decide +kernel
theorem dX9_init_51 : decode cX9_init 51 = .ok (.aload_n 0, 1) := by decide +kernel
theorem dX9_init_52 : decode cX9_init 52 = .ok (.iconst 4, 1) := by decide +kernel
theorem dX9_init_53 : decode cX9_init 53 = .ok (.anewarray 35, 3) := by decide +kernel
theorem dX9_init_56 : decode cX9_init 56 = .ok (.putfield 37, 3) := by decide +kernel
theorem dX9_init_59 : decode cX9_init 59 = .ok (.iconst 0, 1) := by decide +kernel
theorem dX9_init_60 : decode cX9_init 60 = .ok (.istore_n 2, 1) := by decide +kernel
theorem dX9_init_61 : decode cX9_init 61 = .ok (.iload_n 2, 1) := by decide +kernel
theorem dX9_init_62 : decode cX9_init 62 = .ok (.iconst 4, 1) := by decide +kernel
theorem dX9_init_63 : decode cX9_init 63 = .ok (.if_icmp .ge 22, 3) := by decide +kernel
theorem dX9_init_66 : decode cX9_init 66 = .ok (.aload_n 0, 1) := by decide +kernel
theorem dX9_init_67 : decode cX9_init 67 = .ok (.getfield 37, 3) := by decide +kernel
theorem dX9_init_70 : decode cX9_init 70 = .ok (.iload_n 2, 1) := by decide +kernel
theorem dX9_init_71 : decode cX9_init 71 = .ok (.new 35, 3) := by decide +kernel
theorem dX9_init_74 : decode cX9_init 74 = .ok (.dup, 1) := by decide +kernel
theorem dX9_init_75 : decode cX9_init 75 = .ok (.invokespecial 41, 3) := by decide +kernel
theorem dX9_init_78 : decode cX9_init 78 = .ok (.aastore, 1) := by decide +kernel
theorem dX9_init_79 : decode cX9_init 79 = .ok (.iinc 2 1, 3) := by decide +kernel
theorem dX9_init_82 : decode cX9_init 82 = .ok (.goto (-21), 3) := by decide +kernel
theorem dX9_init_85 : decode cX9_init 85 = .ok (.aload_n 0, 1) := by decide +kernel
theorem dX9_init_86 : decode cX9_init 86 = .ok (.iconst 0, 1) := by decide +kernel
theorem dX9_init_87 : decode cX9_init 87 = .ok (.putfield 42, 3) := by decide +kernel
theorem dX9_init_90 : decode cX9_init 90 = .ok (.return_, 1) := by decide +kernel
theorem dX9_crime_0 : decode cX9_crime 0 = .ok (.iload_n 1, 1) := by decide +kernel
theorem dX9_crime_1 : decode cX9_crime 1 = .ok (.invokestatic 46, 3) := by decide +kernel
theorem dX9_crime_4 : decode cX9_crime 4 = .ok (.ifCond .eq 55, 3) := by decide +kernel
theorem dX9_crime_7 : decode cX9_crime 7 = .ok (.iload_n 2, 1) := by decide +kernel
theorem dX9_crime_8 : decode cX9_crime 8 = .ok (.iconst 1, 1) := by decide +kernel
theorem dX9_crime_9 : decode cX9_crime 9 = .ok (.if_icmp .lt 50, 3) := by decide +kernel
theorem dX9_crime_12 : decode cX9_crime 12 = .ok (.iload_n 2, 1) := by decide +kernel
theorem dX9_crime_13 : decode cX9_crime 13 = .ok (.bipush 63, 2) := by decide +kernel
theorem dX9_crime_15 : decode cX9_crime 15 = .ok (.if_icmp .gt 44, 3) := by decide +kernel
theorem dX9_crime_18 : decode cX9_crime 18 = .ok (.iload_n 3, 1) := by decide +kernel
theorem dX9_crime_19 : decode cX9_crime 19 = .ok (.ifCond .lt 40, 3) := by decide +kernel
theorem dX9_crime_22 : decode cX9_crime 22 = .ok (.iload_n 3, 1) := by decide +kernel
theorem dX9_crime_23 : decode cX9_crime 23 = .ok (.bipush 63, 2) := by decide +kernel
theorem dX9_crime_25 : decode cX9_crime 25 = .ok (.if_icmp .gt 34, 3) := by decide +kernel
theorem dX9_crime_28 : decode cX9_crime 28 = .ok (.iload_n 2, 1) := by decide +kernel
theorem dX9_crime_29 : decode cX9_crime 29 = .ok (.iload_n 3, 1) := by decide +kernel
theorem dX9_crime_30 : decode cX9_crime 30 = .ok (.iand, 1) := by decide +kernel
theorem dX9_crime_31 : decode cX9_crime 31 = .ok (.ifCond .ne 28, 3) := by decide +kernel
theorem dX9_crime_34 : decode cX9_crime 34 = .ok (.iload 5, 2) := by decide +kernel
theorem dX9_crime_36 : decode cX9_crime 36 = .ok (.iconst 1, 1) := by decide +kernel
theorem dX9_crime_37 : decode cX9_crime 37 = .ok (.if_icmp .lt 22, 3) := by decide +kernel
theorem dX9_crime_40 : decode cX9_crime 40 = .ok (.iload 5, 2) := by decide +kernel
theorem dX9_crime_42 : decode cX9_crime 42 = .ok (.bipush 40, 2) := by decide +kernel
theorem dX9_crime_44 : decode cX9_crime 44 = .ok (.if_icmp .gt 15, 3) := by decide +kernel
theorem dX9_crime_47 : decode cX9_crime 47 = .ok (.iload 4, 2) := by decide +kernel
theorem dX9_crime_49 : decode cX9_crime 49 = .ok (.ifCond .lt 10, 3) := by decide +kernel
theorem dX9_crime_52 : decode cX9_crime 52 = .ok (.iload 4, 2) := by decide +kernel
theorem dX9_crime_54 : decode cX9_crime 54 = .ok (.iload 5, 2) := by decide +kernel
theorem dX9_crime_56 : decode cX9_crime 56 = .ok (.if_icmp .le 5, 3) := by decide +kernel
theorem dX9_crime_59 : decode cX9_crime 59 = .ok (.iconst (-1), 1) := by decide +kernel
theorem dX9_crime_60 : decode cX9_crime 60 = .ok (.ireturn, 1) := by decide +kernel
theorem dX9_crime_61 : decode cX9_crime 61 = .ok (.aload_n 0, 1) := by decide +kernel
theorem dX9_crime_62 : decode cX9_crime 62 = .ok (.getfield 10, 3) := by decide +kernel
theorem dX9_crime_65 : decode cX9_crime 65 = .ok (.getfield 50, 3) := by decide +kernel
theorem dX9_crime_68 : decode cX9_crime 68 = .ok (.bipush 24, 2) := by decide +kernel
theorem dX9_crime_70 : decode cX9_crime 70 = .ok (.if_icmp .lt 6, 3) := by decide +kernel
theorem dX9_crime_73 : decode cX9_crime 73 = .ok (.bipush (-3), 2) := by decide +kernel
theorem dX9_crime_75 : decode cX9_crime 75 = .ok (.ireturn, 1) := by decide +kernel
theorem dX9_crime_76 : decode cX9_crime 76 = .ok (.aload_n 0, 1) := by decide +kernel
theorem dX9_crime_77 : decode cX9_crime 77 = .ok (.getfield 10, 3) := by decide +kernel
theorem dX9_crime_80 : decode cX9_crime 80 = .ok (.getfield 54, 3) := by decide +kernel
theorem dX9_crime_83 : decode cX9_crime 83 = .ok (.aload_n 0, 1) := by decide +kernel
theorem dX9_crime_84 : decode cX9_crime 84 = .ok (.getfield 10, 3) := by decide +kernel
theorem dX9_crime_87 : decode cX9_crime 87 = .ok (.getfield 50, 3) := by decide +kernel
theorem dX9_crime_90 : decode cX9_crime 90 = .ok (.aaload, 1) := by decide +kernel
theorem dX9_crime_91 : decode cX9_crime 91 = .ok (.iload_n 1, 1) := by decide +kernel
theorem dX9_crime_92 : decode cX9_crime 92 = .ok (.iload_n 2, 1) := by decide +kernel
theorem dX9_crime_93 : decode cX9_crime 93 = .ok (.iload_n 3, 1) := by decide +kernel
theorem dX9_crime_94 : decode cX9_crime 94 = .ok (.iload 4, 2) := by decide +kernel
theorem dX9_crime_96 : decode cX9_crime 96 = .ok (.iload 5, 2) := by decide +kernel
theorem dX9_crime_98 : decode cX9_crime 98 = .ok (.iload 6, 2) := by decide +kernel
theorem dX9_crime_100 : decode cX9_crime 100 = .ok (.invokevirtual 58, 3) := by decide +kernel
theorem dX9_crime_103 : decode cX9_crime 103 = .ok (.aload_n 0, 1) := by decide +kernel
theorem dX9_crime_104 : decode cX9_crime 104 = .ok (.getfield 10, 3) := by decide +kernel
theorem dX9_crime_107 : decode cX9_crime 107 = .ok (.invokevirtual 64, 3) := by decide +kernel
theorem dX9_crime_110 : decode cX9_crime 110 = .ok (.ireturn, 1) := by decide +kernel
theorem dX9_deed_0 : decode cX9_deed 0 = .ok (.iload_n 1, 1) := by decide +kernel
theorem dX9_deed_1 : decode cX9_deed 1 = .ok (.iconst 1, 1) := by decide +kernel
theorem dX9_deed_2 : decode cX9_deed 2 = .ok (.if_icmp .lt 34, 3) := by decide +kernel
theorem dX9_deed_5 : decode cX9_deed 5 = .ok (.iload_n 1, 1) := by decide +kernel
theorem dX9_deed_6 : decode cX9_deed 6 = .ok (.bipush 63, 2) := by decide +kernel
theorem dX9_deed_8 : decode cX9_deed 8 = .ok (.if_icmp .gt 28, 3) := by decide +kernel
theorem dX9_deed_11 : decode cX9_deed 11 = .ok (.iload_n 2, 1) := by decide +kernel
theorem dX9_deed_12 : decode cX9_deed 12 = .ok (.ifCond .lt 24, 3) := by decide +kernel
theorem dX9_deed_15 : decode cX9_deed 15 = .ok (.iload_n 2, 1) := by decide +kernel
theorem dX9_deed_16 : decode cX9_deed 16 = .ok (.bipush 63, 2) := by decide +kernel
theorem dX9_deed_18 : decode cX9_deed 18 = .ok (.if_icmp .gt 18, 3) := by decide +kernel
theorem dX9_deed_21 : decode cX9_deed 21 = .ok (.iload_n 3, 1) := by decide +kernel
theorem dX9_deed_22 : decode cX9_deed 22 = .ok (.invokestatic 46, 3) := by decide +kernel
theorem dX9_deed_25 : decode cX9_deed 25 = .ok (.ifCond .eq 11, 3) := by decide +kernel
theorem dX9_deed_28 : decode cX9_deed 28 = .ok (.iload 4, 2) := by decide +kernel
theorem dX9_deed_30 : decode cX9_deed 30 = .ok (.invokestatic 68, 3) := by decide +kernel
theorem dX9_deed_33 : decode cX9_deed 33 = .ok (.ifCond .ne 5, 3) := by decide +kernel
theorem dX9_deed_36 : decode cX9_deed 36 = .ok (.iconst (-1), 1) := by decide +kernel
theorem dX9_deed_37 : decode cX9_deed 37 = .ok (.ireturn, 1) := by decide +kernel
theorem dX9_deed_38 : decode cX9_deed 38 = .ok (.aload_n 0, 1) := by decide +kernel
theorem dX9_deed_39 : decode cX9_deed 39 = .ok (.getfield 10, 3) := by decide +kernel
theorem dX9_deed_42 : decode cX9_deed 42 = .ok (.getfield 71, 3) := by decide +kernel
theorem dX9_deed_45 : decode cX9_deed 45 = .ok (.bipush 8, 2) := by decide +kernel
theorem dX9_deed_47 : decode cX9_deed 47 = .ok (.if_icmp .lt 6, 3) := by decide +kernel
theorem dX9_deed_50 : decode cX9_deed 50 = .ok (.bipush (-3), 2) := by decide +kernel
theorem dX9_deed_52 : decode cX9_deed 52 = .ok (.ireturn, 1) := by decide +kernel
theorem dX9_deed_53 : decode cX9_deed 53 = .ok (.aload_n 0, 1) := by decide +kernel
theorem dX9_deed_54 : decode cX9_deed 54 = .ok (.getfield 10, 3) := by decide +kernel
theorem dX9_deed_57 : decode cX9_deed 57 = .ok (.getfield 74, 3) := by decide +kernel
theorem dX9_deed_60 : decode cX9_deed 60 = .ok (.aload_n 0, 1) := by decide +kernel
theorem dX9_deed_61 : decode cX9_deed 61 = .ok (.getfield 10, 3) := by decide +kernel
theorem dX9_deed_64 : decode cX9_deed 64 = .ok (.getfield 71, 3) := by decide +kernel
theorem dX9_deed_67 : decode cX9_deed 67 = .ok (.aaload, 1) := by decide +kernel
theorem dX9_deed_68 : decode cX9_deed 68 = .ok (.iload_n 1, 1) := by decide +kernel
theorem dX9_deed_69 : decode cX9_deed 69 = .ok (.iload_n 2, 1) := by decide +kernel
theorem dX9_deed_70 : decode cX9_deed 70 = .ok (.iload_n 3, 1) := by decide +kernel
theorem dX9_deed_71 : decode cX9_deed 71 = .ok (.iload 4, 2) := by decide +kernel
theorem dX9_deed_73 : decode cX9_deed 73 = .ok (.invokevirtual 78, 3) := by decide +kernel
theorem dX9_deed_76 : decode cX9_deed 76 = .ok (.aload_n 0, 1) := by decide +kernel
theorem dX9_deed_77 : decode cX9_deed 77 = .ok (.getfield 10, 3) := by decide +kernel
theorem dX9_deed_80 : decode cX9_deed 80 = .ok (.invokevirtual 83, 3) := by decide +kernel
theorem dX9_deed_83 : decode cX9_deed 83 = .ok (.ireturn, 1) := by decide +kernel
theorem dX9_years_0 : decode cX9_years 0 = .ok (.iload_n 3, 1) := by decide +kernel
theorem dX9_years_1 : decode cX9_years 1 = .ok (.iconst 1, 1) := by decide +kernel
theorem dX9_years_2 : decode cX9_years 2 = .ok (.if_icmp .lt 9, 3) := by decide +kernel
theorem dX9_years_5 : decode cX9_years 5 = .ok (.iload_n 3, 1) := by decide +kernel
theorem dX9_years_6 : decode cX9_years 6 = .ok (.bipush 40, 2) := by decide +kernel
theorem dX9_years_8 : decode cX9_years 8 = .ok (.if_icmp .le 5, 3) := by decide +kernel
theorem dX9_years_11 : decode cX9_years 11 = .ok (.iconst (-1), 1) := by decide +kernel
theorem dX9_years_12 : decode cX9_years 12 = .ok (.ireturn, 1) := by decide +kernel
theorem dX9_years_13 : decode cX9_years 13 = .ok (.aload_n 0, 1) := by decide +kernel
theorem dX9_years_14 : decode cX9_years 14 = .ok (.iload_n 1, 1) := by decide +kernel
theorem dX9_years_15 : decode cX9_years 15 = .ok (.iload_n 2, 1) := by decide +kernel
theorem dX9_years_16 : decode cX9_years 16 = .ok (.iload 4, 2) := by decide +kernel
theorem dX9_years_18 : decode cX9_years 18 = .ok (.iload 5, 2) := by decide +kernel
theorem dX9_years_20 : decode cX9_years 20 = .ok (.iload 6, 2) := by decide +kernel
theorem dX9_years_22 : decode cX9_years 22 = .ok (.invokevirtual 86, 3) := by decide +kernel
theorem dX9_years_25 : decode cX9_years 25 = .ok (.istore 7, 2) := by decide +kernel
theorem dX9_years_27 : decode cX9_years 27 = .ok (.iload 7, 2) := by decide +kernel
theorem dX9_years_29 : decode cX9_years 29 = .ok (.ifCond .lt 19, 3) := by decide +kernel
theorem dX9_years_32 : decode cX9_years 32 = .ok (.aload_n 0, 1) := by decide +kernel
theorem dX9_years_33 : decode cX9_years 33 = .ok (.getfield 10, 3) := by decide +kernel
theorem dX9_years_36 : decode cX9_years 36 = .ok (.getfield 90, 3) := by decide +kernel
theorem dX9_years_39 : decode cX9_years 39 = .ok (.iload 7, 2) := by decide +kernel
theorem dX9_years_41 : decode cX9_years 41 = .ok (.aaload, 1) := by decide +kernel
theorem dX9_years_42 : decode cX9_years 42 = .ok (.iconst 0, 1) := by decide +kernel
theorem dX9_years_43 : decode cX9_years 43 = .ok (.iload_n 3, 1) := by decide +kernel
theorem dX9_years_44 : decode cX9_years 44 = .ok (.iconst 0, 1) := by decide +kernel
theorem dX9_years_45 : decode cX9_years 45 = .ok (.invokevirtual 94, 3) := by decide +kernel
theorem dX9_years_48 : decode cX9_years 48 = .ok (.iload 7, 2) := by decide +kernel
theorem dX9_years_50 : decode cX9_years 50 = .ok (.ireturn, 1) := by decide +kernel
theorem dX9_named_0 : decode cX9_named 0 = .ok (.iload_n 2, 1) := by decide +kernel
theorem dX9_named_1 : decode cX9_named 1 = .ok (.invokestatic 46, 3) := by decide +kernel
theorem dX9_named_4 : decode cX9_named 4 = .ok (.ifCond .eq 22, 3) := by decide +kernel
theorem dX9_named_7 : decode cX9_named 7 = .ok (.iload_n 3, 1) := by decide +kernel
theorem dX9_named_8 : decode cX9_named 8 = .ok (.ifCond .eq 18, 3) := by decide +kernel
theorem dX9_named_11 : decode cX9_named 11 = .ok (.iload_n 3, 1) := by decide +kernel
theorem dX9_named_12 : decode cX9_named 12 = .ok (.aload_n 0, 1) := by decide +kernel
theorem dX9_named_13 : decode cX9_named 13 = .ok (.getfield 10, 3) := by decide +kernel
theorem dX9_named_16 : decode cX9_named 16 = .ok (.iload_n 2, 1) := by decide +kernel
theorem dX9_named_17 : decode cX9_named 17 = .ok (.invokevirtual 100, 3) := by decide +kernel
theorem dX9_named_20 : decode cX9_named 20 = .ok (.iconst (-1), 1) := by decide +kernel
theorem dX9_named_21 : decode cX9_named 21 = .ok (.ixor, 1) := by decide +kernel
theorem dX9_named_22 : decode cX9_named 22 = .ok (.iand, 1) := by decide +kernel
theorem dX9_named_23 : decode cX9_named 23 = .ok (.ifCond .eq 5, 3) := by decide +kernel
theorem dX9_named_26 : decode cX9_named 26 = .ok (.iconst (-1), 1) := by decide +kernel
theorem dX9_named_27 : decode cX9_named 27 = .ok (.ireturn, 1) := by decide +kernel
theorem dX9_named_28 : decode cX9_named 28 = .ok (.aload_n 0, 1) := by decide +kernel
theorem dX9_named_29 : decode cX9_named 29 = .ok (.iload_n 1, 1) := by decide +kernel
theorem dX9_named_30 : decode cX9_named 30 = .ok (.iload_n 2, 1) := by decide +kernel
theorem dX9_named_31 : decode cX9_named 31 = .ok (.iload 4, 2) := by decide +kernel
theorem dX9_named_33 : decode cX9_named 33 = .ok (.iload 5, 2) := by decide +kernel
theorem dX9_named_35 : decode cX9_named 35 = .ok (.iload 6, 2) := by decide +kernel
theorem dX9_named_37 : decode cX9_named 37 = .ok (.invokevirtual 86, 3) := by decide +kernel
theorem dX9_named_40 : decode cX9_named 40 = .ok (.istore 7, 2) := by decide +kernel
theorem dX9_named_42 : decode cX9_named 42 = .ok (.iload 7, 2) := by decide +kernel
theorem dX9_named_44 : decode cX9_named 44 = .ok (.ifCond .lt 19, 3) := by decide +kernel
theorem dX9_named_47 : decode cX9_named 47 = .ok (.aload_n 0, 1) := by decide +kernel
theorem dX9_named_48 : decode cX9_named 48 = .ok (.getfield 10, 3) := by decide +kernel
theorem dX9_named_51 : decode cX9_named 51 = .ok (.getfield 90, 3) := by decide +kernel
theorem dX9_named_54 : decode cX9_named 54 = .ok (.iload 7, 2) := by decide +kernel
theorem dX9_named_56 : decode cX9_named 56 = .ok (.aaload, 1) := by decide +kernel
theorem dX9_named_57 : decode cX9_named 57 = .ok (.iconst 1, 1) := by decide +kernel
theorem dX9_named_58 : decode cX9_named 58 = .ok (.iconst 1, 1) := by decide +kernel
theorem dX9_named_59 : decode cX9_named 59 = .ok (.iload_n 3, 1) := by decide +kernel
theorem dX9_named_60 : decode cX9_named 60 = .ok (.invokevirtual 94, 3) := by decide +kernel
theorem dX9_named_63 : decode cX9_named 63 = .ok (.iload 7, 2) := by decide +kernel
theorem dX9_named_65 : decode cX9_named 65 = .ok (.ireturn, 1) := by decide +kernel
theorem dX9_custom_0 : decode cX9_custom 0 = .ok (.aload_n 0, 1) := by decide +kernel
theorem dX9_custom_1 : decode cX9_custom 1 = .ok (.iload_n 1, 1) := by decide +kernel
theorem dX9_custom_2 : decode cX9_custom 2 = .ok (.iload_n 2, 1) := by decide +kernel
theorem dX9_custom_3 : decode cX9_custom 3 = .ok (.iload_n 3, 1) := by decide +kernel
theorem dX9_custom_4 : decode cX9_custom 4 = .ok (.iload 4, 2) := by decide +kernel
theorem dX9_custom_6 : decode cX9_custom 6 = .ok (.iload 5, 2) := by decide +kernel
theorem dX9_custom_8 : decode cX9_custom 8 = .ok (.invokevirtual 86, 3) := by decide +kernel
theorem dX9_custom_11 : decode cX9_custom 11 = .ok (.istore 6, 2) := by decide +kernel
theorem dX9_custom_13 : decode cX9_custom 13 = .ok (.iload 6, 2) := by decide +kernel
theorem dX9_custom_15 : decode cX9_custom 15 = .ok (.ifCond .lt 19, 3) := by decide +kernel
theorem dX9_custom_18 : decode cX9_custom 18 = .ok (.aload_n 0, 1) := by decide +kernel
theorem dX9_custom_19 : decode cX9_custom 19 = .ok (.getfield 10, 3) := by decide +kernel
theorem dX9_custom_22 : decode cX9_custom 22 = .ok (.getfield 90, 3) := by decide +kernel
theorem dX9_custom_25 : decode cX9_custom 25 = .ok (.iload 6, 2) := by decide +kernel
theorem dX9_custom_27 : decode cX9_custom 27 = .ok (.aaload, 1) := by decide +kernel
theorem dX9_custom_28 : decode cX9_custom 28 = .ok (.iconst 2, 1) := by decide +kernel
theorem dX9_custom_29 : decode cX9_custom 29 = .ok (.iconst 1, 1) := by decide +kernel
theorem dX9_custom_30 : decode cX9_custom 30 = .ok (.iconst 0, 1) := by decide +kernel
theorem dX9_custom_31 : decode cX9_custom 31 = .ok (.invokevirtual 94, 3) := by decide +kernel
theorem dX9_custom_34 : decode cX9_custom 34 = .ok (.iload 6, 2) := by decide +kernel
theorem dX9_custom_36 : decode cX9_custom 36 = .ok (.ireturn, 1) := by decide +kernel
theorem dX9_type_0 : decode cX9_type 0 = .ok (.iload_n 3, 1) := by decide +kernel
theorem dX9_type_1 : decode cX9_type 1 = .ok (.iconst 1, 1) := by decide +kernel
theorem dX9_type_2 : decode cX9_type 2 = .ok (.if_icmp .lt 9, 3) := by decide +kernel
theorem dX9_type_5 : decode cX9_type 5 = .ok (.iload_n 3, 1) := by decide +kernel
theorem dX9_type_6 : decode cX9_type 6 = .ok (.bipush 8, 2) := by decide +kernel
theorem dX9_type_8 : decode cX9_type 8 = .ok (.if_icmp .le 5, 3) := by decide +kernel
theorem dX9_type_11 : decode cX9_type 11 = .ok (.iconst (-1), 1) := by decide +kernel
theorem dX9_type_12 : decode cX9_type 12 = .ok (.ireturn, 1) := by decide +kernel
theorem dX9_type_13 : decode cX9_type 13 = .ok (.iconst 0, 1) := by decide +kernel
theorem dX9_type_14 : decode cX9_type 14 = .ok (.istore 4, 2) := by decide +kernel
theorem dX9_type_16 : decode cX9_type 16 = .ok (.iload 4, 2) := by decide +kernel
theorem dX9_type_18 : decode cX9_type 18 = .ok (.iload_n 3, 1) := by decide +kernel
theorem dX9_type_19 : decode cX9_type 19 = .ok (.if_icmp .ge 33, 3) := by decide +kernel
theorem dX9_type_22 : decode cX9_type 22 = .ok (.lload_n 1, 1) := by decide +kernel
theorem dX9_type_23 : decode cX9_type 23 = .ok (.iload 4, 2) := by decide +kernel
theorem dX9_type_25 : decode cX9_type 25 = .ok (.invokestatic 104, 3) := by decide +kernel
theorem dX9_type_28 : decode cX9_type 28 = .ok (.istore 5, 2) := by decide +kernel
theorem dX9_type_30 : decode cX9_type 30 = .ok (.iload 5, 2) := by decide +kernel
theorem dX9_type_32 : decode cX9_type 32 = .ok (.bipush 32, 2) := by decide +kernel
theorem dX9_type_34 : decode cX9_type 34 = .ok (.if_icmp .lt 10, 3) := by decide +kernel
theorem dX9_type_37 : decode cX9_type 37 = .ok (.iload 5, 2) := by decide +kernel
theorem dX9_type_39 : decode cX9_type 39 = .ok (.bipush 126, 2) := by decide +kernel
theorem dX9_type_41 : decode cX9_type 41 = .ok (.if_icmp .le 5, 3) := by decide +kernel
theorem dX9_type_44 : decode cX9_type 44 = .ok (.iconst (-1), 1) := by decide +kernel
theorem dX9_type_45 : decode cX9_type 45 = .ok (.ireturn, 1) := by decide +kernel
theorem dX9_type_46 : decode cX9_type 46 = .ok (.iinc 4 1, 3) := by decide +kernel
theorem dX9_type_49 : decode cX9_type 49 = .ok (.goto (-33), 3) := by decide +kernel
theorem dX9_type_52 : decode cX9_type 52 = .ok (.aload_n 0, 1) := by decide +kernel
theorem dX9_type_53 : decode cX9_type 53 = .ok (.getfield 31, 3) := by decide +kernel
theorem dX9_type_56 : decode cX9_type 56 = .ok (.getfield 108, 3) := by decide +kernel
theorem dX9_type_59 : decode cX9_type 59 = .ok (.iload_n 3, 1) := by decide +kernel
theorem dX9_type_60 : decode cX9_type 60 = .ok (.iadd, 1) := by decide +kernel
theorem dX9_type_61 : decode cX9_type 61 = .ok (.bipush 120, 2) := by decide +kernel
theorem dX9_type_63 : decode cX9_type 63 = .ok (.if_icmp .le 6, 3) := by decide +kernel
theorem dX9_type_66 : decode cX9_type 66 = .ok (.bipush (-3), 2) := by decide +kernel
theorem dX9_type_68 : decode cX9_type 68 = .ok (.ireturn, 1) := by decide +kernel
theorem dX9_type_69 : decode cX9_type 69 = .ok (.iload_n 3, 1) := by decide +kernel
theorem dX9_type_70 : decode cX9_type 70 = .ok (.iconst 1, 1) := by decide +kernel
theorem dX9_type_71 : decode cX9_type 71 = .ok (.isub, 1) := by decide +kernel
theorem dX9_type_72 : decode cX9_type 72 = .ok (.istore 4, 2) := by decide +kernel
theorem dX9_type_74 : decode cX9_type 74 = .ok (.iload 4, 2) := by decide +kernel
theorem dX9_type_76 : decode cX9_type 76 = .ok (.ifCond .lt 23, 3) := by decide +kernel
theorem dX9_type_79 : decode cX9_type 79 = .ok (.aload_n 0, 1) := by decide +kernel
theorem dX9_type_80 : decode cX9_type 80 = .ok (.getfield 31, 3) := by decide +kernel
theorem dX9_type_83 : decode cX9_type 83 = .ok (.lload_n 1, 1) := by decide +kernel
theorem dX9_type_84 : decode cX9_type 84 = .ok (.iload 4, 2) := by decide +kernel
theorem dX9_type_86 : decode cX9_type 86 = .ok (.invokestatic 104, 3) := by decide +kernel
theorem dX9_type_89 : decode cX9_type 89 = .ok (.i2c, 1) := by decide +kernel
theorem dX9_type_90 : decode cX9_type 90 = .ok (.invokevirtual 111, 3) := by decide +kernel
theorem dX9_type_93 : decode cX9_type 93 = .ok (.iinc 4 (-1), 3) := by decide +kernel
theorem dX9_type_96 : decode cX9_type 96 = .ok (.goto (-22), 3) := by decide +kernel
theorem dX9_type_99 : decode cX9_type 99 = .ok (.aload_n 0, 1) := by decide +kernel
theorem dX9_type_100 : decode cX9_type 100 = .ok (.getfield 31, 3) := by decide +kernel
theorem dX9_type_103 : decode cX9_type 103 = .ok (.getfield 108, 3) := by decide +kernel
theorem dX9_type_106 : decode cX9_type 106 = .ok (.ireturn, 1) := by decide +kernel
theorem dX9_world_0 : decode cX9_world 0 = .ok (.aload_n 0, 1) := by decide +kernel
theorem dX9_world_1 : decode cX9_world 1 = .ok (.getfield 31, 3) := by decide +kernel
theorem dX9_world_4 : decode cX9_world 4 = .ok (.invokevirtual 115, 3) := by decide +kernel
theorem dX9_world_7 : decode cX9_world 7 = .ok (.istore_n 1, 1) := by decide +kernel
theorem dX9_world_8 : decode cX9_world 8 = .ok (.aload_n 0, 1) := by decide +kernel
theorem dX9_world_9 : decode cX9_world 9 = .ok (.getfield 31, 3) := by decide +kernel
theorem dX9_world_12 : decode cX9_world 12 = .ok (.iconst 0, 1) := by decide +kernel
theorem dX9_world_13 : decode cX9_world 13 = .ok (.putfield 108, 3) := by decide +kernel
theorem dX9_world_16 : decode cX9_world 16 = .ok (.iload_n 1, 1) := by decide +kernel
theorem dX9_world_17 : decode cX9_world 17 = .ok (.ifCond .ge 5, 3) := by decide +kernel
theorem dX9_world_20 : decode cX9_world 20 = .ok (.iload_n 1, 1) := by decide +kernel
theorem dX9_world_21 : decode cX9_world 21 = .ok (.ireturn, 1) := by decide +kernel
theorem dX9_world_22 : decode cX9_world 22 = .ok (.aload_n 0, 1) := by decide +kernel
theorem dX9_world_23 : decode cX9_world 23 = .ok (.getfield 10, 3) := by decide +kernel
theorem dX9_world_26 : decode cX9_world 26 = .ok (.getfield 50, 3) := by decide +kernel
theorem dX9_world_29 : decode cX9_world 29 = .ok (.aload_n 0, 1) := by decide +kernel
theorem dX9_world_30 : decode cX9_world 30 = .ok (.getfield 31, 3) := by decide +kernel
theorem dX9_world_33 : decode cX9_world 33 = .ok (.getfield 118, 3) := by decide +kernel
theorem dX9_world_36 : decode cX9_world 36 = .ok (.iadd, 1) := by decide +kernel
theorem dX9_world_37 : decode cX9_world 37 = .ok (.bipush 24, 2) := by decide +kernel
theorem dX9_world_39 : decode cX9_world 39 = .ok (.if_icmp .gt 23, 3) := by decide +kernel
theorem dX9_world_42 : decode cX9_world 42 = .ok (.aload_n 0, 1) := by decide +kernel
theorem dX9_world_43 : decode cX9_world 43 = .ok (.getfield 10, 3) := by decide +kernel
theorem dX9_world_46 : decode cX9_world 46 = .ok (.getfield 119, 3) := by decide +kernel
theorem dX9_world_49 : decode cX9_world 49 = .ok (.aload_n 0, 1) := by decide +kernel
theorem dX9_world_50 : decode cX9_world 50 = .ok (.getfield 31, 3) := by decide +kernel
theorem dX9_world_53 : decode cX9_world 53 = .ok (.getfield 122, 3) := by decide +kernel
theorem dX9_world_56 : decode cX9_world 56 = .ok (.iadd, 1) := by decide +kernel
theorem dX9_world_57 : decode cX9_world 57 = .ok (.bipush 12, 2) := by decide +kernel
theorem dX9_world_59 : decode cX9_world 59 = .ok (.if_icmp .le 6, 3) := by decide +kernel
theorem dX9_world_62 : decode cX9_world 62 = .ok (.bipush (-3), 2) := by decide +kernel
theorem dX9_world_64 : decode cX9_world 64 = .ok (.ireturn, 1) := by decide +kernel
theorem dX9_world_65 : decode cX9_world 65 = .ok (.iconst 0, 1) := by decide +kernel
theorem dX9_world_66 : decode cX9_world 66 = .ok (.istore_n 2, 1) := by decide +kernel
theorem dX9_world_67 : decode cX9_world 67 = .ok (.iload_n 2, 1) := by decide +kernel
theorem dX9_world_68 : decode cX9_world 68 = .ok (.aload_n 0, 1) := by decide +kernel
theorem dX9_world_69 : decode cX9_world 69 = .ok (.getfield 31, 3) := by decide +kernel
theorem dX9_world_72 : decode cX9_world 72 = .ok (.getfield 118, 3) := by decide +kernel
theorem dX9_world_75 : decode cX9_world 75 = .ok (.if_icmp .ge 44, 3) := by decide +kernel
theorem dX9_world_78 : decode cX9_world 78 = .ok (.aload_n 0, 1) := by decide +kernel
theorem dX9_world_79 : decode cX9_world 79 = .ok (.getfield 10, 3) := by decide +kernel
theorem dX9_world_82 : decode cX9_world 82 = .ok (.getfield 54, 3) := by decide +kernel
theorem dX9_world_85 : decode cX9_world 85 = .ok (.aload_n 0, 1) := by decide +kernel
theorem dX9_world_86 : decode cX9_world 86 = .ok (.getfield 10, 3) := by decide +kernel
theorem dX9_world_89 : decode cX9_world 89 = .ok (.getfield 50, 3) := by decide +kernel
theorem dX9_world_92 : decode cX9_world 92 = .ok (.aaload, 1) := by decide +kernel
theorem dX9_world_93 : decode cX9_world 93 = .ok (.aload_n 0, 1) := by decide +kernel
theorem dX9_world_94 : decode cX9_world 94 = .ok (.getfield 31, 3) := by decide +kernel
theorem dX9_world_97 : decode cX9_world 97 = .ok (.getfield 123, 3) := by decide +kernel
theorem dX9_world_100 : decode cX9_world 100 = .ok (.iload_n 2, 1) := by decide +kernel
theorem dX9_world_101 : decode cX9_world 101 = .ok (.aaload, 1) := by decide +kernel
theorem dX9_world_102 : decode cX9_world 102 = .ok (.invokevirtual 124, 3) := by decide +kernel
theorem dX9_world_105 : decode cX9_world 105 = .ok (.aload_n 0, 1) := by decide +kernel
theorem dX9_world_106 : decode cX9_world 106 = .ok (.getfield 10, 3) := by decide +kernel
theorem dX9_world_109 : decode cX9_world 109 = .ok (.invokevirtual 64, 3) := by decide +kernel
theorem dX9_world_112 : decode cX9_world 112 = .ok (.pop, 1) := by decide +kernel
theorem dX9_world_113 : decode cX9_world 113 = .ok (.iinc 2 1, 3) := by decide +kernel
theorem dX9_world_116 : decode cX9_world 116 = .ok (.goto (-49), 3) := by decide +kernel
theorem dX9_world_119 : decode cX9_world 119 = .ok (.iconst 0, 1) := by decide +kernel
theorem dX9_world_120 : decode cX9_world 120 = .ok (.istore_n 2, 1) := by decide +kernel
theorem dX9_world_121 : decode cX9_world 121 = .ok (.iload_n 2, 1) := by decide +kernel
theorem dX9_world_122 : decode cX9_world 122 = .ok (.aload_n 0, 1) := by decide +kernel
theorem dX9_world_123 : decode cX9_world 123 = .ok (.getfield 31, 3) := by decide +kernel
theorem dX9_world_126 : decode cX9_world 126 = .ok (.getfield 122, 3) := by decide +kernel
theorem dX9_world_129 : decode cX9_world 129 = .ok (.if_icmp .ge 44, 3) := by decide +kernel
theorem dX9_world_132 : decode cX9_world 132 = .ok (.aload_n 0, 1) := by decide +kernel
theorem dX9_world_133 : decode cX9_world 133 = .ok (.getfield 10, 3) := by decide +kernel
theorem dX9_world_136 : decode cX9_world 136 = .ok (.getfield 90, 3) := by decide +kernel
theorem dX9_world_139 : decode cX9_world 139 = .ok (.aload_n 0, 1) := by decide +kernel
theorem dX9_world_140 : decode cX9_world 140 = .ok (.getfield 10, 3) := by decide +kernel
theorem dX9_world_143 : decode cX9_world 143 = .ok (.getfield 119, 3) := by decide +kernel
theorem dX9_world_146 : decode cX9_world 146 = .ok (.aaload, 1) := by decide +kernel
theorem dX9_world_147 : decode cX9_world 147 = .ok (.aload_n 0, 1) := by decide +kernel
theorem dX9_world_148 : decode cX9_world 148 = .ok (.getfield 31, 3) := by decide +kernel
theorem dX9_world_151 : decode cX9_world 151 = .ok (.getfield 128, 3) := by decide +kernel
theorem dX9_world_154 : decode cX9_world 154 = .ok (.iload_n 2, 1) := by decide +kernel
theorem dX9_world_155 : decode cX9_world 155 = .ok (.aaload, 1) := by decide +kernel
theorem dX9_world_156 : decode cX9_world 156 = .ok (.invokevirtual 129, 3) := by decide +kernel
theorem dX9_world_159 : decode cX9_world 159 = .ok (.aload_n 0, 1) := by decide +kernel
theorem dX9_world_160 : decode cX9_world 160 = .ok (.getfield 10, 3) := by decide +kernel
theorem dX9_world_163 : decode cX9_world 163 = .ok (.invokevirtual 132, 3) := by decide +kernel
theorem dX9_world_166 : decode cX9_world 166 = .ok (.pop, 1) := by decide +kernel
theorem dX9_world_167 : decode cX9_world 167 = .ok (.iinc 2 1, 3) := by decide +kernel
theorem dX9_world_170 : decode cX9_world 170 = .ok (.goto (-49), 3) := by decide +kernel
theorem dX9_world_173 : decode cX9_world 173 = .ok (.iload_n 1, 1) := by decide +kernel
theorem dX9_world_174 : decode cX9_world 174 = .ok (.ireturn, 1) := by decide +kernel
theorem dX9_crimeOf_0 : decode cX9_crimeOf 0 = .ok (.iload_n 1, 1) := by decide +kernel
theorem dX9_crimeOf_1 : decode cX9_crimeOf 1 = .ok (.ifCond .lt 14, 3) := by decide +kernel
theorem dX9_crimeOf_4 : decode cX9_crimeOf 4 = .ok (.iload_n 1, 1) := by decide +kernel
theorem dX9_crimeOf_5 : decode cX9_crimeOf 5 = .ok (.aload_n 0, 1) := by decide +kernel
theorem dX9_crimeOf_6 : decode cX9_crimeOf 6 = .ok (.getfield 10, 3) := by decide +kernel
theorem dX9_crimeOf_9 : decode cX9_crimeOf 9 = .ok (.getfield 50, 3) := by decide +kernel
theorem dX9_crimeOf_12 : decode cX9_crimeOf 12 = .ok (.if_icmp .lt 5, 3) := by decide +kernel
theorem dX9_crimeOf_15 : decode cX9_crimeOf 15 = .ok (.iconst (-1), 1) := by decide +kernel
theorem dX9_crimeOf_16 : decode cX9_crimeOf 16 = .ok (.ireturn, 1) := by decide +kernel
theorem dX9_crimeOf_17 : decode cX9_crimeOf 17 = .ok (.aload_n 0, 1) := by decide +kernel
theorem dX9_crimeOf_18 : decode cX9_crimeOf 18 = .ok (.getfield 10, 3) := by decide +kernel
theorem dX9_crimeOf_21 : decode cX9_crimeOf 21 = .ok (.getfield 54, 3) := by decide +kernel
theorem dX9_crimeOf_24 : decode cX9_crimeOf 24 = .ok (.iload_n 1, 1) := by decide +kernel
theorem dX9_crimeOf_25 : decode cX9_crimeOf 25 = .ok (.aaload, 1) := by decide +kernel
theorem dX9_crimeOf_26 : decode cX9_crimeOf 26 = .ok (.astore_n 3, 1) := by decide +kernel
theorem dX9_crimeOf_27 : decode cX9_crimeOf 27 = .ok (.iload_n 2, 1) := by decide +kernel
theorem dX9_crimeOf_28 : decode cX9_crimeOf 28 = .ok (.tableswitch 78 0 5 #[40, 45, 50, 55, 60, 65], 40) := by decide +kernel
theorem dX9_crimeOf_68 : decode cX9_crimeOf 68 = .ok (.aload_n 3, 1) := by decide +kernel
theorem dX9_crimeOf_69 : decode cX9_crimeOf 69 = .ok (.getfield 135, 3) := by decide +kernel
theorem dX9_crimeOf_72 : decode cX9_crimeOf 72 = .ok (.ireturn, 1) := by decide +kernel
theorem dX9_crimeOf_73 : decode cX9_crimeOf 73 = .ok (.aload_n 3, 1) := by decide +kernel
theorem dX9_crimeOf_74 : decode cX9_crimeOf 74 = .ok (.getfield 138, 3) := by decide +kernel
theorem dX9_crimeOf_77 : decode cX9_crimeOf 77 = .ok (.ireturn, 1) := by decide +kernel
theorem dX9_crimeOf_78 : decode cX9_crimeOf 78 = .ok (.aload_n 3, 1) := by decide +kernel
theorem dX9_crimeOf_79 : decode cX9_crimeOf 79 = .ok (.getfield 141, 3) := by decide +kernel
theorem dX9_crimeOf_82 : decode cX9_crimeOf 82 = .ok (.ireturn, 1) := by decide +kernel
theorem dX9_crimeOf_83 : decode cX9_crimeOf 83 = .ok (.aload_n 3, 1) := by decide +kernel
theorem dX9_crimeOf_84 : decode cX9_crimeOf 84 = .ok (.getfield 144, 3) := by decide +kernel
theorem dX9_crimeOf_87 : decode cX9_crimeOf 87 = .ok (.ireturn, 1) := by decide +kernel
theorem dX9_crimeOf_88 : decode cX9_crimeOf 88 = .ok (.aload_n 3, 1) := by decide +kernel
theorem dX9_crimeOf_89 : decode cX9_crimeOf 89 = .ok (.getfield 147, 3) := by decide +kernel
theorem dX9_crimeOf_92 : decode cX9_crimeOf 92 = .ok (.ireturn, 1) := by decide +kernel
theorem dX9_crimeOf_93 : decode cX9_crimeOf 93 = .ok (.aload_n 3, 1) := by decide +kernel
theorem dX9_crimeOf_94 : decode cX9_crimeOf 94 = .ok (.getfield 150, 3) := by decide +kernel
theorem dX9_crimeOf_97 : decode cX9_crimeOf 97 = .ok (.ifCond .eq 7, 3) := by decide +kernel
theorem dX9_crimeOf_100 : decode cX9_crimeOf 100 = .ok (.iconst 1, 1) := by decide +kernel
theorem dX9_crimeOf_101 : decode cX9_crimeOf 101 = .ok (.goto 4, 3) := by decide +kernel
theorem dX9_crimeOf_104 : decode cX9_crimeOf 104 = .ok (.iconst 0, 1) := by decide +kernel
theorem dX9_crimeOf_105 : decode cX9_crimeOf 105 = .ok (.ireturn, 1) := by decide +kernel
theorem dX9_crimeOf_106 : decode cX9_crimeOf 106 = .ok (.iconst (-1), 1) := by decide +kernel
theorem dX9_crimeOf_107 : decode cX9_crimeOf 107 = .ok (.ireturn, 1) := by decide +kernel
theorem dX9_paper_0 : decode cX9_paper 0 = .ok (.aload_n 0, 1) := by decide +kernel
theorem dX9_paper_1 : decode cX9_paper 1 = .ok (.iload_n 1, 1) := by decide +kernel
theorem dX9_paper_2 : decode cX9_paper 2 = .ok (.invokevirtual 153, 3) := by decide +kernel
theorem dX9_paper_5 : decode cX9_paper 5 = .ok (.ifCond .ne 5, 3) := by decide +kernel
theorem dX9_paper_8 : decode cX9_paper 8 = .ok (.iconst (-1), 1) := by decide +kernel
theorem dX9_paper_9 : decode cX9_paper 9 = .ok (.ireturn, 1) := by decide +kernel
theorem dX9_paper_10 : decode cX9_paper 10 = .ok (.aload_n 0, 1) := by decide +kernel
theorem dX9_paper_11 : decode cX9_paper 11 = .ok (.getfield 10, 3) := by decide +kernel
theorem dX9_paper_14 : decode cX9_paper 14 = .ok (.getfield 90, 3) := by decide +kernel
theorem dX9_paper_17 : decode cX9_paper 17 = .ok (.iload_n 1, 1) := by decide +kernel
theorem dX9_paper_18 : decode cX9_paper 18 = .ok (.aaload, 1) := by decide +kernel
theorem dX9_paper_19 : decode cX9_paper 19 = .ok (.astore_n 3, 1) := by decide +kernel
theorem dX9_paper_20 : decode cX9_paper 20 = .ok (.iload_n 2, 1) := by decide +kernel
theorem dX9_paper_21 : decode cX9_paper 21 = .ok (.tableswitch 113 0 7 #[47, 52, 57, 62, 80, 98, 103, 108], 47) := by decide +kernel
theorem dX9_paper_68 : decode cX9_paper 68 = .ok (.aload_n 3, 1) := by decide +kernel
theorem dX9_paper_69 : decode cX9_paper 69 = .ok (.getfield 156, 3) := by decide +kernel
theorem dX9_paper_72 : decode cX9_paper 72 = .ok (.ireturn, 1) := by decide +kernel
theorem dX9_paper_73 : decode cX9_paper 73 = .ok (.aload_n 3, 1) := by decide +kernel
theorem dX9_paper_74 : decode cX9_paper 74 = .ok (.getfield 159, 3) := by decide +kernel
theorem dX9_paper_77 : decode cX9_paper 77 = .ok (.ireturn, 1) := by decide +kernel
theorem dX9_paper_78 : decode cX9_paper 78 = .ok (.aload_n 3, 1) := by decide +kernel
theorem dX9_paper_79 : decode cX9_paper 79 = .ok (.getfield 162, 3) := by decide +kernel
theorem dX9_paper_82 : decode cX9_paper 82 = .ok (.ireturn, 1) := by decide +kernel
theorem dX9_paper_83 : decode cX9_paper 83 = .ok (.aload_n 3, 1) := by decide +kernel
theorem dX9_paper_84 : decode cX9_paper 84 = .ok (.getfield 156, 3) := by decide +kernel
theorem dX9_paper_87 : decode cX9_paper 87 = .ok (.iconst 2, 1) := by decide +kernel
theorem dX9_paper_88 : decode cX9_paper 88 = .ok (.if_icmp .ne 8, 3) := by decide +kernel
theorem dX9_paper_91 : decode cX9_paper 91 = .ok (.bipush (-12), 2) := by decide +kernel
theorem dX9_paper_93 : decode cX9_paper 93 = .ok (.goto 7, 3) := by decide +kernel
theorem dX9_paper_96 : decode cX9_paper 96 = .ok (.aload_n 3, 1) := by decide +kernel
theorem dX9_paper_97 : decode cX9_paper 97 = .ok (.getfield 165, 3) := by decide +kernel
theorem dX9_paper_100 : decode cX9_paper 100 = .ok (.ireturn, 1) := by decide +kernel
theorem dX9_paper_101 : decode cX9_paper 101 = .ok (.aload_n 3, 1) := by decide +kernel
theorem dX9_paper_102 : decode cX9_paper 102 = .ok (.getfield 156, 3) := by decide +kernel
theorem dX9_paper_105 : decode cX9_paper 105 = .ok (.iconst 1, 1) := by decide +kernel
theorem dX9_paper_106 : decode cX9_paper 106 = .ok (.if_icmp .ne 10, 3) := by decide +kernel
theorem dX9_paper_109 : decode cX9_paper 109 = .ok (.aload_n 3, 1) := by decide +kernel
theorem dX9_paper_110 : decode cX9_paper 110 = .ok (.getfield 168, 3) := by decide +kernel
theorem dX9_paper_113 : decode cX9_paper 113 = .ok (.goto 5, 3) := by decide +kernel
theorem dX9_paper_116 : decode cX9_paper 116 = .ok (.bipush (-12), 2) := by decide +kernel
theorem dX9_paper_118 : decode cX9_paper 118 = .ok (.ireturn, 1) := by decide +kernel
theorem dX9_paper_119 : decode cX9_paper 119 = .ok (.aload_n 3, 1) := by decide +kernel
theorem dX9_paper_120 : decode cX9_paper 120 = .ok (.getfield 170, 3) := by decide +kernel
theorem dX9_paper_123 : decode cX9_paper 123 = .ok (.ireturn, 1) := by decide +kernel
theorem dX9_paper_124 : decode cX9_paper 124 = .ok (.aload_n 3, 1) := by decide +kernel
theorem dX9_paper_125 : decode cX9_paper 125 = .ok (.getfield 173, 3) := by decide +kernel
theorem dX9_paper_128 : decode cX9_paper 128 = .ok (.ireturn, 1) := by decide +kernel
theorem dX9_paper_129 : decode cX9_paper 129 = .ok (.aload_n 3, 1) := by decide +kernel
theorem dX9_paper_130 : decode cX9_paper 130 = .ok (.getfield 176, 3) := by decide +kernel
theorem dX9_paper_133 : decode cX9_paper 133 = .ok (.ireturn, 1) := by decide +kernel
theorem dX9_paper_134 : decode cX9_paper 134 = .ok (.iconst (-1), 1) := by decide +kernel
theorem dX9_paper_135 : decode cX9_paper 135 = .ok (.ireturn, 1) := by decide +kernel
theorem dX9_bars_0 : decode cX9_bars 0 = .ok (.aload_n 0, 1) := by decide +kernel
theorem dX9_bars_1 : decode cX9_bars 1 = .ok (.iload_n 1, 1) := by decide +kernel
theorem dX9_bars_2 : decode cX9_bars 2 = .ok (.invokevirtual 153, 3) := by decide +kernel
theorem dX9_bars_5 : decode cX9_bars 5 = .ok (.ifCond .eq 13, 3) := by decide +kernel
theorem dX9_bars_8 : decode cX9_bars 8 = .ok (.iload_n 2, 1) := by decide +kernel
theorem dX9_bars_9 : decode cX9_bars 9 = .ok (.ifCond .lt 9, 3) := by decide +kernel
theorem dX9_bars_12 : decode cX9_bars 12 = .ok (.iload_n 2, 1) := by decide +kernel
theorem dX9_bars_13 : decode cX9_bars 13 = .ok (.bipush 31, 2) := by decide +kernel
theorem dX9_bars_15 : decode cX9_bars 15 = .ok (.if_icmp .le 5, 3) := by decide +kernel
theorem dX9_bars_18 : decode cX9_bars 18 = .ok (.iconst (-1), 1) := by decide +kernel
theorem dX9_bars_19 : decode cX9_bars 19 = .ok (.ireturn, 1) := by decide +kernel
theorem dX9_bars_20 : decode cX9_bars 20 = .ok (.aload_n 0, 1) := by decide +kernel
theorem dX9_bars_21 : decode cX9_bars 21 = .ok (.getfield 10, 3) := by decide +kernel
theorem dX9_bars_24 : decode cX9_bars 24 = .ok (.getfield 90, 3) := by decide +kernel
theorem dX9_bars_27 : decode cX9_bars 27 = .ok (.iload_n 1, 1) := by decide +kernel
theorem dX9_bars_28 : decode cX9_bars 28 = .ok (.aaload, 1) := by decide +kernel
theorem dX9_bars_29 : decode cX9_bars 29 = .ok (.getfield 170, 3) := by decide +kernel
theorem dX9_bars_32 : decode cX9_bars 32 = .ok (.istore_n 3, 1) := by decide +kernel
theorem dX9_bars_33 : decode cX9_bars 33 = .ok (.aload_n 0, 1) := by decide +kernel
theorem dX9_bars_34 : decode cX9_bars 34 = .ok (.getfield 10, 3) := by decide +kernel
theorem dX9_bars_37 : decode cX9_bars 37 = .ok (.getfield 90, 3) := by decide +kernel
theorem dX9_bars_40 : decode cX9_bars 40 = .ok (.iload_n 1, 1) := by decide +kernel
theorem dX9_bars_41 : decode cX9_bars 41 = .ok (.aaload, 1) := by decide +kernel
theorem dX9_bars_42 : decode cX9_bars 42 = .ok (.iload_n 2, 1) := by decide +kernel
theorem dX9_bars_43 : decode cX9_bars 43 = .ok (.putfield 170, 3) := by decide +kernel
theorem dX9_bars_46 : decode cX9_bars 46 = .ok (.iload_n 3, 1) := by decide +kernel
theorem dX9_bars_47 : decode cX9_bars 47 = .ok (.ireturn, 1) := by decide +kernel
theorem dX9_matches_0 : decode cX9_matches 0 = .ok (.aload_n 0, 1) := by decide +kernel
theorem dX9_matches_1 : decode cX9_matches 1 = .ok (.iload_n 1, 1) := by decide +kernel
theorem dX9_matches_2 : decode cX9_matches 2 = .ok (.invokevirtual 179, 3) := by decide +kernel
theorem dX9_matches_5 : decode cX9_matches 5 = .ok (.ifCond .eq 19, 3) := by decide +kernel
theorem dX9_matches_8 : decode cX9_matches 8 = .ok (.iload_n 2, 1) := by decide +kernel
theorem dX9_matches_9 : decode cX9_matches 9 = .ok (.invokestatic 46, 3) := by decide +kernel
theorem dX9_matches_12 : decode cX9_matches 12 = .ok (.ifCond .eq 12, 3) := by decide +kernel
theorem dX9_matches_15 : decode cX9_matches 15 = .ok (.iload_n 3, 1) := by decide +kernel
theorem dX9_matches_16 : decode cX9_matches 16 = .ok (.ifCond .lt 8, 3) := by decide +kernel
theorem dX9_matches_19 : decode cX9_matches 19 = .ok (.iload_n 3, 1) := by decide +kernel
theorem dX9_matches_20 : decode cX9_matches 20 = .ok (.iconst 1, 1) := by decide +kernel
theorem dX9_matches_21 : decode cX9_matches 21 = .ok (.if_icmp .le 5, 3) := by decide +kernel
theorem dX9_matches_24 : decode cX9_matches 24 = .ok (.iconst (-1), 1) := by decide +kernel
theorem dX9_matches_25 : decode cX9_matches 25 = .ok (.ireturn, 1) := by decide +kernel
theorem dX9_matches_26 : decode cX9_matches 26 = .ok (.aload_n 0, 1) := by decide +kernel
theorem dX9_matches_27 : decode cX9_matches 27 = .ok (.getfield 10, 3) := by decide +kernel
theorem dX9_matches_30 : decode cX9_matches 30 = .ok (.getfield 74, 3) := by decide +kernel
theorem dX9_matches_33 : decode cX9_matches 33 = .ok (.iload_n 1, 1) := by decide +kernel
theorem dX9_matches_34 : decode cX9_matches 34 = .ok (.aaload, 1) := by decide +kernel
theorem dX9_matches_35 : decode cX9_matches 35 = .ok (.astore 4, 2) := by decide +kernel
theorem dX9_matches_37 : decode cX9_matches 37 = .ok (.aload_n 0, 1) := by decide +kernel
theorem dX9_matches_38 : decode cX9_matches 38 = .ok (.getfield 10, 3) := by decide +kernel
theorem dX9_matches_41 : decode cX9_matches 41 = .ok (.iload_n 2, 1) := by decide +kernel
theorem dX9_matches_42 : decode cX9_matches 42 = .ok (.invokevirtual 100, 3) := by decide +kernel
theorem dX9_matches_45 : decode cX9_matches 45 = .ok (.iload_n 3, 1) := by decide +kernel
theorem dX9_matches_46 : decode cX9_matches 46 = .ok (.ifCond .ne 11, 3) := by decide +kernel
theorem dX9_matches_49 : decode cX9_matches 49 = .ok (.aload 4, 2) := by decide +kernel
theorem dX9_matches_51 : decode cX9_matches 51 = .ok (.getfield 182, 3) := by decide +kernel
theorem dX9_matches_54 : decode cX9_matches 54 = .ok (.goto 8, 3) := by decide +kernel
theorem dX9_matches_57 : decode cX9_matches 57 = .ok (.aload 4, 2) := by decide +kernel
theorem dX9_matches_59 : decode cX9_matches 59 = .ok (.getfield 185, 3) := by decide +kernel
theorem dX9_matches_62 : decode cX9_matches 62 = .ok (.iand, 1) := by decide +kernel
theorem dX9_matches_63 : decode cX9_matches 63 = .ok (.ireturn, 1) := by decide +kernel
theorem dX9_yearsOf_0 : decode cX9_yearsOf 0 = .ok (.aload_n 0, 1) := by decide +kernel
theorem dX9_yearsOf_1 : decode cX9_yearsOf 1 = .ok (.iload_n 1, 1) := by decide +kernel
theorem dX9_yearsOf_2 : decode cX9_yearsOf 2 = .ok (.invokevirtual 179, 3) := by decide +kernel
theorem dX9_yearsOf_5 : decode cX9_yearsOf 5 = .ok (.ifCond .eq 19, 3) := by decide +kernel
theorem dX9_yearsOf_8 : decode cX9_yearsOf 8 = .ok (.iload_n 2, 1) := by decide +kernel
theorem dX9_yearsOf_9 : decode cX9_yearsOf 9 = .ok (.invokestatic 46, 3) := by decide +kernel
theorem dX9_yearsOf_12 : decode cX9_yearsOf 12 = .ok (.ifCond .eq 12, 3) := by decide +kernel
theorem dX9_yearsOf_15 : decode cX9_yearsOf 15 = .ok (.iload_n 3, 1) := by decide +kernel
theorem dX9_yearsOf_16 : decode cX9_yearsOf 16 = .ok (.ifCond .lt 8, 3) := by decide +kernel
theorem dX9_yearsOf_19 : decode cX9_yearsOf 19 = .ok (.iload_n 3, 1) := by decide +kernel
theorem dX9_yearsOf_20 : decode cX9_yearsOf 20 = .ok (.iconst 1, 1) := by decide +kernel
theorem dX9_yearsOf_21 : decode cX9_yearsOf 21 = .ok (.if_icmp .le 5, 3) := by decide +kernel
theorem dX9_yearsOf_24 : decode cX9_yearsOf 24 = .ok (.iconst (-1), 1) := by decide +kernel
theorem dX9_yearsOf_25 : decode cX9_yearsOf 25 = .ok (.ireturn, 1) := by decide +kernel
theorem dX9_yearsOf_26 : decode cX9_yearsOf 26 = .ok (.aload_n 0, 1) := by decide +kernel
theorem dX9_yearsOf_27 : decode cX9_yearsOf 27 = .ok (.getfield 10, 3) := by decide +kernel
theorem dX9_yearsOf_30 : decode cX9_yearsOf 30 = .ok (.getfield 74, 3) := by decide +kernel
theorem dX9_yearsOf_33 : decode cX9_yearsOf 33 = .ok (.iload_n 1, 1) := by decide +kernel
theorem dX9_yearsOf_34 : decode cX9_yearsOf 34 = .ok (.aaload, 1) := by decide +kernel
theorem dX9_yearsOf_35 : decode cX9_yearsOf 35 = .ok (.astore 4, 2) := by decide +kernel
theorem dX9_yearsOf_37 : decode cX9_yearsOf 37 = .ok (.iload_n 3, 1) := by decide +kernel
theorem dX9_yearsOf_38 : decode cX9_yearsOf 38 = .ok (.ifCond .ne 13, 3) := by decide +kernel
theorem dX9_yearsOf_41 : decode cX9_yearsOf 41 = .ok (.aload 4, 2) := by decide +kernel
theorem dX9_yearsOf_43 : decode cX9_yearsOf 43 = .ok (.getfield 188, 3) := by decide +kernel
theorem dX9_yearsOf_46 : decode cX9_yearsOf 46 = .ok (.iload_n 2, 1) := by decide +kernel
theorem dX9_yearsOf_47 : decode cX9_yearsOf 47 = .ok (.iaload, 1) := by decide +kernel
theorem dX9_yearsOf_48 : decode cX9_yearsOf 48 = .ok (.goto 10, 3) := by decide +kernel
theorem dX9_yearsOf_51 : decode cX9_yearsOf 51 = .ok (.aload 4, 2) := by decide +kernel
theorem dX9_yearsOf_53 : decode cX9_yearsOf 53 = .ok (.getfield 192, 3) := by decide +kernel
theorem dX9_yearsOf_56 : decode cX9_yearsOf 56 = .ok (.iload_n 2, 1) := by decide +kernel
theorem dX9_yearsOf_57 : decode cX9_yearsOf 57 = .ok (.iaload, 1) := by decide +kernel
theorem dX9_yearsOf_58 : decode cX9_yearsOf 58 = .ok (.ireturn, 1) := by decide +kernel
theorem dX9_shows_0 : decode cX9_shows 0 = .ok (.aload_n 0, 1) := by decide +kernel
theorem dX9_shows_1 : decode cX9_shows 1 = .ok (.iload_n 1, 1) := by decide +kernel
theorem dX9_shows_2 : decode cX9_shows 2 = .ok (.invokevirtual 179, 3) := by decide +kernel
theorem dX9_shows_5 : decode cX9_shows 5 = .ok (.ifCond .eq 17, 3) := by decide +kernel
theorem dX9_shows_8 : decode cX9_shows 8 = .ok (.iload_n 2, 1) := by decide +kernel
theorem dX9_shows_9 : decode cX9_shows 9 = .ok (.invokestatic 195, 3) := by decide +kernel
theorem dX9_shows_12 : decode cX9_shows 12 = .ok (.ifCond .eq 10, 3) := by decide +kernel
theorem dX9_shows_15 : decode cX9_shows 15 = .ok (.iload_n 3, 1) := by decide +kernel
theorem dX9_shows_16 : decode cX9_shows 16 = .ok (.invokestatic 198, 3) := by decide +kernel
theorem dX9_shows_19 : decode cX9_shows 19 = .ok (.ifCond .ne 5, 3) := by decide +kernel
theorem dX9_shows_22 : decode cX9_shows 22 = .ok (.iconst (-1), 1) := by decide +kernel
theorem dX9_shows_23 : decode cX9_shows 23 = .ok (.ireturn, 1) := by decide +kernel
theorem dX9_shows_24 : decode cX9_shows 24 = .ok (.aload_n 0, 1) := by decide +kernel
theorem dX9_shows_25 : decode cX9_shows 25 = .ok (.getfield 37, 3) := by decide +kernel
theorem dX9_shows_28 : decode cX9_shows 28 = .ok (.iload_n 2, 1) := by decide +kernel
theorem dX9_shows_29 : decode cX9_shows 29 = .ok (.aaload, 1) := by decide +kernel
theorem dX9_shows_30 : decode cX9_shows 30 = .ok (.astore 5, 2) := by decide +kernel
theorem dX9_shows_32 : decode cX9_shows 32 = .ok (.aload 5, 2) := by decide +kernel
theorem dX9_shows_34 : decode cX9_shows 34 = .ok (.iload_n 3, 1) := by decide +kernel
theorem dX9_shows_35 : decode cX9_shows 35 = .ok (.invokevirtual 201, 3) := by decide +kernel
theorem dX9_shows_38 : decode cX9_shows 38 = .ok (.istore 6, 2) := by decide +kernel
theorem dX9_shows_40 : decode cX9_shows 40 = .ok (.iload 6, 2) := by decide +kernel
theorem dX9_shows_42 : decode cX9_shows 42 = .ok (.ifCond .eq 6, 3) := by decide +kernel
theorem dX9_shows_45 : decode cX9_shows 45 = .ok (.iload 6, 2) := by decide +kernel
theorem dX9_shows_47 : decode cX9_shows 47 = .ok (.ireturn, 1) := by decide +kernel
theorem dX9_shows_48 : decode cX9_shows 48 = .ok (.iload 4, 2) := by decide +kernel
theorem dX9_shows_50 : decode cX9_shows 50 = .ok (.ifCond .lt 16, 3) := by decide +kernel
theorem dX9_shows_53 : decode cX9_shows 53 = .ok (.iload 4, 2) := by decide +kernel
theorem dX9_shows_55 : decode cX9_shows 55 = .ok (.aload 5, 2) := by decide +kernel
theorem dX9_shows_57 : decode cX9_shows 57 = .ok (.getfield 204, 3) := by decide +kernel
theorem dX9_shows_60 : decode cX9_shows 60 = .ok (.bipush 6, 2) := by decide +kernel
theorem dX9_shows_62 : decode cX9_shows 62 = .ok (.isub, 1) := by decide +kernel
theorem dX9_shows_63 : decode cX9_shows 63 = .ok (.if_icmp .le 6, 3) := by decide +kernel
theorem dX9_shows_66 : decode cX9_shows 66 = .ok (.bipush (-13), 2) := by decide +kernel
theorem dX9_shows_68 : decode cX9_shows 68 = .ok (.ireturn, 1) := by decide +kernel
theorem dX9_shows_69 : decode cX9_shows 69 = .ok (.aload_n 0, 1) := by decide +kernel
theorem dX9_shows_70 : decode cX9_shows 70 = .ok (.getfield 10, 3) := by decide +kernel
theorem dX9_shows_73 : decode cX9_shows 73 = .ok (.getfield 74, 3) := by decide +kernel
theorem dX9_shows_76 : decode cX9_shows 76 = .ok (.iload_n 1, 1) := by decide +kernel
theorem dX9_shows_77 : decode cX9_shows 77 = .ok (.aaload, 1) := by decide +kernel
theorem dX9_shows_78 : decode cX9_shows 78 = .ok (.getfield 207, 3) := by decide +kernel
theorem dX9_shows_81 : decode cX9_shows 81 = .ok (.istore 7, 2) := by decide +kernel
theorem dX9_shows_83 : decode cX9_shows 83 = .ok (.aload_n 0, 1) := by decide +kernel
theorem dX9_shows_84 : decode cX9_shows 84 = .ok (.getfield 10, 3) := by decide +kernel
theorem dX9_shows_87 : decode cX9_shows 87 = .ok (.getfield 74, 3) := by decide +kernel
theorem dX9_shows_90 : decode cX9_shows 90 = .ok (.iload_n 1, 1) := by decide +kernel
theorem dX9_shows_91 : decode cX9_shows 91 = .ok (.aaload, 1) := by decide +kernel
theorem dX9_shows_92 : decode cX9_shows 92 = .ok (.aload 5, 2) := by decide +kernel
theorem dX9_shows_94 : decode cX9_shows 94 = .ok (.iload 4, 2) := by decide +kernel
theorem dX9_shows_96 : decode cX9_shows 96 = .ok (.invokevirtual 210, 3) := by decide +kernel
theorem dX9_shows_99 : decode cX9_shows 99 = .ok (.putfield 207, 3) := by decide +kernel
theorem dX9_shows_102 : decode cX9_shows 102 = .ok (.aload_n 0, 1) := by decide +kernel
theorem dX9_shows_103 : decode cX9_shows 103 = .ok (.getfield 10, 3) := by decide +kernel
theorem dX9_shows_106 : decode cX9_shows 106 = .ok (.iload_n 1, 1) := by decide +kernel
theorem dX9_shows_107 : decode cX9_shows 107 = .ok (.invokevirtual 213, 3) := by decide +kernel
theorem dX9_shows_110 : decode cX9_shows 110 = .ok (.iload 7, 2) := by decide +kernel
theorem dX9_shows_112 : decode cX9_shows 112 = .ok (.ireturn, 1) := by decide +kernel
theorem dX9_count_0 : decode cX9_count 0 = .ok (.iload_n 1, 1) := by decide +kernel
theorem dX9_count_1 : decode cX9_count 1 = .ok (.tableswitch 78 0 4 #[35, 43, 51, 59, 67], 35) := by decide +kernel
theorem dX9_count_36 : decode cX9_count 36 = .ok (.aload_n 0, 1) := by decide +kernel
theorem dX9_count_37 : decode cX9_count 37 = .ok (.getfield 10, 3) := by decide +kernel
theorem dX9_count_40 : decode cX9_count 40 = .ok (.getfield 50, 3) := by decide +kernel
theorem dX9_count_43 : decode cX9_count 43 = .ok (.ireturn, 1) := by decide +kernel
theorem dX9_count_44 : decode cX9_count 44 = .ok (.aload_n 0, 1) := by decide +kernel
theorem dX9_count_45 : decode cX9_count 45 = .ok (.getfield 10, 3) := by decide +kernel
theorem dX9_count_48 : decode cX9_count 48 = .ok (.getfield 71, 3) := by decide +kernel
theorem dX9_count_51 : decode cX9_count 51 = .ok (.ireturn, 1) := by decide +kernel
theorem dX9_count_52 : decode cX9_count 52 = .ok (.aload_n 0, 1) := by decide +kernel
theorem dX9_count_53 : decode cX9_count 53 = .ok (.getfield 10, 3) := by decide +kernel
theorem dX9_count_56 : decode cX9_count 56 = .ok (.getfield 119, 3) := by decide +kernel
theorem dX9_count_59 : decode cX9_count 59 = .ok (.ireturn, 1) := by decide +kernel
theorem dX9_count_60 : decode cX9_count 60 = .ok (.aload_n 0, 1) := by decide +kernel
theorem dX9_count_61 : decode cX9_count 61 = .ok (.getfield 10, 3) := by decide +kernel
theorem dX9_count_64 : decode cX9_count 64 = .ok (.getfield 217, 3) := by decide +kernel
theorem dX9_count_67 : decode cX9_count 67 = .ok (.ireturn, 1) := by decide +kernel
theorem dX9_count_68 : decode cX9_count 68 = .ok (.aload_n 0, 1) := by decide +kernel
theorem dX9_count_69 : decode cX9_count 69 = .ok (.getfield 10, 3) := by decide +kernel
theorem dX9_count_72 : decode cX9_count 72 = .ok (.getfield 220, 3) := by decide +kernel
theorem dX9_count_75 : decode cX9_count 75 = .ok (.getfield 224, 3) := by decide +kernel
theorem dX9_count_78 : decode cX9_count 78 = .ok (.ireturn, 1) := by decide +kernel
theorem dX9_count_79 : decode cX9_count 79 = .ok (.iconst (-1), 1) := by decide +kernel
theorem dX9_count_80 : decode cX9_count 80 = .ok (.ireturn, 1) := by decide +kernel
theorem dX9_man_0 : decode cX9_man 0 = .ok (.iload_n 1, 1) := by decide +kernel
theorem dX9_man_1 : decode cX9_man 1 = .ok (.ifCond .ne 35, 3) := by decide +kernel
theorem dX9_man_4 : decode cX9_man 4 = .ok (.iload_n 2, 1) := by decide +kernel
theorem dX9_man_5 : decode cX9_man 5 = .ok (.invokestatic 46, 3) := by decide +kernel
theorem dX9_man_8 : decode cX9_man 8 = .ok (.ifCond .eq 28, 3) := by decide +kernel
theorem dX9_man_11 : decode cX9_man 11 = .ok (.aload_n 0, 1) := by decide +kernel
theorem dX9_man_12 : decode cX9_man 12 = .ok (.getfield 10, 3) := by decide +kernel
theorem dX9_man_15 : decode cX9_man 15 = .ok (.getfield 220, 3) := by decide +kernel
theorem dX9_man_18 : decode cX9_man 18 = .ok (.getfield 229, 3) := by decide +kernel
theorem dX9_man_21 : decode cX9_man 21 = .ok (.istore_n 3, 1) := by decide +kernel
theorem dX9_man_22 : decode cX9_man 22 = .ok (.aload_n 0, 1) := by decide +kernel
theorem dX9_man_23 : decode cX9_man 23 = .ok (.getfield 10, 3) := by decide +kernel
theorem dX9_man_26 : decode cX9_man 26 = .ok (.getfield 220, 3) := by decide +kernel
theorem dX9_man_29 : decode cX9_man 29 = .ok (.iload_n 2, 1) := by decide +kernel
theorem dX9_man_30 : decode cX9_man 30 = .ok (.putfield 229, 3) := by decide +kernel
theorem dX9_man_33 : decode cX9_man 33 = .ok (.goto 79, 3) := by decide +kernel
theorem dX9_man_36 : decode cX9_man 36 = .ok (.iload_n 1, 1) := by decide +kernel
theorem dX9_man_37 : decode cX9_man 37 = .ok (.iconst 1, 1) := by decide +kernel
theorem dX9_man_38 : decode cX9_man 38 = .ok (.if_icmp .ne 35, 3) := by decide +kernel
theorem dX9_man_41 : decode cX9_man 41 = .ok (.iload_n 2, 1) := by decide +kernel
theorem dX9_man_42 : decode cX9_man 42 = .ok (.invokestatic 46, 3) := by decide +kernel
theorem dX9_man_45 : decode cX9_man 45 = .ok (.ifCond .eq 28, 3) := by decide +kernel
theorem dX9_man_48 : decode cX9_man 48 = .ok (.aload_n 0, 1) := by decide +kernel
theorem dX9_man_49 : decode cX9_man 49 = .ok (.getfield 10, 3) := by decide +kernel
theorem dX9_man_52 : decode cX9_man 52 = .ok (.getfield 220, 3) := by decide +kernel
theorem dX9_man_55 : decode cX9_man 55 = .ok (.getfield 232, 3) := by decide +kernel
theorem dX9_man_58 : decode cX9_man 58 = .ok (.istore_n 3, 1) := by decide +kernel
theorem dX9_man_59 : decode cX9_man 59 = .ok (.aload_n 0, 1) := by decide +kernel
theorem dX9_man_60 : decode cX9_man 60 = .ok (.getfield 10, 3) := by decide +kernel
theorem dX9_man_63 : decode cX9_man 63 = .ok (.getfield 220, 3) := by decide +kernel
theorem dX9_man_66 : decode cX9_man 66 = .ok (.iload_n 2, 1) := by decide +kernel
theorem dX9_man_67 : decode cX9_man 67 = .ok (.invokevirtual 235, 3) := by decide +kernel
theorem dX9_man_70 : decode cX9_man 70 = .ok (.goto 42, 3) := by decide +kernel
theorem dX9_man_73 : decode cX9_man 73 = .ok (.iload_n 1, 1) := by decide +kernel
theorem dX9_man_74 : decode cX9_man 74 = .ok (.iconst 2, 1) := by decide +kernel
theorem dX9_man_75 : decode cX9_man 75 = .ok (.if_icmp .ne 35, 3) := by decide +kernel
theorem dX9_man_78 : decode cX9_man 78 = .ok (.iload_n 2, 1) := by decide +kernel
theorem dX9_man_79 : decode cX9_man 79 = .ok (.invokestatic 68, 3) := by decide +kernel
theorem dX9_man_82 : decode cX9_man 82 = .ok (.ifCond .eq 28, 3) := by decide +kernel
theorem dX9_man_85 : decode cX9_man 85 = .ok (.aload_n 0, 1) := by decide +kernel
theorem dX9_man_86 : decode cX9_man 86 = .ok (.getfield 10, 3) := by decide +kernel
theorem dX9_man_89 : decode cX9_man 89 = .ok (.getfield 220, 3) := by decide +kernel
theorem dX9_man_92 : decode cX9_man 92 = .ok (.getfield 238, 3) := by decide +kernel
theorem dX9_man_95 : decode cX9_man 95 = .ok (.istore_n 3, 1) := by decide +kernel
theorem dX9_man_96 : decode cX9_man 96 = .ok (.aload_n 0, 1) := by decide +kernel
theorem dX9_man_97 : decode cX9_man 97 = .ok (.getfield 10, 3) := by decide +kernel
theorem dX9_man_100 : decode cX9_man 100 = .ok (.getfield 220, 3) := by decide +kernel
theorem dX9_man_103 : decode cX9_man 103 = .ok (.iload_n 2, 1) := by decide +kernel
theorem dX9_man_104 : decode cX9_man 104 = .ok (.putfield 238, 3) := by decide +kernel
theorem dX9_man_107 : decode cX9_man 107 = .ok (.goto 5, 3) := by decide +kernel
theorem dX9_man_110 : decode cX9_man 110 = .ok (.iconst (-1), 1) := by decide +kernel
theorem dX9_man_111 : decode cX9_man 111 = .ok (.istore_n 3, 1) := by decide +kernel
theorem dX9_man_112 : decode cX9_man 112 = .ok (.iload_n 3, 1) := by decide +kernel
theorem dX9_man_113 : decode cX9_man 113 = .ok (.ireturn, 1) := by decide +kernel
theorem dX9_judged_0 : decode cX9_judged 0 = .ok (.aload_n 0, 1) := by decide +kernel
theorem dX9_judged_1 : decode cX9_judged 1 = .ok (.iload_n 1, 1) := by decide +kernel
theorem dX9_judged_2 : decode cX9_judged 2 = .ok (.invokevirtual 179, 3) := by decide +kernel
theorem dX9_judged_5 : decode cX9_judged 5 = .ok (.ifCond .ne 5, 3) := by decide +kernel
theorem dX9_judged_8 : decode cX9_judged 8 = .ok (.iconst (-1), 1) := by decide +kernel
theorem dX9_judged_9 : decode cX9_judged 9 = .ok (.ireturn, 1) := by decide +kernel
theorem dX9_judged_10 : decode cX9_judged 10 = .ok (.aload_n 0, 1) := by decide +kernel
theorem dX9_judged_11 : decode cX9_judged 11 = .ok (.getfield 10, 3) := by decide +kernel
theorem dX9_judged_14 : decode cX9_judged 14 = .ok (.getfield 74, 3) := by decide +kernel
theorem dX9_judged_17 : decode cX9_judged 17 = .ok (.iload_n 1, 1) := by decide +kernel
theorem dX9_judged_18 : decode cX9_judged 18 = .ok (.aaload, 1) := by decide +kernel
theorem dX9_judged_19 : decode cX9_judged 19 = .ok (.getfield 241, 3) := by decide +kernel
theorem dX9_judged_22 : decode cX9_judged 22 = .ok (.ifCond .eq 7, 3) := by decide +kernel
theorem dX9_judged_25 : decode cX9_judged 25 = .ok (.iconst 1, 1) := by decide +kernel
theorem dX9_judged_26 : decode cX9_judged 26 = .ok (.goto 4, 3) := by decide +kernel
theorem dX9_judged_29 : decode cX9_judged 29 = .ok (.iconst 0, 1) := by decide +kernel
theorem dX9_judged_30 : decode cX9_judged 30 = .ok (.istore_n 3, 1) := by decide +kernel
theorem dX9_judged_31 : decode cX9_judged 31 = .ok (.aload_n 0, 1) := by decide +kernel
theorem dX9_judged_32 : decode cX9_judged 32 = .ok (.getfield 10, 3) := by decide +kernel
theorem dX9_judged_35 : decode cX9_judged 35 = .ok (.getfield 74, 3) := by decide +kernel
theorem dX9_judged_38 : decode cX9_judged 38 = .ok (.iload_n 1, 1) := by decide +kernel
theorem dX9_judged_39 : decode cX9_judged 39 = .ok (.aaload, 1) := by decide +kernel
theorem dX9_judged_40 : decode cX9_judged 40 = .ok (.iload_n 2, 1) := by decide +kernel
theorem dX9_judged_41 : decode cX9_judged 41 = .ok (.putfield 241, 3) := by decide +kernel
theorem dX9_judged_44 : decode cX9_judged 44 = .ok (.iload_n 3, 1) := by decide +kernel
theorem dX9_judged_45 : decode cX9_judged 45 = .ok (.ireturn, 1) := by decide +kernel
theorem dX9_bound_0 : decode cX9_bound 0 = .ok (.iload_n 1, 1) := by decide +kernel
theorem dX9_bound_1 : decode cX9_bound 1 = .ok (.tableswitch 91 0 3 #[31, 50, 61, 80], 31) := by decide +kernel
theorem dX9_bound_32 : decode cX9_bound 32 = .ok (.aload_n 0, 1) := by decide +kernel
theorem dX9_bound_33 : decode cX9_bound 33 = .ok (.getfield 10, 3) := by decide +kernel
theorem dX9_bound_36 : decode cX9_bound 36 = .ok (.getfield 220, 3) := by decide +kernel
theorem dX9_bound_39 : decode cX9_bound 39 = .ok (.getfield 244, 3) := by decide +kernel
theorem dX9_bound_42 : decode cX9_bound 42 = .ok (.ifCond .eq 7, 3) := by decide +kernel
theorem dX9_bound_45 : decode cX9_bound 45 = .ok (.iconst 1, 1) := by decide +kernel
theorem dX9_bound_46 : decode cX9_bound 46 = .ok (.goto 4, 3) := by decide +kernel
theorem dX9_bound_49 : decode cX9_bound 49 = .ok (.iconst 0, 1) := by decide +kernel
theorem dX9_bound_50 : decode cX9_bound 50 = .ok (.ireturn, 1) := by decide +kernel
theorem dX9_bound_51 : decode cX9_bound 51 = .ok (.aload_n 0, 1) := by decide +kernel
theorem dX9_bound_52 : decode cX9_bound 52 = .ok (.getfield 10, 3) := by decide +kernel
theorem dX9_bound_55 : decode cX9_bound 55 = .ok (.getfield 220, 3) := by decide +kernel
theorem dX9_bound_58 : decode cX9_bound 58 = .ok (.getfield 247, 3) := by decide +kernel
theorem dX9_bound_61 : decode cX9_bound 61 = .ok (.ireturn, 1) := by decide +kernel
theorem dX9_bound_62 : decode cX9_bound 62 = .ok (.aload_n 0, 1) := by decide +kernel
theorem dX9_bound_63 : decode cX9_bound 63 = .ok (.getfield 10, 3) := by decide +kernel
theorem dX9_bound_66 : decode cX9_bound 66 = .ok (.getfield 220, 3) := by decide +kernel
theorem dX9_bound_69 : decode cX9_bound 69 = .ok (.getfield 250, 3) := by decide +kernel
theorem dX9_bound_72 : decode cX9_bound 72 = .ok (.aload_n 0, 1) := by decide +kernel
theorem dX9_bound_73 : decode cX9_bound 73 = .ok (.getfield 10, 3) := by decide +kernel
theorem dX9_bound_76 : decode cX9_bound 76 = .ok (.invokevirtual 252, 3) := by decide +kernel
theorem dX9_bound_79 : decode cX9_bound 79 = .ok (.iand, 1) := by decide +kernel
theorem dX9_bound_80 : decode cX9_bound 80 = .ok (.ireturn, 1) := by decide +kernel
theorem dX9_bound_81 : decode cX9_bound 81 = .ok (.aload_n 0, 1) := by decide +kernel
theorem dX9_bound_82 : decode cX9_bound 82 = .ok (.getfield 10, 3) := by decide +kernel
theorem dX9_bound_85 : decode cX9_bound 85 = .ok (.getfield 220, 3) := by decide +kernel
theorem dX9_bound_88 : decode cX9_bound 88 = .ok (.getfield 232, 3) := by decide +kernel
theorem dX9_bound_91 : decode cX9_bound 91 = .ok (.ireturn, 1) := by decide +kernel
theorem dX9_bound_92 : decode cX9_bound 92 = .ok (.iconst (-1), 1) := by decide +kernel
theorem dX9_bound_93 : decode cX9_bound 93 = .ok (.ireturn, 1) := by decide +kernel
theorem dX9_covers_0 : decode cX9_covers 0 = .ok (.aload_n 0, 1) := by decide +kernel
theorem dX9_covers_1 : decode cX9_covers 1 = .ok (.iload_n 1, 1) := by decide +kernel
theorem dX9_covers_2 : decode cX9_covers 2 = .ok (.invokevirtual 153, 3) := by decide +kernel
theorem dX9_covers_5 : decode cX9_covers 5 = .ok (.ifCond .eq 22, 3) := by decide +kernel
theorem dX9_covers_8 : decode cX9_covers 8 = .ok (.aload_n 0, 1) := by decide +kernel
theorem dX9_covers_9 : decode cX9_covers 9 = .ok (.getfield 10, 3) := by decide +kernel
theorem dX9_covers_12 : decode cX9_covers 12 = .ok (.aload_n 0, 1) := by decide +kernel
theorem dX9_covers_13 : decode cX9_covers 13 = .ok (.getfield 10, 3) := by decide +kernel
theorem dX9_covers_16 : decode cX9_covers 16 = .ok (.getfield 90, 3) := by decide +kernel
theorem dX9_covers_19 : decode cX9_covers 19 = .ok (.iload_n 1, 1) := by decide +kernel
theorem dX9_covers_20 : decode cX9_covers 20 = .ok (.aaload, 1) := by decide +kernel
theorem dX9_covers_21 : decode cX9_covers 21 = .ok (.invokevirtual 255, 3) := by decide +kernel
theorem dX9_covers_24 : decode cX9_covers 24 = .ok (.goto 4, 3) := by decide +kernel
theorem dX9_covers_27 : decode cX9_covers 27 = .ok (.iconst (-1), 1) := by decide +kernel
theorem dX9_covers_28 : decode cX9_covers 28 = .ok (.ireturn, 1) := by decide +kernel
theorem dX9_lets_0 : decode cX9_lets 0 = .ok (.aload_n 0, 1) := by decide +kernel
theorem dX9_lets_1 : decode cX9_lets 1 = .ok (.iload_n 1, 1) := by decide +kernel
theorem dX9_lets_2 : decode cX9_lets 2 = .ok (.invokevirtual 153, 3) := by decide +kernel
theorem dX9_lets_5 : decode cX9_lets 5 = .ok (.ifCond .ne 5, 3) := by decide +kernel
theorem dX9_lets_8 : decode cX9_lets 8 = .ok (.iconst (-1), 1) := by decide +kernel
theorem dX9_lets_9 : decode cX9_lets 9 = .ok (.ireturn, 1) := by decide +kernel
theorem dX9_lets_10 : decode cX9_lets 10 = .ok (.aload_n 0, 1) := by decide +kernel
theorem dX9_lets_11 : decode cX9_lets 11 = .ok (.getfield 10, 3) := by decide +kernel
theorem dX9_lets_14 : decode cX9_lets 14 = .ok (.getfield 90, 3) := by decide +kernel
theorem dX9_lets_17 : decode cX9_lets 17 = .ok (.iload_n 1, 1) := by decide +kernel
theorem dX9_lets_18 : decode cX9_lets 18 = .ok (.aaload, 1) := by decide +kernel
theorem dX9_lets_19 : decode cX9_lets 19 = .ok (.astore_n 2, 1) := by decide +kernel
theorem dX9_lets_20 : decode cX9_lets 20 = .ok (.aload_n 2, 1) := by decide +kernel
theorem dX9_lets_21 : decode cX9_lets 21 = .ok (.getfield 159, 3) := by decide +kernel
theorem dX9_lets_24 : decode cX9_lets 24 = .ok (.aload_n 0, 1) := by decide +kernel
theorem dX9_lets_25 : decode cX9_lets 25 = .ok (.getfield 10, 3) := by decide +kernel
theorem dX9_lets_28 : decode cX9_lets 28 = .ok (.getfield 220, 3) := by decide +kernel
theorem dX9_lets_31 : decode cX9_lets 31 = .ok (.getfield 232, 3) := by decide +kernel
theorem dX9_lets_34 : decode cX9_lets 34 = .ok (.if_icmp .eq 6, 3) := by decide +kernel
theorem dX9_lets_37 : decode cX9_lets 37 = .ok (.bipush (-2), 2) := by decide +kernel
theorem dX9_lets_39 : decode cX9_lets 39 = .ok (.ireturn, 1) := by decide +kernel
theorem dX9_lets_40 : decode cX9_lets 40 = .ok (.aload_n 0, 1) := by decide +kernel
theorem dX9_lets_41 : decode cX9_lets 41 = .ok (.getfield 10, 3) := by decide +kernel
theorem dX9_lets_44 : decode cX9_lets 44 = .ok (.aload_n 2, 1) := by decide +kernel
theorem dX9_lets_45 : decode cX9_lets 45 = .ok (.invokevirtual 259, 3) := by decide +kernel
theorem dX9_lets_48 : decode cX9_lets 48 = .ok (.aload_n 0, 1) := by decide +kernel
theorem dX9_lets_49 : decode cX9_lets 49 = .ok (.getfield 10, 3) := by decide +kernel
theorem dX9_lets_52 : decode cX9_lets 52 = .ok (.getfield 220, 3) := by decide +kernel
theorem dX9_lets_55 : decode cX9_lets 55 = .ok (.aload_n 2, 1) := by decide +kernel
theorem dX9_lets_56 : decode cX9_lets 56 = .ok (.invokevirtual 262, 3) := by decide +kernel
theorem dX9_lets_59 : decode cX9_lets 59 = .ok (.ireturn, 1) := by decide +kernel
theorem dX9_barred_0 : decode cX9_barred 0 = .ok (.aload_n 0, 1) := by decide +kernel
theorem dX9_barred_1 : decode cX9_barred 1 = .ok (.iload_n 1, 1) := by decide +kernel
theorem dX9_barred_2 : decode cX9_barred 2 = .ok (.invokevirtual 153, 3) := by decide +kernel
theorem dX9_barred_5 : decode cX9_barred 5 = .ok (.ifCond .eq 39, 3) := by decide +kernel
theorem dX9_barred_8 : decode cX9_barred 8 = .ok (.aload_n 0, 1) := by decide +kernel
theorem dX9_barred_9 : decode cX9_barred 9 = .ok (.iload_n 2, 1) := by decide +kernel
theorem dX9_barred_10 : decode cX9_barred 10 = .ok (.invokevirtual 179, 3) := by decide +kernel
theorem dX9_barred_13 : decode cX9_barred 13 = .ok (.ifCond .eq 31, 3) := by decide +kernel
theorem dX9_barred_16 : decode cX9_barred 16 = .ok (.aload_n 0, 1) := by decide +kernel
theorem dX9_barred_17 : decode cX9_barred 17 = .ok (.getfield 10, 3) := by decide +kernel
theorem dX9_barred_20 : decode cX9_barred 20 = .ok (.aload_n 0, 1) := by decide +kernel
theorem dX9_barred_21 : decode cX9_barred 21 = .ok (.getfield 10, 3) := by decide +kernel
theorem dX9_barred_24 : decode cX9_barred 24 = .ok (.getfield 90, 3) := by decide +kernel
theorem dX9_barred_27 : decode cX9_barred 27 = .ok (.iload_n 1, 1) := by decide +kernel
theorem dX9_barred_28 : decode cX9_barred 28 = .ok (.aaload, 1) := by decide +kernel
theorem dX9_barred_29 : decode cX9_barred 29 = .ok (.aload_n 0, 1) := by decide +kernel
theorem dX9_barred_30 : decode cX9_barred 30 = .ok (.getfield 10, 3) := by decide +kernel
theorem dX9_barred_33 : decode cX9_barred 33 = .ok (.getfield 74, 3) := by decide +kernel
theorem dX9_barred_36 : decode cX9_barred 36 = .ok (.iload_n 2, 1) := by decide +kernel
theorem dX9_barred_37 : decode cX9_barred 37 = .ok (.aaload, 1) := by decide +kernel
theorem dX9_barred_38 : decode cX9_barred 38 = .ok (.invokevirtual 265, 3) := by decide +kernel
theorem dX9_barred_41 : decode cX9_barred 41 = .ok (.goto 4, 3) := by decide +kernel
theorem dX9_barred_44 : decode cX9_barred 44 = .ok (.iconst (-1), 1) := by decide +kernel
theorem dX9_barred_45 : decode cX9_barred 45 = .ok (.ireturn, 1) := by decide +kernel
theorem dX9_send_0 : decode cX9_send 0 = .ok (.aload_n 0, 1) := by decide +kernel
theorem dX9_send_1 : decode cX9_send 1 = .ok (.iload_n 1, 1) := by decide +kernel
theorem dX9_send_2 : decode cX9_send 2 = .ok (.invokevirtual 269, 3) := by decide +kernel
theorem dX9_send_5 : decode cX9_send 5 = .ok (.istore_n 2, 1) := by decide +kernel
theorem dX9_send_6 : decode cX9_send 6 = .ok (.iload_n 2, 1) := by decide +kernel
theorem dX9_send_7 : decode cX9_send 7 = .ok (.ifCond .ge 5, 3) := by decide +kernel
theorem dX9_send_10 : decode cX9_send 10 = .ok (.iload_n 2, 1) := by decide +kernel
theorem dX9_send_11 : decode cX9_send 11 = .ok (.ireturn, 1) := by decide +kernel
theorem dX9_send_12 : decode cX9_send 12 = .ok (.iload_n 2, 1) := by decide +kernel
theorem dX9_send_13 : decode cX9_send 13 = .ok (.ifCond .ne 6, 3) := by decide +kernel
theorem dX9_send_16 : decode cX9_send 16 = .ok (.bipush (-4), 2) := by decide +kernel
theorem dX9_send_18 : decode cX9_send 18 = .ok (.ireturn, 1) := by decide +kernel
theorem dX9_send_19 : decode cX9_send 19 = .ok (.aload_n 0, 1) := by decide +kernel
theorem dX9_send_20 : decode cX9_send 20 = .ok (.getfield 10, 3) := by decide +kernel
theorem dX9_send_23 : decode cX9_send 23 = .ok (.getfield 220, 3) := by decide +kernel
theorem dX9_send_26 : decode cX9_send 26 = .ok (.aload_n 0, 1) := by decide +kernel
theorem dX9_send_27 : decode cX9_send 27 = .ok (.getfield 10, 3) := by decide +kernel
theorem dX9_send_30 : decode cX9_send 30 = .ok (.getfield 90, 3) := by decide +kernel
theorem dX9_send_33 : decode cX9_send 33 = .ok (.iload_n 1, 1) := by decide +kernel
theorem dX9_send_34 : decode cX9_send 34 = .ok (.aaload, 1) := by decide +kernel
theorem dX9_send_35 : decode cX9_send 35 = .ok (.iload_n 2, 1) := by decide +kernel
theorem dX9_send_36 : decode cX9_send 36 = .ok (.invokevirtual 272, 3) := by decide +kernel
theorem dX9_send_39 : decode cX9_send 39 = .ok (.aload_n 0, 1) := by decide +kernel
theorem dX9_send_40 : decode cX9_send 40 = .ok (.getfield 10, 3) := by decide +kernel
theorem dX9_send_43 : decode cX9_send 43 = .ok (.getfield 220, 3) := by decide +kernel
theorem dX9_send_46 : decode cX9_send 46 = .ok (.dup, 1) := by decide +kernel
theorem dX9_send_47 : decode cX9_send 47 = .ok (.getfield 224, 3) := by decide +kernel
theorem dX9_send_50 : decode cX9_send 50 = .ok (.iconst 1, 1) := by decide +kernel
theorem dX9_send_51 : decode cX9_send 51 = .ok (.iadd, 1) := by decide +kernel
theorem dX9_send_52 : decode cX9_send 52 = .ok (.putfield 224, 3) := by decide +kernel
theorem dX9_send_55 : decode cX9_send 55 = .ok (.iload_n 2, 1) := by decide +kernel
theorem dX9_send_56 : decode cX9_send 56 = .ok (.ireturn, 1) := by decide +kernel
theorem dX9_tried_0 : decode cX9_tried 0 = .ok (.aload_n 0, 1) := by decide +kernel
theorem dX9_tried_1 : decode cX9_tried 1 = .ok (.getfield 10, 3) := by decide +kernel
theorem dX9_tried_4 : decode cX9_tried 4 = .ok (.aload_n 0, 1) := by decide +kernel
theorem dX9_tried_5 : decode cX9_tried 5 = .ok (.getfield 10, 3) := by decide +kernel
theorem dX9_tried_8 : decode cX9_tried 8 = .ok (.getfield 220, 3) := by decide +kernel
theorem dX9_tried_11 : decode cX9_tried 11 = .ok (.invokevirtual 276, 3) := by decide +kernel
theorem dX9_tried_14 : decode cX9_tried 14 = .ok (.ireturn, 1) := by decide +kernel
theorem dX9_road_0 : decode cX9_road 0 = .ok (.iload_n 1, 1) := by decide +kernel
theorem dX9_road_1 : decode cX9_road 1 = .ok (.invokestatic 46, 3) := by decide +kernel
theorem dX9_road_4 : decode cX9_road 4 = .ok (.ifCond .eq 16, 3) := by decide +kernel
theorem dX9_road_7 : decode cX9_road 7 = .ok (.aload_n 0, 1) := by decide +kernel
theorem dX9_road_8 : decode cX9_road 8 = .ok (.iload_n 2, 1) := by decide +kernel
theorem dX9_road_9 : decode cX9_road 9 = .ok (.invokevirtual 179, 3) := by decide +kernel
theorem dX9_road_12 : decode cX9_road 12 = .ok (.ifCond .eq 8, 3) := by decide +kernel
theorem dX9_road_15 : decode cX9_road 15 = .ok (.iload_n 3, 1) := by decide +kernel
theorem dX9_road_16 : decode cX9_road 16 = .ok (.iconst (-1), 1) := by decide +kernel
theorem dX9_road_17 : decode cX9_road 17 = .ok (.if_icmp .ge 5, 3) := by decide +kernel
theorem dX9_road_20 : decode cX9_road 20 = .ok (.iconst (-1), 1) := by decide +kernel
theorem dX9_road_21 : decode cX9_road 21 = .ok (.ireturn, 1) := by decide +kernel
theorem dX9_road_22 : decode cX9_road 22 = .ok (.aload_n 0, 1) := by decide +kernel
theorem dX9_road_23 : decode cX9_road 23 = .ok (.getfield 10, 3) := by decide +kernel
theorem dX9_road_26 : decode cX9_road 26 = .ok (.invokevirtual 280, 3) := by decide +kernel
theorem dX9_road_29 : decode cX9_road 29 = .ok (.aload_n 0, 1) := by decide +kernel
theorem dX9_road_30 : decode cX9_road 30 = .ok (.getfield 24, 3) := by decide +kernel
theorem dX9_road_33 : decode cX9_road 33 = .ok (.iload_n 1, 1) := by decide +kernel
theorem dX9_road_34 : decode cX9_road 34 = .ok (.iload_n 2, 1) := by decide +kernel
theorem dX9_road_35 : decode cX9_road 35 = .ok (.invokevirtual 283, 3) := by decide +kernel
theorem dX9_road_38 : decode cX9_road 38 = .ok (.istore 4, 2) := by decide +kernel
theorem dX9_road_40 : decode cX9_road 40 = .ok (.iload 4, 2) := by decide +kernel
theorem dX9_road_42 : decode cX9_road 42 = .ok (.ifCond .ge 6, 3) := by decide +kernel
theorem dX9_road_45 : decode cX9_road 45 = .ok (.bipush (-4), 2) := by decide +kernel
theorem dX9_road_47 : decode cX9_road 47 = .ok (.ireturn, 1) := by decide +kernel
theorem dX9_road_48 : decode cX9_road 48 = .ok (.aload_n 0, 1) := by decide +kernel
theorem dX9_road_49 : decode cX9_road 49 = .ok (.getfield 24, 3) := by decide +kernel
theorem dX9_road_52 : decode cX9_road 52 = .ok (.iload 4, 2) := by decide +kernel
theorem dX9_road_54 : decode cX9_road 54 = .ok (.invokevirtual 287, 3) := by decide +kernel
theorem dX9_road_57 : decode cX9_road 57 = .ok (.istore 5, 2) := by decide +kernel
theorem dX9_road_59 : decode cX9_road 59 = .ok (.iload_n 3, 1) := by decide +kernel
theorem dX9_road_60 : decode cX9_road 60 = .ok (.iconst (-1), 1) := by decide +kernel
theorem dX9_road_61 : decode cX9_road 61 = .ok (.if_icmp .ne 6, 3) := by decide +kernel
theorem dX9_road_64 : decode cX9_road 64 = .ok (.iload 5, 2) := by decide +kernel
theorem dX9_road_66 : decode cX9_road 66 = .ok (.ireturn, 1) := by decide +kernel
theorem dX9_road_67 : decode cX9_road 67 = .ok (.iload_n 3, 1) := by decide +kernel
theorem dX9_road_68 : decode cX9_road 68 = .ok (.iload 5, 2) := by decide +kernel
theorem dX9_road_70 : decode cX9_road 70 = .ok (.if_icmp .ge 21, 3) := by decide +kernel
theorem dX9_road_73 : decode cX9_road 73 = .ok (.aload_n 0, 1) := by decide +kernel
theorem dX9_road_74 : decode cX9_road 74 = .ok (.getfield 24, 3) := by decide +kernel
theorem dX9_road_77 : decode cX9_road 77 = .ok (.iload 4, 2) := by decide +kernel
theorem dX9_road_79 : decode cX9_road 79 = .ok (.iload 5, 2) := by decide +kernel
theorem dX9_road_81 : decode cX9_road 81 = .ok (.iconst 1, 1) := by decide +kernel
theorem dX9_road_82 : decode cX9_road 82 = .ok (.isub, 1) := by decide +kernel
theorem dX9_road_83 : decode cX9_road 83 = .ok (.iload_n 3, 1) := by decide +kernel
theorem dX9_road_84 : decode cX9_road 84 = .ok (.isub, 1) := by decide +kernel
theorem dX9_road_85 : decode cX9_road 85 = .ok (.invokevirtual 290, 3) := by decide +kernel
theorem dX9_road_88 : decode cX9_road 88 = .ok (.goto 5, 3) := by decide +kernel
theorem dX9_road_91 : decode cX9_road 91 = .ok (.bipush (-4), 2) := by decide +kernel
theorem dX9_road_93 : decode cX9_road 93 = .ok (.ireturn, 1) := by decide +kernel
theorem dX9_lands_0 : decode cX9_lands 0 = .ok (.aload_n 0, 1) := by decide +kernel
theorem dX9_lands_1 : decode cX9_lands 1 = .ok (.getfield 10, 3) := by decide +kernel
theorem dX9_lands_4 : decode cX9_lands 4 = .ok (.invokevirtual 280, 3) := by decide +kernel
theorem dX9_lands_7 : decode cX9_lands 7 = .ok (.aload_n 0, 1) := by decide +kernel
theorem dX9_lands_8 : decode cX9_lands 8 = .ok (.getfield 24, 3) := by decide +kernel
theorem dX9_lands_11 : decode cX9_lands 11 = .ok (.invokevirtual 293, 3) := by decide +kernel
theorem dX9_lands_14 : decode cX9_lands 14 = .ok (.ireturn, 1) := by decide +kernel
theorem dX9_safe_0 : decode cX9_safe 0 = .ok (.iload_n 1, 1) := by decide +kernel
theorem dX9_safe_1 : decode cX9_safe 1 = .ok (.ifCond .lt 8, 3) := by decide +kernel
theorem dX9_safe_4 : decode cX9_safe 4 = .ok (.iload_n 1, 1) := by decide +kernel
theorem dX9_safe_5 : decode cX9_safe 5 = .ok (.iconst 1, 1) := by decide +kernel
theorem dX9_safe_6 : decode cX9_safe 6 = .ok (.if_icmp .le 5, 3) := by decide +kernel
theorem dX9_safe_9 : decode cX9_safe 9 = .ok (.iconst (-1), 1) := by decide +kernel
theorem dX9_safe_10 : decode cX9_safe 10 = .ok (.ireturn, 1) := by decide +kernel
theorem dX9_safe_11 : decode cX9_safe 11 = .ok (.aload_n 0, 1) := by decide +kernel
theorem dX9_safe_12 : decode cX9_safe 12 = .ok (.getfield 10, 3) := by decide +kernel
theorem dX9_safe_15 : decode cX9_safe 15 = .ok (.invokevirtual 280, 3) := by decide +kernel
theorem dX9_safe_18 : decode cX9_safe 18 = .ok (.aload_n 0, 1) := by decide +kernel
theorem dX9_safe_19 : decode cX9_safe 19 = .ok (.getfield 24, 3) := by decide +kernel
theorem dX9_safe_22 : decode cX9_safe 22 = .ok (.iload_n 1, 1) := by decide +kernel
theorem dX9_safe_23 : decode cX9_safe 23 = .ok (.iconst 1, 1) := by decide +kernel
theorem dX9_safe_24 : decode cX9_safe 24 = .ok (.if_icmp .ne 7, 3) := by decide +kernel
theorem dX9_safe_27 : decode cX9_safe 27 = .ok (.iconst 1, 1) := by decide +kernel
theorem dX9_safe_28 : decode cX9_safe 28 = .ok (.goto 4, 3) := by decide +kernel
theorem dX9_safe_31 : decode cX9_safe 31 = .ok (.iconst 0, 1) := by decide +kernel
theorem dX9_safe_32 : decode cX9_safe 32 = .ok (.invokevirtual 296, 3) := by decide +kernel
theorem dX9_safe_35 : decode cX9_safe 35 = .ok (.ireturn, 1) := by decide +kernel
theorem dX9_demand_0 : decode cX9_demand 0 = .ok (.iload_n 1, 1) := by decide +kernel
theorem dX9_demand_1 : decode cX9_demand 1 = .ok (.invokestatic 46, 3) := by decide +kernel
theorem dX9_demand_4 : decode cX9_demand 4 = .ok (.ifCond .eq 28, 3) := by decide +kernel
theorem dX9_demand_7 : decode cX9_demand 7 = .ok (.iload_n 2, 1) := by decide +kernel
theorem dX9_demand_8 : decode cX9_demand 8 = .ok (.ifCond .eq 24, 3) := by decide +kernel
theorem dX9_demand_11 : decode cX9_demand 11 = .ok (.iload_n 2, 1) := by decide +kernel
theorem dX9_demand_12 : decode cX9_demand 12 = .ok (.aload_n 0, 1) := by decide +kernel
theorem dX9_demand_13 : decode cX9_demand 13 = .ok (.getfield 10, 3) := by decide +kernel
theorem dX9_demand_16 : decode cX9_demand 16 = .ok (.invokevirtual 252, 3) := by decide +kernel
theorem dX9_demand_19 : decode cX9_demand 19 = .ok (.iconst (-1), 1) := by decide +kernel
theorem dX9_demand_20 : decode cX9_demand 20 = .ok (.ixor, 1) := by decide +kernel
theorem dX9_demand_21 : decode cX9_demand 21 = .ok (.iand, 1) := by decide +kernel
theorem dX9_demand_22 : decode cX9_demand 22 = .ok (.ifCond .ne 10, 3) := by decide +kernel
theorem dX9_demand_25 : decode cX9_demand 25 = .ok (.iload_n 3, 1) := by decide +kernel
theorem dX9_demand_26 : decode cX9_demand 26 = .ok (.invokestatic 68, 3) := by decide +kernel
theorem dX9_demand_29 : decode cX9_demand 29 = .ok (.ifCond .ne 5, 3) := by decide +kernel
theorem dX9_demand_32 : decode cX9_demand 32 = .ok (.iconst (-1), 1) := by decide +kernel
theorem dX9_demand_33 : decode cX9_demand 33 = .ok (.ireturn, 1) := by decide +kernel
theorem dX9_demand_34 : decode cX9_demand 34 = .ok (.aload_n 0, 1) := by decide +kernel
theorem dX9_demand_35 : decode cX9_demand 35 = .ok (.getfield 10, 3) := by decide +kernel
theorem dX9_demand_38 : decode cX9_demand 38 = .ok (.getfield 217, 3) := by decide +kernel
theorem dX9_demand_41 : decode cX9_demand 41 = .ok (.bipush 8, 2) := by decide +kernel
theorem dX9_demand_43 : decode cX9_demand 43 = .ok (.if_icmp .lt 6, 3) := by decide +kernel
theorem dX9_demand_46 : decode cX9_demand 46 = .ok (.bipush (-3), 2) := by decide +kernel
theorem dX9_demand_48 : decode cX9_demand 48 = .ok (.ireturn, 1) := by decide +kernel
theorem dX9_demand_49 : decode cX9_demand 49 = .ok (.aload_n 0, 1) := by decide +kernel
theorem dX9_demand_50 : decode cX9_demand 50 = .ok (.getfield 10, 3) := by decide +kernel
theorem dX9_demand_53 : decode cX9_demand 53 = .ok (.getfield 300, 3) := by decide +kernel
theorem dX9_demand_56 : decode cX9_demand 56 = .ok (.aload_n 0, 1) := by decide +kernel
theorem dX9_demand_57 : decode cX9_demand 57 = .ok (.getfield 10, 3) := by decide +kernel
theorem dX9_demand_60 : decode cX9_demand 60 = .ok (.getfield 217, 3) := by decide +kernel
theorem dX9_demand_63 : decode cX9_demand 63 = .ok (.aaload, 1) := by decide +kernel
theorem dX9_demand_64 : decode cX9_demand 64 = .ok (.iload_n 1, 1) := by decide +kernel
theorem dX9_demand_65 : decode cX9_demand 65 = .ok (.iload_n 2, 1) := by decide +kernel
theorem dX9_demand_66 : decode cX9_demand 66 = .ok (.iload_n 3, 1) := by decide +kernel
theorem dX9_demand_67 : decode cX9_demand 67 = .ok (.invokevirtual 304, 3) := by decide +kernel
theorem dX9_demand_70 : decode cX9_demand 70 = .ok (.aload_n 0, 1) := by decide +kernel
theorem dX9_demand_71 : decode cX9_demand 71 = .ok (.getfield 10, 3) := by decide +kernel
theorem dX9_demand_74 : decode cX9_demand 74 = .ok (.dup, 1) := by decide +kernel
theorem dX9_demand_75 : decode cX9_demand 75 = .ok (.getfield 217, 3) := by decide +kernel
theorem dX9_demand_78 : decode cX9_demand 78 = .ok (.iconst 1, 1) := by decide +kernel
theorem dX9_demand_79 : decode cX9_demand 79 = .ok (.iadd, 1) := by decide +kernel
theorem dX9_demand_80 : decode cX9_demand 80 = .ok (.putfield 217, 3) := by decide +kernel
theorem dX9_demand_83 : decode cX9_demand 83 = .ok (.aload_n 0, 1) := by decide +kernel
theorem dX9_demand_84 : decode cX9_demand 84 = .ok (.getfield 10, 3) := by decide +kernel
theorem dX9_demand_87 : decode cX9_demand 87 = .ok (.getfield 217, 3) := by decide +kernel
theorem dX9_demand_90 : decode cX9_demand 90 = .ok (.iconst 1, 1) := by decide +kernel
theorem dX9_demand_91 : decode cX9_demand 91 = .ok (.isub, 1) := by decide +kernel
theorem dX9_demand_92 : decode cX9_demand 92 = .ok (.ireturn, 1) := by decide +kernel
theorem dX9_ahead_0 : decode cX9_ahead 0 = .ok (.iload_n 1, 1) := by decide +kernel
theorem dX9_ahead_1 : decode cX9_ahead 1 = .ok (.ifCond .ge 5, 3) := by decide +kernel
theorem dX9_ahead_4 : decode cX9_ahead 4 = .ok (.iconst (-1), 1) := by decide +kernel
theorem dX9_ahead_5 : decode cX9_ahead 5 = .ok (.ireturn, 1) := by decide +kernel
theorem dX9_ahead_6 : decode cX9_ahead 6 = .ok (.aload_n 0, 1) := by decide +kernel
theorem dX9_ahead_7 : decode cX9_ahead 7 = .ok (.getfield 10, 3) := by decide +kernel
theorem dX9_ahead_10 : decode cX9_ahead 10 = .ok (.invokevirtual 280, 3) := by decide +kernel
theorem dX9_ahead_13 : decode cX9_ahead 13 = .ok (.aload_n 0, 1) := by decide +kernel
theorem dX9_ahead_14 : decode cX9_ahead 14 = .ok (.getfield 10, 3) := by decide +kernel
theorem dX9_ahead_17 : decode cX9_ahead 17 = .ok (.invokevirtual 308, 3) := by decide +kernel
theorem dX9_ahead_20 : decode cX9_ahead 20 = .ok (.iconst 0, 1) := by decide +kernel
theorem dX9_ahead_21 : decode cX9_ahead 21 = .ok (.istore_n 2, 1) := by decide +kernel
theorem dX9_ahead_22 : decode cX9_ahead 22 = .ok (.iload_n 2, 1) := by decide +kernel
theorem dX9_ahead_23 : decode cX9_ahead 23 = .ok (.aload_n 0, 1) := by decide +kernel
theorem dX9_ahead_24 : decode cX9_ahead 24 = .ok (.getfield 10, 3) := by decide +kernel
theorem dX9_ahead_27 : decode cX9_ahead 27 = .ok (.getfield 217, 3) := by decide +kernel
theorem dX9_ahead_30 : decode cX9_ahead 30 = .ok (.if_icmp .ge 38, 3) := by decide +kernel
theorem dX9_ahead_33 : decode cX9_ahead 33 = .ok (.aload_n 0, 1) := by decide +kernel
theorem dX9_ahead_34 : decode cX9_ahead 34 = .ok (.getfield 10, 3) := by decide +kernel
theorem dX9_ahead_37 : decode cX9_ahead 37 = .ok (.getfield 300, 3) := by decide +kernel
theorem dX9_ahead_40 : decode cX9_ahead 40 = .ok (.iload_n 2, 1) := by decide +kernel
theorem dX9_ahead_41 : decode cX9_ahead 41 = .ok (.aaload, 1) := by decide +kernel
theorem dX9_ahead_42 : decode cX9_ahead 42 = .ok (.getfield 311, 3) := by decide +kernel
theorem dX9_ahead_45 : decode cX9_ahead 45 = .ok (.ifCond .eq 17, 3) := by decide +kernel
theorem dX9_ahead_48 : decode cX9_ahead 48 = .ok (.aload_n 0, 1) := by decide +kernel
theorem dX9_ahead_49 : decode cX9_ahead 49 = .ok (.getfield 10, 3) := by decide +kernel
theorem dX9_ahead_52 : decode cX9_ahead 52 = .ok (.iload_n 2, 1) := by decide +kernel
theorem dX9_ahead_53 : decode cX9_ahead 53 = .ok (.invokevirtual 314, 3) := by decide +kernel
theorem dX9_ahead_56 : decode cX9_ahead 56 = .ok (.iload_n 1, 1) := by decide +kernel
theorem dX9_ahead_57 : decode cX9_ahead 57 = .ok (.if_icmp .ne 5, 3) := by decide +kernel
theorem dX9_ahead_60 : decode cX9_ahead 60 = .ok (.iload_n 2, 1) := by decide +kernel
theorem dX9_ahead_61 : decode cX9_ahead 61 = .ok (.ireturn, 1) := by decide +kernel
theorem dX9_ahead_62 : decode cX9_ahead 62 = .ok (.iinc 2 1, 3) := by decide +kernel
theorem dX9_ahead_65 : decode cX9_ahead 65 = .ok (.goto (-43), 3) := by decide +kernel
theorem dX9_ahead_68 : decode cX9_ahead 68 = .ok (.bipush (-4), 2) := by decide +kernel
theorem dX9_ahead_70 : decode cX9_ahead 70 = .ok (.ireturn, 1) := by decide +kernel
theorem dX9_promises_0 : decode cX9_promises 0 = .ok (.iload_n 1, 1) := by decide +kernel
theorem dX9_promises_1 : decode cX9_promises 1 = .ok (.invokestatic 46, 3) := by decide +kernel
theorem dX9_promises_4 : decode cX9_promises 4 = .ok (.ifCond .eq 11, 3) := by decide +kernel
theorem dX9_promises_7 : decode cX9_promises 7 = .ok (.aload_n 0, 1) := by decide +kernel
theorem dX9_promises_8 : decode cX9_promises 8 = .ok (.iload_n 2, 1) := by decide +kernel
theorem dX9_promises_9 : decode cX9_promises 9 = .ok (.invokevirtual 179, 3) := by decide +kernel
theorem dX9_promises_12 : decode cX9_promises 12 = .ok (.ifCond .ne 5, 3) := by decide +kernel
theorem dX9_promises_15 : decode cX9_promises 15 = .ok (.iconst (-1), 1) := by decide +kernel
theorem dX9_promises_16 : decode cX9_promises 16 = .ok (.ireturn, 1) := by decide +kernel
theorem dX9_promises_17 : decode cX9_promises 17 = .ok (.aload_n 0, 1) := by decide +kernel
theorem dX9_promises_18 : decode cX9_promises 18 = .ok (.getfield 10, 3) := by decide +kernel
theorem dX9_promises_21 : decode cX9_promises 21 = .ok (.invokevirtual 280, 3) := by decide +kernel
theorem dX9_promises_24 : decode cX9_promises 24 = .ok (.bipush (-4), 2) := by decide +kernel
theorem dX9_promises_26 : decode cX9_promises 26 = .ok (.istore_n 3, 1) := by decide +kernel
theorem dX9_promises_27 : decode cX9_promises 27 = .ok (.iconst 0, 1) := by decide +kernel
theorem dX9_promises_28 : decode cX9_promises 28 = .ok (.istore 4, 2) := by decide +kernel
theorem dX9_promises_30 : decode cX9_promises 30 = .ok (.iload 4, 2) := by decide +kernel
theorem dX9_promises_32 : decode cX9_promises 32 = .ok (.aload_n 0, 1) := by decide +kernel
theorem dX9_promises_33 : decode cX9_promises 33 = .ok (.getfield 10, 3) := by decide +kernel
theorem dX9_promises_36 : decode cX9_promises 36 = .ok (.getfield 119, 3) := by decide +kernel
theorem dX9_promises_39 : decode cX9_promises 39 = .ok (.if_icmp .ge 67, 3) := by decide +kernel
theorem dX9_promises_42 : decode cX9_promises 42 = .ok (.aload_n 0, 1) := by decide +kernel
theorem dX9_promises_43 : decode cX9_promises 43 = .ok (.getfield 10, 3) := by decide +kernel
theorem dX9_promises_46 : decode cX9_promises 46 = .ok (.getfield 90, 3) := by decide +kernel
theorem dX9_promises_49 : decode cX9_promises 49 = .ok (.iload 4, 2) := by decide +kernel
theorem dX9_promises_51 : decode cX9_promises 51 = .ok (.aaload, 1) := by decide +kernel
theorem dX9_promises_52 : decode cX9_promises 52 = .ok (.astore 5, 2) := by decide +kernel
theorem dX9_promises_54 : decode cX9_promises 54 = .ok (.aload 5, 2) := by decide +kernel
theorem dX9_promises_56 : decode cX9_promises 56 = .ok (.getfield 162, 3) := by decide +kernel
theorem dX9_promises_59 : decode cX9_promises 59 = .ok (.iload_n 1, 1) := by decide +kernel
theorem dX9_promises_60 : decode cX9_promises 60 = .ok (.if_icmp .ne 40, 3) := by decide +kernel
theorem dX9_promises_63 : decode cX9_promises 63 = .ok (.aload_n 0, 1) := by decide +kernel
theorem dX9_promises_64 : decode cX9_promises 64 = .ok (.getfield 10, 3) := by decide +kernel
theorem dX9_promises_67 : decode cX9_promises 67 = .ok (.getfield 220, 3) := by decide +kernel
theorem dX9_promises_70 : decode cX9_promises 70 = .ok (.aload 5, 2) := by decide +kernel
theorem dX9_promises_72 : decode cX9_promises 72 = .ok (.invokevirtual 262, 3) := by decide +kernel
theorem dX9_promises_75 : decode cX9_promises 75 = .ok (.iload_n 2, 1) := by decide +kernel
theorem dX9_promises_76 : decode cX9_promises 76 = .ok (.ishr, 1) := by decide +kernel
theorem dX9_promises_77 : decode cX9_promises 77 = .ok (.iconst 1, 1) := by decide +kernel
theorem dX9_promises_78 : decode cX9_promises 78 = .ok (.iand, 1) := by decide +kernel
theorem dX9_promises_79 : decode cX9_promises 79 = .ok (.ifCond .eq 21, 3) := by decide +kernel
theorem dX9_promises_82 : decode cX9_promises 82 = .ok (.aload 5, 2) := by decide +kernel
theorem dX9_promises_84 : decode cX9_promises 84 = .ok (.getfield 176, 3) := by decide +kernel
theorem dX9_promises_87 : decode cX9_promises 87 = .ok (.iload_n 3, 1) := by decide +kernel
theorem dX9_promises_88 : decode cX9_promises 88 = .ok (.invokestatic 317, 3) := by decide +kernel
theorem dX9_promises_91 : decode cX9_promises 91 = .ok (.ifCond .eq 9, 3) := by decide +kernel
theorem dX9_promises_94 : decode cX9_promises 94 = .ok (.aload 5, 2) := by decide +kernel
theorem dX9_promises_96 : decode cX9_promises 96 = .ok (.getfield 176, 3) := by decide +kernel
theorem dX9_promises_99 : decode cX9_promises 99 = .ok (.istore_n 3, 1) := by decide +kernel
theorem dX9_promises_100 : decode cX9_promises 100 = .ok (.iinc 4 1, 3) := by decide +kernel
theorem dX9_promises_103 : decode cX9_promises 103 = .ok (.goto (-73), 3) := by decide +kernel
theorem dX9_promises_106 : decode cX9_promises 106 = .ok (.iload_n 3, 1) := by decide +kernel
theorem dX9_promises_107 : decode cX9_promises 107 = .ok (.ireturn, 1) := by decide +kernel
theorem dX9_mended_0 : decode cX9_mended 0 = .ok (.iload_n 1, 1) := by decide +kernel
theorem dX9_mended_1 : decode cX9_mended 1 = .ok (.invokestatic 46, 3) := by decide +kernel
theorem dX9_mended_4 : decode cX9_mended 4 = .ok (.ifCond .eq 11, 3) := by decide +kernel
theorem dX9_mended_7 : decode cX9_mended 7 = .ok (.aload_n 0, 1) := by decide +kernel
theorem dX9_mended_8 : decode cX9_mended 8 = .ok (.iload_n 2, 1) := by decide +kernel
theorem dX9_mended_9 : decode cX9_mended 9 = .ok (.invokevirtual 179, 3) := by decide +kernel
theorem dX9_mended_12 : decode cX9_mended 12 = .ok (.ifCond .ne 5, 3) := by decide +kernel
theorem dX9_mended_15 : decode cX9_mended 15 = .ok (.iconst (-1), 1) := by decide +kernel
theorem dX9_mended_16 : decode cX9_mended 16 = .ok (.ireturn, 1) := by decide +kernel
theorem dX9_mended_17 : decode cX9_mended 17 = .ok (.aload_n 0, 1) := by decide +kernel
theorem dX9_mended_18 : decode cX9_mended 18 = .ok (.getfield 10, 3) := by decide +kernel
theorem dX9_mended_21 : decode cX9_mended 21 = .ok (.iload_n 2, 1) := by decide +kernel
theorem dX9_mended_22 : decode cX9_mended 22 = .ok (.invokevirtual 321, 3) := by decide +kernel
theorem dX9_mended_25 : decode cX9_mended 25 = .ok (.aload_n 0, 1) := by decide +kernel
theorem dX9_mended_26 : decode cX9_mended 26 = .ok (.getfield 24, 3) := by decide +kernel
theorem dX9_mended_29 : decode cX9_mended 29 = .ok (.iload_n 1, 1) := by decide +kernel
theorem dX9_mended_30 : decode cX9_mended 30 = .ok (.iload_n 2, 1) := by decide +kernel
theorem dX9_mended_31 : decode cX9_mended 31 = .ok (.invokevirtual 324, 3) := by decide +kernel
theorem dX9_mended_34 : decode cX9_mended 34 = .ok (.ireturn, 1) := by decide +kernel
theorem dX9_part_0 : decode cX9_part 0 = .ok (.iload_n 1, 1) := by decide +kernel
theorem dX9_part_1 : decode cX9_part 1 = .ok (.invokestatic 46, 3) := by decide +kernel
theorem dX9_part_4 : decode cX9_part 4 = .ok (.ifCond .eq 24, 3) := by decide +kernel
theorem dX9_part_7 : decode cX9_part 7 = .ok (.iload_n 2, 1) := by decide +kernel
theorem dX9_part_8 : decode cX9_part 8 = .ok (.invokestatic 46, 3) := by decide +kernel
theorem dX9_part_11 : decode cX9_part 11 = .ok (.ifCond .eq 17, 3) := by decide +kernel
theorem dX9_part_14 : decode cX9_part 14 = .ok (.iload_n 1, 1) := by decide +kernel
theorem dX9_part_15 : decode cX9_part 15 = .ok (.iload_n 2, 1) := by decide +kernel
theorem dX9_part_16 : decode cX9_part 16 = .ok (.if_icmp .eq 12, 3) := by decide +kernel
theorem dX9_part_19 : decode cX9_part 19 = .ok (.iload_n 3, 1) := by decide +kernel
theorem dX9_part_20 : decode cX9_part 20 = .ok (.ifCond .lt 8, 3) := by decide +kernel
theorem dX9_part_23 : decode cX9_part 23 = .ok (.iload_n 3, 1) := by decide +kernel
theorem dX9_part_24 : decode cX9_part 24 = .ok (.iconst 1, 1) := by decide +kernel
theorem dX9_part_25 : decode cX9_part 25 = .ok (.if_icmp .le 5, 3) := by decide +kernel
theorem dX9_part_28 : decode cX9_part 28 = .ok (.iconst (-1), 1) := by decide +kernel
theorem dX9_part_29 : decode cX9_part 29 = .ok (.ireturn, 1) := by decide +kernel
theorem dX9_part_30 : decode cX9_part 30 = .ok (.bipush (-4), 2) := by decide +kernel
theorem dX9_part_32 : decode cX9_part 32 = .ok (.istore 4, 2) := by decide +kernel
theorem dX9_part_34 : decode cX9_part 34 = .ok (.iconst 0, 1) := by decide +kernel
theorem dX9_part_35 : decode cX9_part 35 = .ok (.istore 5, 2) := by decide +kernel
theorem dX9_part_37 : decode cX9_part 37 = .ok (.bipush 63, 2) := by decide +kernel
theorem dX9_part_39 : decode cX9_part 39 = .ok (.istore 6, 2) := by decide +kernel
theorem dX9_part_41 : decode cX9_part 41 = .ok (.iload 6, 2) := by decide +kernel
theorem dX9_part_43 : decode cX9_part 43 = .ok (.iconst 1, 1) := by decide +kernel
theorem dX9_part_44 : decode cX9_part 44 = .ok (.if_icmp .lt 42, 3) := by decide +kernel
theorem dX9_part_47 : decode cX9_part 47 = .ok (.aload_n 0, 1) := by decide +kernel
theorem dX9_part_48 : decode cX9_part 48 = .ok (.getfield 10, 3) := by decide +kernel
theorem dX9_part_51 : decode cX9_part 51 = .ok (.iload 6, 2) := by decide +kernel
theorem dX9_part_53 : decode cX9_part 53 = .ok (.invokevirtual 327, 3) := by decide +kernel
theorem dX9_part_56 : decode cX9_part 56 = .ok (.istore 7, 2) := by decide +kernel
theorem dX9_part_58 : decode cX9_part 58 = .ok (.iload 7, 2) := by decide +kernel
theorem dX9_part_60 : decode cX9_part 60 = .ok (.iload_n 1, 1) := by decide +kernel
theorem dX9_part_61 : decode cX9_part 61 = .ok (.ishr, 1) := by decide +kernel
theorem dX9_part_62 : decode cX9_part 62 = .ok (.iconst 1, 1) := by decide +kernel
theorem dX9_part_63 : decode cX9_part 63 = .ok (.iand, 1) := by decide +kernel
theorem dX9_part_64 : decode cX9_part 64 = .ok (.iload 7, 2) := by decide +kernel
theorem dX9_part_66 : decode cX9_part 66 = .ok (.iload_n 2, 1) := by decide +kernel
theorem dX9_part_67 : decode cX9_part 67 = .ok (.ishr, 1) := by decide +kernel
theorem dX9_part_68 : decode cX9_part 68 = .ok (.iconst 1, 1) := by decide +kernel
theorem dX9_part_69 : decode cX9_part 69 = .ok (.iand, 1) := by decide +kernel
theorem dX9_part_70 : decode cX9_part 70 = .ok (.if_icmp .eq 10, 3) := by decide +kernel
theorem dX9_part_73 : decode cX9_part 73 = .ok (.iload 6, 2) := by decide +kernel
theorem dX9_part_75 : decode cX9_part 75 = .ok (.istore 4, 2) := by decide +kernel
theorem dX9_part_77 : decode cX9_part 77 = .ok (.iinc 5 1, 3) := by decide +kernel
theorem dX9_part_80 : decode cX9_part 80 = .ok (.iinc 6 (-1), 3) := by decide +kernel
theorem dX9_part_83 : decode cX9_part 83 = .ok (.goto (-42), 3) := by decide +kernel
theorem dX9_part_86 : decode cX9_part 86 = .ok (.iload_n 3, 1) := by decide +kernel
theorem dX9_part_87 : decode cX9_part 87 = .ok (.ifCond .ne 8, 3) := by decide +kernel
theorem dX9_part_90 : decode cX9_part 90 = .ok (.iload 4, 2) := by decide +kernel
theorem dX9_part_92 : decode cX9_part 92 = .ok (.goto 5, 3) := by decide +kernel
theorem dX9_part_95 : decode cX9_part 95 = .ok (.iload 5, 2) := by decide +kernel
theorem dX9_part_97 : decode cX9_part 97 = .ok (.ireturn, 1) := by decide +kernel
theorem dX9_image_0 : decode cX9_image 0 = .ok (.aload_n 0, 1) := by decide +kernel
theorem dX9_image_1 : decode cX9_image 1 = .ok (.getfield 16, 3) := by decide +kernel
theorem dX9_image_4 : decode cX9_image 4 = .ok (.aload_n 0, 1) := by decide +kernel
theorem dX9_image_5 : decode cX9_image 5 = .ok (.getfield 10, 3) := by decide +kernel
theorem dX9_image_8 : decode cX9_image 8 = .ok (.invokevirtual 330, 3) := by decide +kernel
theorem dX9_image_11 : decode cX9_image 11 = .ok (.aload_n 0, 1) := by decide +kernel
theorem dX9_image_12 : decode cX9_image 12 = .ok (.iconst 1, 1) := by decide +kernel
theorem dX9_image_13 : decode cX9_image 13 = .ok (.putfield 42, 3) := by decide +kernel
theorem dX9_image_16 : decode cX9_image 16 = .ok (.iconst 1, 1) := by decide +kernel
theorem dX9_image_17 : decode cX9_image 17 = .ok (.ireturn, 1) := by decide +kernel
theorem dX9_restore_0 : decode cX9_restore 0 = .ok (.aload_n 0, 1) := by decide +kernel
theorem dX9_restore_1 : decode cX9_restore 1 = .ok (.getfield 42, 3) := by decide +kernel
theorem dX9_restore_4 : decode cX9_restore 4 = .ok (.ifCond .ne 6, 3) := by decide +kernel
theorem dX9_restore_7 : decode cX9_restore 7 = .ok (.bipush (-4), 2) := by decide +kernel
theorem dX9_restore_9 : decode cX9_restore 9 = .ok (.ireturn, 1) := by decide +kernel
theorem dX9_restore_10 : decode cX9_restore 10 = .ok (.aload_n 0, 1) := by decide +kernel
theorem dX9_restore_11 : decode cX9_restore 11 = .ok (.getfield 10, 3) := by decide +kernel
theorem dX9_restore_14 : decode cX9_restore 14 = .ok (.aload_n 0, 1) := by decide +kernel
theorem dX9_restore_15 : decode cX9_restore 15 = .ok (.getfield 16, 3) := by decide +kernel
theorem dX9_restore_18 : decode cX9_restore 18 = .ok (.invokevirtual 330, 3) := by decide +kernel
theorem dX9_restore_21 : decode cX9_restore 21 = .ok (.iconst 1, 1) := by decide +kernel
theorem dX9_restore_22 : decode cX9_restore 22 = .ok (.ireturn, 1) := by decide +kernel
theorem dX9_sheet_0 : decode cX9_sheet 0 = .ok (.iload_n 1, 1) := by decide +kernel
theorem dX9_sheet_1 : decode cX9_sheet 1 = .ok (.invokestatic 195, 3) := by decide +kernel
theorem dX9_sheet_4 : decode cX9_sheet 4 = .ok (.ifCond .eq 16, 3) := by decide +kernel
theorem dX9_sheet_7 : decode cX9_sheet 7 = .ok (.iload_n 2, 1) := by decide +kernel
theorem dX9_sheet_8 : decode cX9_sheet 8 = .ok (.invokestatic 198, 3) := by decide +kernel
theorem dX9_sheet_11 : decode cX9_sheet 11 = .ok (.ifCond .eq 9, 3) := by decide +kernel
theorem dX9_sheet_14 : decode cX9_sheet 14 = .ok (.iload_n 3, 1) := by decide +kernel
theorem dX9_sheet_15 : decode cX9_sheet 15 = .ok (.bipush 16, 2) := by decide +kernel
theorem dX9_sheet_17 : decode cX9_sheet 17 = .ok (.if_icmp .le 5, 3) := by decide +kernel
theorem dX9_sheet_20 : decode cX9_sheet 20 = .ok (.iconst (-1), 1) := by decide +kernel
theorem dX9_sheet_21 : decode cX9_sheet 21 = .ok (.ireturn, 1) := by decide +kernel
theorem dX9_sheet_22 : decode cX9_sheet 22 = .ok (.iload_n 3, 1) := by decide +kernel
theorem dX9_sheet_23 : decode cX9_sheet 23 = .ok (.ifCond .ge 6, 3) := by decide +kernel
theorem dX9_sheet_26 : decode cX9_sheet 26 = .ok (.bipush (-14), 2) := by decide +kernel
theorem dX9_sheet_28 : decode cX9_sheet 28 = .ok (.ireturn, 1) := by decide +kernel
theorem dX9_sheet_29 : decode cX9_sheet 29 = .ok (.aload_n 0, 1) := by decide +kernel
theorem dX9_sheet_30 : decode cX9_sheet 30 = .ok (.getfield 37, 3) := by decide +kernel
theorem dX9_sheet_33 : decode cX9_sheet 33 = .ok (.iload_n 1, 1) := by decide +kernel
theorem dX9_sheet_34 : decode cX9_sheet 34 = .ok (.aaload, 1) := by decide +kernel
theorem dX9_sheet_35 : decode cX9_sheet 35 = .ok (.iload_n 2, 1) := by decide +kernel
theorem dX9_sheet_36 : decode cX9_sheet 36 = .ok (.iload_n 3, 1) := by decide +kernel
theorem dX9_sheet_37 : decode cX9_sheet 37 = .ok (.invokevirtual 332, 3) := by decide +kernel
theorem dX9_sheet_40 : decode cX9_sheet 40 = .ok (.iload_n 3, 1) := by decide +kernel
theorem dX9_sheet_41 : decode cX9_sheet 41 = .ok (.ireturn, 1) := by decide +kernel
theorem dX9_drop_0 : decode cX9_drop 0 = .ok (.iload_n 1, 1) := by decide +kernel
theorem dX9_drop_1 : decode cX9_drop 1 = .ok (.invokestatic 195, 3) := by decide +kernel
theorem dX9_drop_4 : decode cX9_drop 4 = .ok (.ifCond .ne 5, 3) := by decide +kernel
theorem dX9_drop_7 : decode cX9_drop 7 = .ok (.iconst (-1), 1) := by decide +kernel
theorem dX9_drop_8 : decode cX9_drop 8 = .ok (.ireturn, 1) := by decide +kernel
theorem dX9_drop_9 : decode cX9_drop 9 = .ok (.aload_n 0, 1) := by decide +kernel
theorem dX9_drop_10 : decode cX9_drop 10 = .ok (.getfield 37, 3) := by decide +kernel
theorem dX9_drop_13 : decode cX9_drop 13 = .ok (.iload_n 1, 1) := by decide +kernel
theorem dX9_drop_14 : decode cX9_drop 14 = .ok (.aaload, 1) := by decide +kernel
theorem dX9_drop_15 : decode cX9_drop 15 = .ok (.astore_n 2, 1) := by decide +kernel
theorem dX9_drop_16 : decode cX9_drop 16 = .ok (.aload_n 2, 1) := by decide +kernel
theorem dX9_drop_17 : decode cX9_drop 17 = .ok (.getfield 336, 3) := by decide +kernel
theorem dX9_drop_20 : decode cX9_drop 20 = .ok (.iconst (-1), 1) := by decide +kernel
theorem dX9_drop_21 : decode cX9_drop 21 = .ok (.if_icmp .ne 6, 3) := by decide +kernel
theorem dX9_drop_24 : decode cX9_drop 24 = .ok (.bipush (-11), 2) := by decide +kernel
theorem dX9_drop_26 : decode cX9_drop 26 = .ok (.ireturn, 1) := by decide +kernel
theorem dX9_drop_27 : decode cX9_drop 27 = .ok (.aload_n 2, 1) := by decide +kernel
theorem dX9_drop_28 : decode cX9_drop 28 = .ok (.iconst (-1), 1) := by decide +kernel
theorem dX9_drop_29 : decode cX9_drop 29 = .ok (.putfield 336, 3) := by decide +kernel
theorem dX9_drop_32 : decode cX9_drop 32 = .ok (.aload_n 2, 1) := by decide +kernel
theorem dX9_drop_33 : decode cX9_drop 33 = .ok (.getfield 204, 3) := by decide +kernel
theorem dX9_drop_36 : decode cX9_drop 36 = .ok (.ireturn, 1) := by decide +kernel
theorem dX9_item_0 : decode cX9_item 0 = .ok (.iload_n 1, 1) := by decide +kernel
theorem dX9_item_1 : decode cX9_item 1 = .ok (.invokestatic 195, 3) := by decide +kernel
theorem dX9_item_4 : decode cX9_item 4 = .ok (.ifCond .eq 10, 3) := by decide +kernel
theorem dX9_item_7 : decode cX9_item 7 = .ok (.iload_n 2, 1) := by decide +kernel
theorem dX9_item_8 : decode cX9_item 8 = .ok (.invokestatic 198, 3) := by decide +kernel
theorem dX9_item_11 : decode cX9_item 11 = .ok (.ifCond .ne 5, 3) := by decide +kernel
theorem dX9_item_14 : decode cX9_item 14 = .ok (.iconst (-1), 1) := by decide +kernel
theorem dX9_item_15 : decode cX9_item 15 = .ok (.ireturn, 1) := by decide +kernel
theorem dX9_item_16 : decode cX9_item 16 = .ok (.aload_n 0, 1) := by decide +kernel
theorem dX9_item_17 : decode cX9_item 17 = .ok (.getfield 37, 3) := by decide +kernel
theorem dX9_item_20 : decode cX9_item 20 = .ok (.iload_n 1, 1) := by decide +kernel
theorem dX9_item_21 : decode cX9_item 21 = .ok (.aaload, 1) := by decide +kernel
theorem dX9_item_22 : decode cX9_item 22 = .ok (.astore 5, 2) := by decide +kernel
theorem dX9_item_24 : decode cX9_item 24 = .ok (.aload 5, 2) := by decide +kernel
theorem dX9_item_26 : decode cX9_item 26 = .ok (.iload_n 2, 1) := by decide +kernel
theorem dX9_item_27 : decode cX9_item 27 = .ok (.invokevirtual 201, 3) := by decide +kernel
theorem dX9_item_30 : decode cX9_item 30 = .ok (.istore 6, 2) := by decide +kernel
theorem dX9_item_32 : decode cX9_item 32 = .ok (.iload 6, 2) := by decide +kernel
theorem dX9_item_34 : decode cX9_item 34 = .ok (.ifCond .eq 6, 3) := by decide +kernel
theorem dX9_item_37 : decode cX9_item 37 = .ok (.iload 6, 2) := by decide +kernel
theorem dX9_item_39 : decode cX9_item 39 = .ok (.ireturn, 1) := by decide +kernel
theorem dX9_item_40 : decode cX9_item 40 = .ok (.iload_n 3, 1) := by decide +kernel
theorem dX9_item_41 : decode cX9_item 41 = .ok (.ifCond .lt 12, 3) := by decide +kernel
theorem dX9_item_44 : decode cX9_item 44 = .ok (.iload_n 3, 1) := by decide +kernel
theorem dX9_item_45 : decode cX9_item 45 = .ok (.aload 5, 2) := by decide +kernel
theorem dX9_item_47 : decode cX9_item 47 = .ok (.getfield 204, 3) := by decide +kernel
theorem dX9_item_50 : decode cX9_item 50 = .ok (.if_icmp .lt 6, 3) := by decide +kernel
theorem dX9_item_53 : decode cX9_item 53 = .ok (.bipush (-13), 2) := by decide +kernel
theorem dX9_item_55 : decode cX9_item 55 = .ok (.ireturn, 1) := by decide +kernel
theorem dX9_item_56 : decode cX9_item 56 = .ok (.aload 5, 2) := by decide +kernel
theorem dX9_item_58 : decode cX9_item 58 = .ok (.iload_n 3, 1) := by decide +kernel
theorem dX9_item_59 : decode cX9_item 59 = .ok (.iload 4, 2) := by decide +kernel
theorem dX9_item_61 : decode cX9_item 61 = .ok (.invokevirtual 339, 3) := by decide +kernel
theorem dX9_item_64 : decode cX9_item 64 = .ok (.iconst 1, 1) := by decide +kernel
theorem dX9_item_65 : decode cX9_item 65 = .ok (.ireturn, 1) := by decide +kernel
theorem dX9_isLand_0 : decode cX9_isLand 0 = .ok (.iload_n 0, 1) := by decide +kernel
theorem dX9_isLand_1 : decode cX9_isLand 1 = .ok (.ifCond .lt 13, 3) := by decide +kernel
theorem dX9_isLand_4 : decode cX9_isLand 4 = .ok (.iload_n 0, 1) := by decide +kernel
theorem dX9_isLand_5 : decode cX9_isLand 5 = .ok (.bipush 6, 2) := by decide +kernel
theorem dX9_isLand_7 : decode cX9_isLand 7 = .ok (.if_icmp .ge 7, 3) := by decide +kernel
theorem dX9_isLand_10 : decode cX9_isLand 10 = .ok (.iconst 1, 1) := by decide +kernel
theorem dX9_isLand_11 : decode cX9_isLand 11 = .ok (.goto 4, 3) := by decide +kernel
theorem dX9_isLand_14 : decode cX9_isLand 14 = .ok (.iconst 0, 1) := by decide +kernel
theorem dX9_isLand_15 : decode cX9_isLand 15 = .ok (.ireturn, 1) := by decide +kernel
theorem dX9_isYear_0 : decode cX9_isYear 0 = .ok (.iload_n 0, 1) := by decide +kernel
theorem dX9_isYear_1 : decode cX9_isYear 1 = .ok (.ifCond .lt 13, 3) := by decide +kernel
theorem dX9_isYear_4 : decode cX9_isYear 4 = .ok (.iload_n 0, 1) := by decide +kernel
theorem dX9_isYear_5 : decode cX9_isYear 5 = .ok (.bipush 99, 2) := by decide +kernel
theorem dX9_isYear_7 : decode cX9_isYear 7 = .ok (.if_icmp .gt 7, 3) := by decide +kernel
theorem dX9_isYear_10 : decode cX9_isYear 10 = .ok (.iconst 1, 1) := by decide +kernel
theorem dX9_isYear_11 : decode cX9_isYear 11 = .ok (.goto 4, 3) := by decide +kernel
theorem dX9_isYear_14 : decode cX9_isYear 14 = .ok (.iconst 0, 1) := by decide +kernel
theorem dX9_isYear_15 : decode cX9_isYear 15 = .ok (.ireturn, 1) := by decide +kernel
theorem dX9_isSheet_0 : decode cX9_isSheet 0 = .ok (.iload_n 0, 1) := by decide +kernel
theorem dX9_isSheet_1 : decode cX9_isSheet 1 = .ok (.ifCond .lt 12, 3) := by decide +kernel
theorem dX9_isSheet_4 : decode cX9_isSheet 4 = .ok (.iload_n 0, 1) := by decide +kernel
theorem dX9_isSheet_5 : decode cX9_isSheet 5 = .ok (.iconst 4, 1) := by decide +kernel
theorem dX9_isSheet_6 : decode cX9_isSheet 6 = .ok (.if_icmp .ge 7, 3) := by decide +kernel
theorem dX9_isSheet_9 : decode cX9_isSheet 9 = .ok (.iconst 1, 1) := by decide +kernel
theorem dX9_isSheet_10 : decode cX9_isSheet 10 = .ok (.goto 4, 3) := by decide +kernel
theorem dX9_isSheet_13 : decode cX9_isSheet 13 = .ok (.iconst 0, 1) := by decide +kernel
theorem dX9_isSheet_14 : decode cX9_isSheet 14 = .ok (.ireturn, 1) := by decide +kernel
theorem dX9_isLane_0 : decode cX9_isLane 0 = .ok (.iload_n 0, 1) := by decide +kernel
theorem dX9_isLane_1 : decode cX9_isLane 1 = .ok (.ifCond .lt 12, 3) := by decide +kernel
theorem dX9_isLane_4 : decode cX9_isLane 4 = .ok (.iload_n 0, 1) := by decide +kernel
theorem dX9_isLane_5 : decode cX9_isLane 5 = .ok (.iconst 3, 1) := by decide +kernel
theorem dX9_isLane_6 : decode cX9_isLane 6 = .ok (.if_icmp .ge 7, 3) := by decide +kernel
theorem dX9_isLane_9 : decode cX9_isLane 9 = .ok (.iconst 1, 1) := by decide +kernel
theorem dX9_isLane_10 : decode cX9_isLane 10 = .ok (.goto 4, 3) := by decide +kernel
theorem dX9_isLane_13 : decode cX9_isLane 13 = .ok (.iconst 0, 1) := by decide +kernel
theorem dX9_isLane_14 : decode cX9_isLane 14 = .ok (.ireturn, 1) := by decide +kernel
theorem dX9_isDeed_0 : decode cX9_isDeed 0 = .ok (.iload_n 1, 1) := by decide +kernel
theorem dX9_isDeed_1 : decode cX9_isDeed 1 = .ok (.ifCond .lt 18, 3) := by decide +kernel
theorem dX9_isDeed_4 : decode cX9_isDeed 4 = .ok (.iload_n 1, 1) := by decide +kernel
theorem dX9_isDeed_5 : decode cX9_isDeed 5 = .ok (.aload_n 0, 1) := by decide +kernel
theorem dX9_isDeed_6 : decode cX9_isDeed 6 = .ok (.getfield 10, 3) := by decide +kernel
theorem dX9_isDeed_9 : decode cX9_isDeed 9 = .ok (.getfield 71, 3) := by decide +kernel
theorem dX9_isDeed_12 : decode cX9_isDeed 12 = .ok (.if_icmp .ge 7, 3) := by decide +kernel
theorem dX9_isDeed_15 : decode cX9_isDeed 15 = .ok (.iconst 1, 1) := by decide +kernel
theorem dX9_isDeed_16 : decode cX9_isDeed 16 = .ok (.goto 4, 3) := by decide +kernel
theorem dX9_isDeed_19 : decode cX9_isDeed 19 = .ok (.iconst 0, 1) := by decide +kernel
theorem dX9_isDeed_20 : decode cX9_isDeed 20 = .ok (.ireturn, 1) := by decide +kernel
theorem dX9_isPaper_0 : decode cX9_isPaper 0 = .ok (.iload_n 1, 1) := by decide +kernel
theorem dX9_isPaper_1 : decode cX9_isPaper 1 = .ok (.ifCond .lt 18, 3) := by decide +kernel
theorem dX9_isPaper_4 : decode cX9_isPaper 4 = .ok (.iload_n 1, 1) := by decide +kernel
theorem dX9_isPaper_5 : decode cX9_isPaper 5 = .ok (.aload_n 0, 1) := by decide +kernel
theorem dX9_isPaper_6 : decode cX9_isPaper 6 = .ok (.getfield 10, 3) := by decide +kernel
theorem dX9_isPaper_9 : decode cX9_isPaper 9 = .ok (.getfield 119, 3) := by decide +kernel
theorem dX9_isPaper_12 : decode cX9_isPaper 12 = .ok (.if_icmp .ge 7, 3) := by decide +kernel
theorem dX9_isPaper_15 : decode cX9_isPaper 15 = .ok (.iconst 1, 1) := by decide +kernel
theorem dX9_isPaper_16 : decode cX9_isPaper 16 = .ok (.goto 4, 3) := by decide +kernel
theorem dX9_isPaper_19 : decode cX9_isPaper 19 = .ok (.iconst 0, 1) := by decide +kernel
theorem dX9_isPaper_20 : decode cX9_isPaper 20 = .ok (.ireturn, 1) := by decide +kernel
theorem dX9_addPaper_0 : decode cX9_addPaper 0 = .ok (.iload_n 1, 1) := by decide +kernel
theorem dX9_addPaper_1 : decode cX9_addPaper 1 = .ok (.invokestatic 46, 3) := by decide +kernel
theorem dX9_addPaper_4 : decode cX9_addPaper 4 = .ok (.ifCond .eq 45, 3) := by decide +kernel
theorem dX9_addPaper_7 : decode cX9_addPaper 7 = .ok (.iload_n 2, 1) := by decide +kernel
theorem dX9_addPaper_8 : decode cX9_addPaper 8 = .ok (.invokestatic 46, 3) := by decide +kernel
theorem dX9_addPaper_11 : decode cX9_addPaper 11 = .ok (.ifCond .eq 38, 3) := by decide +kernel
theorem dX9_addPaper_14 : decode cX9_addPaper 14 = .ok (.iload_n 1, 1) := by decide +kernel
theorem dX9_addPaper_15 : decode cX9_addPaper 15 = .ok (.iload_n 2, 1) := by decide +kernel
theorem dX9_addPaper_16 : decode cX9_addPaper 16 = .ok (.if_icmp .eq 33, 3) := by decide +kernel
theorem dX9_addPaper_19 : decode cX9_addPaper 19 = .ok (.iload_n 3, 1) := by decide +kernel
theorem dX9_addPaper_20 : decode cX9_addPaper 20 = .ok (.ifCond .lt 29, 3) := by decide +kernel
theorem dX9_addPaper_23 : decode cX9_addPaper 23 = .ok (.iload_n 3, 1) := by decide +kernel
theorem dX9_addPaper_24 : decode cX9_addPaper 24 = .ok (.bipush 31, 2) := by decide +kernel
theorem dX9_addPaper_26 : decode cX9_addPaper 26 = .ok (.if_icmp .gt 23, 3) := by decide +kernel
theorem dX9_addPaper_29 : decode cX9_addPaper 29 = .ok (.iload 4, 2) := by decide +kernel
theorem dX9_addPaper_31 : decode cX9_addPaper 31 = .ok (.invokestatic 68, 3) := by decide +kernel
theorem dX9_addPaper_34 : decode cX9_addPaper 34 = .ok (.ifCond .eq 15, 3) := by decide +kernel
theorem dX9_addPaper_37 : decode cX9_addPaper 37 = .ok (.iload 5, 2) := by decide +kernel
theorem dX9_addPaper_39 : decode cX9_addPaper 39 = .ok (.ifCond .lt 10, 3) := by decide +kernel
theorem dX9_addPaper_42 : decode cX9_addPaper 42 = .ok (.iload 5, 2) := by decide +kernel
theorem dX9_addPaper_44 : decode cX9_addPaper 44 = .ok (.bipush 7, 2) := by decide +kernel
theorem dX9_addPaper_46 : decode cX9_addPaper 46 = .ok (.if_icmp .le 5, 3) := by decide +kernel
theorem dX9_addPaper_49 : decode cX9_addPaper 49 = .ok (.iconst (-1), 1) := by decide +kernel
theorem dX9_addPaper_50 : decode cX9_addPaper 50 = .ok (.ireturn, 1) := by decide +kernel
theorem dX9_addPaper_51 : decode cX9_addPaper 51 = .ok (.aload_n 0, 1) := by decide +kernel
theorem dX9_addPaper_52 : decode cX9_addPaper 52 = .ok (.getfield 10, 3) := by decide +kernel
theorem dX9_addPaper_55 : decode cX9_addPaper 55 = .ok (.getfield 119, 3) := by decide +kernel
theorem dX9_addPaper_58 : decode cX9_addPaper 58 = .ok (.bipush 12, 2) := by decide +kernel
theorem dX9_addPaper_60 : decode cX9_addPaper 60 = .ok (.if_icmp .lt 6, 3) := by decide +kernel
theorem dX9_addPaper_63 : decode cX9_addPaper 63 = .ok (.bipush (-3), 2) := by decide +kernel
theorem dX9_addPaper_65 : decode cX9_addPaper 65 = .ok (.ireturn, 1) := by decide +kernel
theorem dX9_addPaper_66 : decode cX9_addPaper 66 = .ok (.aload_n 0, 1) := by decide +kernel
theorem dX9_addPaper_67 : decode cX9_addPaper 67 = .ok (.getfield 10, 3) := by decide +kernel
theorem dX9_addPaper_70 : decode cX9_addPaper 70 = .ok (.getfield 90, 3) := by decide +kernel
theorem dX9_addPaper_73 : decode cX9_addPaper 73 = .ok (.aload_n 0, 1) := by decide +kernel
theorem dX9_addPaper_74 : decode cX9_addPaper 74 = .ok (.getfield 10, 3) := by decide +kernel
theorem dX9_addPaper_77 : decode cX9_addPaper 77 = .ok (.getfield 119, 3) := by decide +kernel
theorem dX9_addPaper_80 : decode cX9_addPaper 80 = .ok (.aaload, 1) := by decide +kernel
theorem dX9_addPaper_81 : decode cX9_addPaper 81 = .ok (.astore 6, 2) := by decide +kernel
theorem dX9_addPaper_83 : decode cX9_addPaper 83 = .ok (.aload 6, 2) := by decide +kernel
theorem dX9_addPaper_85 : decode cX9_addPaper 85 = .ok (.iload_n 1, 1) := by decide +kernel
theorem dX9_addPaper_86 : decode cX9_addPaper 86 = .ok (.iload_n 2, 1) := by decide +kernel
theorem dX9_addPaper_87 : decode cX9_addPaper 87 = .ok (.invokevirtual 342, 3) := by decide +kernel
theorem dX9_addPaper_90 : decode cX9_addPaper 90 = .ok (.aload 6, 2) := by decide +kernel
theorem dX9_addPaper_92 : decode cX9_addPaper 92 = .ok (.iload_n 3, 1) := by decide +kernel
theorem dX9_addPaper_93 : decode cX9_addPaper 93 = .ok (.iload 4, 2) := by decide +kernel
theorem dX9_addPaper_95 : decode cX9_addPaper 95 = .ok (.iload 5, 2) := by decide +kernel
theorem dX9_addPaper_97 : decode cX9_addPaper 97 = .ok (.invokevirtual 345, 3) := by decide +kernel
theorem dX9_addPaper_100 : decode cX9_addPaper 100 = .ok (.aload_n 0, 1) := by decide +kernel
theorem dX9_addPaper_101 : decode cX9_addPaper 101 = .ok (.getfield 10, 3) := by decide +kernel
theorem dX9_addPaper_104 : decode cX9_addPaper 104 = .ok (.invokevirtual 132, 3) := by decide +kernel
theorem dX9_addPaper_107 : decode cX9_addPaper 107 = .ok (.ireturn, 1) := by decide +kernel
theorem dX9_byteOf_0 : decode cX9_byteOf 0 = .ok (.lload_n 0, 1) := by decide +kernel
theorem dX9_byteOf_1 : decode cX9_byteOf 1 = .ok (.bipush 8, 2) := by decide +kernel
theorem dX9_byteOf_3 : decode cX9_byteOf 3 = .ok (.iload_n 2, 1) := by decide +kernel
theorem dX9_byteOf_4 : decode cX9_byteOf 4 = .ok (.imul, 1) := by decide +kernel
theorem dX9_byteOf_5 : decode cX9_byteOf 5 = .ok (.lushr, 1) := by decide +kernel
theorem dX9_byteOf_6 : decode cX9_byteOf 6 = .ok (.l2i, 1) := by decide +kernel
theorem dX9_byteOf_7 : decode cX9_byteOf 7 = .ok (.sipush 255, 3) := by decide +kernel
theorem dX9_byteOf_10 : decode cX9_byteOf 10 = .ok (.iand, 1) := by decide +kernel
theorem dX9_byteOf_11 : decode cX9_byteOf 11 = .ok (.ireturn, 1) := by decide +kernel
theorem dX9_isLess_0 : decode cX9_isLess 0 = .ok (.iload_n 1, 1) := by decide +kernel
theorem dX9_isLess_1 : decode cX9_isLess 1 = .ok (.bipush (-4), 2) := by decide +kernel
theorem dX9_isLess_3 : decode cX9_isLess 3 = .ok (.if_icmp .ne 5, 3) := by decide +kernel
theorem dX9_isLess_6 : decode cX9_isLess 6 = .ok (.iconst 1, 1) := by decide +kernel
theorem dX9_isLess_7 : decode cX9_isLess 7 = .ok (.ireturn, 1) := by decide +kernel
theorem dX9_isLess_8 : decode cX9_isLess 8 = .ok (.iload_n 0, 1) := by decide +kernel
theorem dX9_isLess_9 : decode cX9_isLess 9 = .ok (.invokestatic 348, 3) := by decide +kernel
theorem dX9_isLess_12 : decode cX9_isLess 12 = .ok (.iload_n 1, 1) := by decide +kernel
theorem dX9_isLess_13 : decode cX9_isLess 13 = .ok (.invokestatic 348, 3) := by decide +kernel
theorem dX9_isLess_16 : decode cX9_isLess 16 = .ok (.isub, 1) := by decide +kernel
theorem dX9_isLess_17 : decode cX9_isLess 17 = .ok (.istore_n 2, 1) := by decide +kernel
theorem dX9_isLess_18 : decode cX9_isLess 18 = .ok (.iload_n 2, 1) := by decide +kernel
theorem dX9_isLess_19 : decode cX9_isLess 19 = .ok (.ifCond .lt 12, 3) := by decide +kernel
theorem dX9_isLess_22 : decode cX9_isLess 22 = .ok (.iload_n 2, 1) := by decide +kernel
theorem dX9_isLess_23 : decode cX9_isLess 23 = .ok (.ifCond .ne 12, 3) := by decide +kernel
theorem dX9_isLess_26 : decode cX9_isLess 26 = .ok (.iload_n 0, 1) := by decide +kernel
theorem dX9_isLess_27 : decode cX9_isLess 27 = .ok (.iload_n 1, 1) := by decide +kernel
theorem dX9_isLess_28 : decode cX9_isLess 28 = .ok (.if_icmp .ge 7, 3) := by decide +kernel
theorem dX9_isLess_31 : decode cX9_isLess 31 = .ok (.iconst 1, 1) := by decide +kernel
theorem dX9_isLess_32 : decode cX9_isLess 32 = .ok (.goto 4, 3) := by decide +kernel
theorem dX9_isLess_35 : decode cX9_isLess 35 = .ok (.iconst 0, 1) := by decide +kernel
theorem dX9_isLess_36 : decode cX9_isLess 36 = .ok (.ireturn, 1) := by decide +kernel
theorem dJ6_bitCount_0f7a4_0 : decode cJ6_bitCount_0f7a4 0 = .ok (.iload_n 0, 1) := by decide +kernel
theorem dJ6_bitCount_0f7a4_1 : decode cJ6_bitCount_0f7a4 1 = .ok (.iload_n 0, 1) := by decide +kernel
theorem dJ6_bitCount_0f7a4_2 : decode cJ6_bitCount_0f7a4 2 = .ok (.iconst 1, 1) := by decide +kernel
theorem dJ6_bitCount_0f7a4_3 : decode cJ6_bitCount_0f7a4 3 = .ok (.iushr, 1) := by decide +kernel
theorem dJ6_bitCount_0f7a4_4 : decode cJ6_bitCount_0f7a4 4 = .ok (.ldc_w 265, 3) := by decide +kernel
theorem dJ6_bitCount_0f7a4_7 : decode cJ6_bitCount_0f7a4 7 = .ok (.iand, 1) := by decide +kernel
theorem dJ6_bitCount_0f7a4_8 : decode cJ6_bitCount_0f7a4 8 = .ok (.isub, 1) := by decide +kernel
theorem dJ6_bitCount_0f7a4_9 : decode cJ6_bitCount_0f7a4 9 = .ok (.istore_n 0, 1) := by decide +kernel
theorem dJ6_bitCount_0f7a4_10 : decode cJ6_bitCount_0f7a4 10 = .ok (.iload_n 0, 1) := by decide +kernel
theorem dJ6_bitCount_0f7a4_11 : decode cJ6_bitCount_0f7a4 11 = .ok (.ldc_w 266, 3) := by decide +kernel
theorem dJ6_bitCount_0f7a4_14 : decode cJ6_bitCount_0f7a4 14 = .ok (.iand, 1) := by decide +kernel
theorem dJ6_bitCount_0f7a4_15 : decode cJ6_bitCount_0f7a4 15 = .ok (.iload_n 0, 1) := by decide +kernel
theorem dJ6_bitCount_0f7a4_16 : decode cJ6_bitCount_0f7a4 16 = .ok (.iconst 2, 1) := by decide +kernel
theorem dJ6_bitCount_0f7a4_17 : decode cJ6_bitCount_0f7a4 17 = .ok (.iushr, 1) := by decide +kernel
theorem dJ6_bitCount_0f7a4_18 : decode cJ6_bitCount_0f7a4 18 = .ok (.ldc_w 266, 3) := by decide +kernel
theorem dJ6_bitCount_0f7a4_21 : decode cJ6_bitCount_0f7a4 21 = .ok (.iand, 1) := by decide +kernel
theorem dJ6_bitCount_0f7a4_22 : decode cJ6_bitCount_0f7a4 22 = .ok (.iadd, 1) := by decide +kernel
theorem dJ6_bitCount_0f7a4_23 : decode cJ6_bitCount_0f7a4 23 = .ok (.istore_n 0, 1) := by decide +kernel
theorem dJ6_bitCount_0f7a4_24 : decode cJ6_bitCount_0f7a4 24 = .ok (.iload_n 0, 1) := by decide +kernel
theorem dJ6_bitCount_0f7a4_25 : decode cJ6_bitCount_0f7a4 25 = .ok (.iload_n 0, 1) := by decide +kernel
theorem dJ6_bitCount_0f7a4_26 : decode cJ6_bitCount_0f7a4 26 = .ok (.iconst 4, 1) := by decide +kernel
theorem dJ6_bitCount_0f7a4_27 : decode cJ6_bitCount_0f7a4 27 = .ok (.iushr, 1) := by decide +kernel
theorem dJ6_bitCount_0f7a4_28 : decode cJ6_bitCount_0f7a4 28 = .ok (.iadd, 1) := by decide +kernel
theorem dJ6_bitCount_0f7a4_29 : decode cJ6_bitCount_0f7a4 29 = .ok (.ldc_w 267, 3) := by decide +kernel
theorem dJ6_bitCount_0f7a4_32 : decode cJ6_bitCount_0f7a4 32 = .ok (.iand, 1) := by decide +kernel
theorem dJ6_bitCount_0f7a4_33 : decode cJ6_bitCount_0f7a4 33 = .ok (.istore_n 0, 1) := by decide +kernel
theorem dJ6_bitCount_0f7a4_34 : decode cJ6_bitCount_0f7a4 34 = .ok (.iload_n 0, 1) := by decide +kernel
theorem dJ6_bitCount_0f7a4_35 : decode cJ6_bitCount_0f7a4 35 = .ok (.iload_n 0, 1) := by decide +kernel
theorem dJ6_bitCount_0f7a4_36 : decode cJ6_bitCount_0f7a4 36 = .ok (.bipush 8, 2) := by decide +kernel
theorem dJ6_bitCount_0f7a4_38 : decode cJ6_bitCount_0f7a4 38 = .ok (.iushr, 1) := by decide +kernel
theorem dJ6_bitCount_0f7a4_39 : decode cJ6_bitCount_0f7a4 39 = .ok (.iadd, 1) := by decide +kernel
theorem dJ6_bitCount_0f7a4_40 : decode cJ6_bitCount_0f7a4 40 = .ok (.istore_n 0, 1) := by decide +kernel
theorem dJ6_bitCount_0f7a4_41 : decode cJ6_bitCount_0f7a4 41 = .ok (.iload_n 0, 1) := by decide +kernel
theorem dJ6_bitCount_0f7a4_42 : decode cJ6_bitCount_0f7a4 42 = .ok (.iload_n 0, 1) := by decide +kernel
theorem dJ6_bitCount_0f7a4_43 : decode cJ6_bitCount_0f7a4 43 = .ok (.bipush 16, 2) := by decide +kernel
theorem dJ6_bitCount_0f7a4_45 : decode cJ6_bitCount_0f7a4 45 = .ok (.iushr, 1) := by decide +kernel
theorem dJ6_bitCount_0f7a4_46 : decode cJ6_bitCount_0f7a4 46 = .ok (.iadd, 1) := by decide +kernel
theorem dJ6_bitCount_0f7a4_47 : decode cJ6_bitCount_0f7a4 47 = .ok (.istore_n 0, 1) := by decide +kernel
theorem dJ6_bitCount_0f7a4_48 : decode cJ6_bitCount_0f7a4 48 = .ok (.iload_n 0, 1) := by decide +kernel
theorem dJ6_bitCount_0f7a4_49 : decode cJ6_bitCount_0f7a4 49 = .ok (.bipush 63, 2) := by decide +kernel
theorem dJ6_bitCount_0f7a4_51 : decode cJ6_bitCount_0f7a4 51 = .ok (.iand, 1) := by decide +kernel
theorem dJ6_bitCount_0f7a4_52 : decode cJ6_bitCount_0f7a4 52 = .ok (.ireturn, 1) := by decide +kernel
theorem dJ0_length_8abf5_0 : decode cJ0_length_8abf5 0 = .ok (.aload_n 0, 1) := by decide +kernel
theorem dJ0_length_8abf5_1 : decode cJ0_length_8abf5 1 = .ok (.getfield 9, 3) := by decide +kernel
theorem dJ0_length_8abf5_4 : decode cJ0_length_8abf5 4 = .ok (.arraylength, 1) := by decide +kernel
theorem dJ0_length_8abf5_5 : decode cJ0_length_8abf5 5 = .ok (.aload_n 0, 1) := by decide +kernel
theorem dJ0_length_8abf5_6 : decode cJ0_length_8abf5 6 = .ok (.invokevirtual 335, 3) := by decide +kernel
theorem dJ0_length_8abf5_9 : decode cJ0_length_8abf5 9 = .ok (.ishr, 1) := by decide +kernel
theorem dJ0_length_8abf5_10 : decode cJ0_length_8abf5 10 = .ok (.ireturn, 1) := by decide +kernel
theorem dJ0_indexOf_0f7a4_0 : decode cJ0_indexOf_0f7a4 0 = .ok (.aload_n 0, 1) := by decide +kernel
theorem dJ0_indexOf_0f7a4_1 : decode cJ0_indexOf_0f7a4 1 = .ok (.iload_n 1, 1) := by decide +kernel
theorem dJ0_indexOf_0f7a4_2 : decode cJ0_indexOf_0f7a4 2 = .ok (.iconst 0, 1) := by decide +kernel
theorem dJ0_indexOf_0f7a4_3 : decode cJ0_indexOf_0f7a4 3 = .ok (.invokevirtual 633, 3) := by decide +kernel
theorem dJ0_indexOf_0f7a4_6 : decode cJ0_indexOf_0f7a4 6 = .ok (.ireturn, 1) := by decide +kernel
theorem dJ0_indexOf_7cf53_0 : decode cJ0_indexOf_7cf53 0 = .ok (.aload_n 0, 1) := by decide +kernel
theorem dJ0_indexOf_7cf53_1 : decode cJ0_indexOf_7cf53 1 = .ok (.invokevirtual 492, 3) := by decide +kernel
theorem dJ0_indexOf_7cf53_4 : decode cJ0_indexOf_7cf53 4 = .ok (.ifCond .eq 19, 3) := by decide +kernel
theorem dJ0_indexOf_7cf53_7 : decode cJ0_indexOf_7cf53 7 = .ok (.aload_n 0, 1) := by decide +kernel
theorem dJ0_indexOf_7cf53_8 : decode cJ0_indexOf_7cf53 8 = .ok (.getfield 9, 3) := by decide +kernel
theorem dJ0_indexOf_7cf53_11 : decode cJ0_indexOf_7cf53 11 = .ok (.iload_n 1, 1) := by decide +kernel
theorem dJ0_indexOf_7cf53_12 : decode cJ0_indexOf_7cf53 12 = .ok (.iload_n 2, 1) := by decide +kernel
theorem dJ0_indexOf_7cf53_13 : decode cJ0_indexOf_7cf53 13 = .ok (.aload_n 0, 1) := by decide +kernel
theorem dJ0_indexOf_7cf53_14 : decode cJ0_indexOf_7cf53 14 = .ok (.invokevirtual 505, 3) := by decide +kernel
theorem dJ0_indexOf_7cf53_17 : decode cJ0_indexOf_7cf53 17 = .ok (.invokestatic 637, 3) := by decide +kernel
theorem dJ0_indexOf_7cf53_20 : decode cJ0_indexOf_7cf53 20 = .ok (.goto 16, 3) := by decide +kernel
theorem dJ0_indexOf_7cf53_36 : decode cJ0_indexOf_7cf53 36 = .ok (.ireturn, 1) := by decide +kernel
theorem dJ0_coder_7d493_0 : decode cJ0_coder_7d493 0 = .ok (.getstatic 38, 3) := by decide +kernel
theorem dJ0_coder_7d493_3 : decode cJ0_coder_7d493 3 = .ok (.ifCond .eq 10, 3) := by decide +kernel
theorem dJ0_coder_7d493_6 : decode cJ0_coder_7d493 6 = .ok (.aload_n 0, 1) := by decide +kernel
theorem dJ0_coder_7d493_7 : decode cJ0_coder_7d493 7 = .ok (.getfield 15, 3) := by decide +kernel
theorem dJ0_coder_7d493_10 : decode cJ0_coder_7d493 10 = .ok (.goto 4, 3) := by decide +kernel
theorem dJ0_coder_7d493_14 : decode cJ0_coder_7d493 14 = .ok (.ireturn, 1) := by decide +kernel
theorem dJ0_isLatin1_aae02_0 : decode cJ0_isLatin1_aae02 0 = .ok (.getstatic 38, 3) := by decide +kernel
theorem dJ0_isLatin1_aae02_3 : decode cJ0_isLatin1_aae02 3 = .ok (.ifCond .eq 14, 3) := by decide +kernel
theorem dJ0_isLatin1_aae02_6 : decode cJ0_isLatin1_aae02 6 = .ok (.aload_n 0, 1) := by decide +kernel
theorem dJ0_isLatin1_aae02_7 : decode cJ0_isLatin1_aae02 7 = .ok (.getfield 15, 3) := by decide +kernel
theorem dJ0_isLatin1_aae02_10 : decode cJ0_isLatin1_aae02 10 = .ok (.ifCond .ne 7, 3) := by decide +kernel
theorem dJ0_isLatin1_aae02_13 : decode cJ0_isLatin1_aae02 13 = .ok (.iconst 1, 1) := by decide +kernel
theorem dJ0_isLatin1_aae02_14 : decode cJ0_isLatin1_aae02 14 = .ok (.goto 4, 3) := by decide +kernel
theorem dJ0_isLatin1_aae02_18 : decode cJ0_isLatin1_aae02 18 = .ok (.ireturn, 1) := by decide +kernel
theorem dJ1_canEncode_9a6ad_0 : decode cJ1_canEncode_9a6ad 0 = .ok (.iload_n 0, 1) := by decide +kernel
theorem dJ1_canEncode_9a6ad_1 : decode cJ1_canEncode_9a6ad 1 = .ok (.ifCond .lt 14, 3) := by decide +kernel
theorem dJ1_canEncode_9a6ad_4 : decode cJ1_canEncode_9a6ad 4 = .ok (.iload_n 0, 1) := by decide +kernel
theorem dJ1_canEncode_9a6ad_5 : decode cJ1_canEncode_9a6ad 5 = .ok (.sipush 255, 3) := by decide +kernel
theorem dJ1_canEncode_9a6ad_8 : decode cJ1_canEncode_9a6ad 8 = .ok (.if_icmp .gt 7, 3) := by decide +kernel
theorem dJ1_canEncode_9a6ad_11 : decode cJ1_canEncode_9a6ad 11 = .ok (.iconst 1, 1) := by decide +kernel
theorem dJ1_canEncode_9a6ad_12 : decode cJ1_canEncode_9a6ad 12 = .ok (.goto 4, 3) := by decide +kernel
theorem dJ1_canEncode_9a6ad_15 : decode cJ1_canEncode_9a6ad 15 = .ok (.iconst 0, 1) := by decide +kernel
theorem dJ1_canEncode_9a6ad_16 : decode cJ1_canEncode_9a6ad 16 = .ok (.ireturn, 1) := by decide +kernel
theorem dJ1_indexOf_4cfef_0 : decode cJ1_indexOf_4cfef 0 = .ok (.iload_n 1, 1) := by decide +kernel
theorem dJ1_indexOf_4cfef_1 : decode cJ1_indexOf_4cfef 1 = .ok (.invokestatic 88, 3) := by decide +kernel
theorem dJ1_indexOf_4cfef_4 : decode cJ1_indexOf_4cfef 4 = .ok (.ifCond .ne 5, 3) := by decide +kernel
theorem dJ1_indexOf_4cfef_7 : decode cJ1_indexOf_4cfef 7 = .ok (.iconst (-1), 1) := by decide +kernel
theorem dJ1_indexOf_4cfef_8 : decode cJ1_indexOf_4cfef 8 = .ok (.ireturn, 1) := by decide +kernel
theorem dJ1_indexOf_4cfef_9 : decode cJ1_indexOf_4cfef 9 = .ok (.iload_n 2, 1) := by decide +kernel
theorem dJ1_indexOf_4cfef_10 : decode cJ1_indexOf_4cfef 10 = .ok (.iconst 0, 1) := by decide +kernel
theorem dJ1_indexOf_4cfef_11 : decode cJ1_indexOf_4cfef 11 = .ok (.invokestatic 92, 3) := by decide +kernel
theorem dJ1_indexOf_4cfef_14 : decode cJ1_indexOf_4cfef 14 = .ok (.istore_n 2, 1) := by decide +kernel
theorem dJ1_indexOf_4cfef_15 : decode cJ1_indexOf_4cfef 15 = .ok (.iload_n 3, 1) := by decide +kernel
theorem dJ1_indexOf_4cfef_16 : decode cJ1_indexOf_4cfef 16 = .ok (.aload_n 0, 1) := by decide +kernel
theorem dJ1_indexOf_4cfef_17 : decode cJ1_indexOf_4cfef 17 = .ok (.arraylength, 1) := by decide +kernel
theorem dJ1_indexOf_4cfef_18 : decode cJ1_indexOf_4cfef 18 = .ok (.invokestatic 38, 3) := by decide +kernel
theorem dJ1_indexOf_4cfef_21 : decode cJ1_indexOf_4cfef 21 = .ok (.istore_n 3, 1) := by decide +kernel
theorem dJ1_indexOf_4cfef_22 : decode cJ1_indexOf_4cfef 22 = .ok (.iload_n 2, 1) := by decide +kernel
theorem dJ1_indexOf_4cfef_23 : decode cJ1_indexOf_4cfef 23 = .ok (.iload_n 3, 1) := by decide +kernel
theorem dJ1_indexOf_4cfef_24 : decode cJ1_indexOf_4cfef 24 = .ok (.if_icmp .lt 5, 3) := by decide +kernel
theorem dJ1_indexOf_4cfef_27 : decode cJ1_indexOf_4cfef 27 = .ok (.iconst (-1), 1) := by decide +kernel
theorem dJ1_indexOf_4cfef_28 : decode cJ1_indexOf_4cfef 28 = .ok (.ireturn, 1) := by decide +kernel
theorem dJ1_indexOf_4cfef_29 : decode cJ1_indexOf_4cfef 29 = .ok (.aload_n 0, 1) := by decide +kernel
theorem dJ1_indexOf_4cfef_30 : decode cJ1_indexOf_4cfef 30 = .ok (.iload_n 1, 1) := by decide +kernel
theorem dJ1_indexOf_4cfef_31 : decode cJ1_indexOf_4cfef 31 = .ok (.iload_n 2, 1) := by decide +kernel
theorem dJ1_indexOf_4cfef_32 : decode cJ1_indexOf_4cfef 32 = .ok (.iload_n 3, 1) := by decide +kernel
theorem dJ1_indexOf_4cfef_33 : decode cJ1_indexOf_4cfef 33 = .ok (.invokestatic 95, 3) := by decide +kernel
theorem dJ1_indexOf_4cfef_36 : decode cJ1_indexOf_4cfef 36 = .ok (.ireturn, 1) := by decide +kernel
theorem dJ1_indexOfChar_4cfef_0 : decode cJ1_indexOfChar_4cfef 0 = .ok (.iload_n 1, 1) := by decide +kernel
theorem dJ1_indexOfChar_4cfef_1 : decode cJ1_indexOfChar_4cfef 1 = .ok (.i2b, 1) := by decide +kernel
theorem dJ1_indexOfChar_4cfef_2 : decode cJ1_indexOfChar_4cfef 2 = .ok (.istore 4, 2) := by decide +kernel
theorem dJ1_indexOfChar_4cfef_4 : decode cJ1_indexOfChar_4cfef 4 = .ok (.iload_n 2, 1) := by decide +kernel
theorem dJ1_indexOfChar_4cfef_5 : decode cJ1_indexOfChar_4cfef 5 = .ok (.istore 5, 2) := by decide +kernel
theorem dJ1_indexOfChar_4cfef_7 : decode cJ1_indexOfChar_4cfef 7 = .ok (.iload 5, 2) := by decide +kernel
theorem dJ1_indexOfChar_4cfef_9 : decode cJ1_indexOfChar_4cfef 9 = .ok (.iload_n 3, 1) := by decide +kernel
theorem dJ1_indexOfChar_4cfef_10 : decode cJ1_indexOfChar_4cfef 10 = .ok (.if_icmp .ge 21, 3) := by decide +kernel
theorem dJ1_indexOfChar_4cfef_13 : decode cJ1_indexOfChar_4cfef 13 = .ok (.aload_n 0, 1) := by decide +kernel
theorem dJ1_indexOfChar_4cfef_14 : decode cJ1_indexOfChar_4cfef 14 = .ok (.iload 5, 2) := by decide +kernel
theorem dJ1_indexOfChar_4cfef_16 : decode cJ1_indexOfChar_4cfef 16 = .ok (.baload, 1) := by decide +kernel
theorem dJ1_indexOfChar_4cfef_17 : decode cJ1_indexOfChar_4cfef 17 = .ok (.iload 4, 2) := by decide +kernel
theorem dJ1_indexOfChar_4cfef_19 : decode cJ1_indexOfChar_4cfef 19 = .ok (.if_icmp .ne 6, 3) := by decide +kernel
theorem dJ1_indexOfChar_4cfef_22 : decode cJ1_indexOfChar_4cfef 22 = .ok (.iload 5, 2) := by decide +kernel
theorem dJ1_indexOfChar_4cfef_24 : decode cJ1_indexOfChar_4cfef 24 = .ok (.ireturn, 1) := by decide +kernel
theorem dJ1_indexOfChar_4cfef_25 : decode cJ1_indexOfChar_4cfef 25 = .ok (.iinc 5 1, 3) := by decide +kernel
theorem dJ1_indexOfChar_4cfef_28 : decode cJ1_indexOfChar_4cfef 28 = .ok (.goto (-21), 3) := by decide +kernel
theorem dJ1_indexOfChar_4cfef_31 : decode cJ1_indexOfChar_4cfef 31 = .ok (.iconst (-1), 1) := by decide +kernel
theorem dJ1_indexOfChar_4cfef_32 : decode cJ1_indexOfChar_4cfef 32 = .ok (.ireturn, 1) := by decide +kernel
theorem dJ7_fill_53178_0 : decode cJ7_fill_53178 0 = .ok (.iconst 0, 1) := by decide +kernel
theorem dJ7_fill_53178_1 : decode cJ7_fill_53178 1 = .ok (.istore_n 2, 1) := by decide +kernel
theorem dJ7_fill_53178_2 : decode cJ7_fill_53178 2 = .ok (.aload_n 0, 1) := by decide +kernel
theorem dJ7_fill_53178_3 : decode cJ7_fill_53178 3 = .ok (.arraylength, 1) := by decide +kernel
theorem dJ7_fill_53178_4 : decode cJ7_fill_53178 4 = .ok (.istore_n 3, 1) := by decide +kernel
theorem dJ7_fill_53178_5 : decode cJ7_fill_53178 5 = .ok (.iload_n 2, 1) := by decide +kernel
theorem dJ7_fill_53178_6 : decode cJ7_fill_53178 6 = .ok (.iload_n 3, 1) := by decide +kernel
theorem dJ7_fill_53178_7 : decode cJ7_fill_53178 7 = .ok (.if_icmp .ge 13, 3) := by decide +kernel
theorem dJ7_fill_53178_10 : decode cJ7_fill_53178 10 = .ok (.aload_n 0, 1) := by decide +kernel
theorem dJ7_fill_53178_11 : decode cJ7_fill_53178 11 = .ok (.iload_n 2, 1) := by decide +kernel
theorem dJ7_fill_53178_12 : decode cJ7_fill_53178 12 = .ok (.iload_n 1, 1) := by decide +kernel
theorem dJ7_fill_53178_13 : decode cJ7_fill_53178 13 = .ok (.iastore, 1) := by decide +kernel
theorem dJ7_fill_53178_14 : decode cJ7_fill_53178 14 = .ok (.iinc 2 1, 3) := by decide +kernel
theorem dJ7_fill_53178_17 : decode cJ7_fill_53178 17 = .ok (.goto (-12), 3) := by decide +kernel
theorem dJ7_fill_53178_20 : decode cJ7_fill_53178 20 = .ok (.return_, 1) := by decide +kernel
