theorem dL_from_0 : decode cL_from 0 = .ok (.aload_n 0, 1) := by decide +kernel
theorem dL_from_1 : decode cL_from 1 = .ok (.arraylength, 1) := by decide +kernel
theorem dL_from_2 : decode cL_from 2 = .ok (.ifCond .ne 13, 3) := by decide +kernel
theorem dL_from_5 : decode cL_from 5 = .ok (.bipush 79, 2) := by decide +kernel
theorem dL_from_7 : decode cL_from 7 = .ok (.iload_n 1, 1) := by decide +kernel
theorem dL_from_8 : decode cL_from 8 = .ok (.imul, 1) := by decide +kernel
theorem dL_from_9 : decode cL_from 9 = .ok (.bipush 47, 2) := by decide +kernel
theorem dL_from_11 : decode cL_from 11 = .ok (.iadd, 1) := by decide +kernel
theorem dL_from_12 : decode cL_from 12 = .ok (.goto 14, 3) := by decide +kernel
theorem dL_from_15 : decode cL_from 15 = .ok (.aload_n 0, 1) := by decide +kernel
theorem dL_from_16 : decode cL_from 16 = .ok (.iload_n 1, 1) := by decide +kernel
theorem dL_from_17 : decode cL_from 17 = .ok (.aload_n 0, 1) := by decide +kernel
theorem dL_from_18 : decode cL_from 18 = .ok (.arraylength, 1) := by decide +kernel
theorem dL_from_19 : decode cL_from 19 = .ok (.irem, 1) := by decide +kernel
theorem dL_from_20 : decode cL_from 20 = .ok (.iaload, 1) := by decide +kernel
theorem dL_from_21 : decode cL_from 21 = .ok (.ldc 7, 2) := by decide +kernel
theorem dL_from_23 : decode cL_from 23 = .ok (.iload_n 1, 1) := by decide +kernel
theorem dL_from_24 : decode cL_from 24 = .ok (.imul, 1) := by decide +kernel
theorem dL_from_25 : decode cL_from 25 = .ok (.ixor, 1) := by decide +kernel
theorem dL_from_26 : decode cL_from 26 = .ok (.istore_n 3, 1) := by decide +kernel
theorem dL_from_27 : decode cL_from 27 = .ok (.iload_n 3, 1) := by decide +kernel
theorem dL_from_28 : decode cL_from 28 = .ok (.ldc 8, 2) := by decide +kernel
theorem dL_from_30 : decode cL_from 30 = .ok (.iand, 1) := by decide +kernel
theorem dL_from_31 : decode cL_from 31 = .ok (.iload_n 2, 1) := by decide +kernel
theorem dL_from_32 : decode cL_from 32 = .ok (.irem, 1) := by decide +kernel
theorem dL_from_33 : decode cL_from 33 = .ok (.ireturn, 1) := by decide +kernel
theorem dL_hash_0 : decode cL_hash 0 = .ok (.ldc2_w 9, 3) := by decide +kernel
theorem dL_hash_3 : decode cL_hash 3 = .ok (.lstore_n 3, 1) := by decide +kernel
theorem dL_hash_4 : decode cL_hash 4 = .ok (.iconst 0, 1) := by decide +kernel
theorem dL_hash_5 : decode cL_hash 5 = .ok (.istore 5, 2) := by decide +kernel
theorem dL_hash_7 : decode cL_hash 7 = .ok (.iload 5, 2) := by decide +kernel
theorem dL_hash_9 : decode cL_hash 9 = .ok (.iload_n 2, 1) := by decide +kernel
theorem dL_hash_10 : decode cL_hash 10 = .ok (.if_icmp .ge 34, 3) := by decide +kernel
theorem dL_hash_13 : decode cL_hash 13 = .ok (.ldc2_w 11, 3) := by decide +kernel
theorem dL_hash_16 : decode cL_hash 16 = .ok (.lload_n 3, 1) := by decide +kernel
theorem dL_hash_17 : decode cL_hash 17 = .ok (.lmul, 1) := by decide +kernel
theorem dL_hash_18 : decode cL_hash 18 = .ok (.aload_n 0, 1) := by decide +kernel
theorem dL_hash_19 : decode cL_hash 19 = .ok (.bipush 32, 2) := by decide +kernel
theorem dL_hash_21 : decode cL_hash 21 = .ok (.iload_n 1, 1) := by decide +kernel
theorem dL_hash_22 : decode cL_hash 22 = .ok (.imul, 1) := by decide +kernel
theorem dL_hash_23 : decode cL_hash 23 = .ok (.iconst 5, 1) := by decide +kernel
theorem dL_hash_24 : decode cL_hash 24 = .ok (.iadd, 1) := by decide +kernel
theorem dL_hash_25 : decode cL_hash 25 = .ok (.iload 5, 2) := by decide +kernel
theorem dL_hash_27 : decode cL_hash 27 = .ok (.iadd, 1) := by decide +kernel
theorem dL_hash_28 : decode cL_hash 28 = .ok (.iaload, 1) := by decide +kernel
theorem dL_hash_29 : decode cL_hash 29 = .ok (.i2l, 1) := by decide +kernel
theorem dL_hash_30 : decode cL_hash 30 = .ok (.ladd, 1) := by decide +kernel
theorem dL_hash_31 : decode cL_hash 31 = .ok (.lconst 1, 1) := by decide +kernel
theorem dL_hash_32 : decode cL_hash 32 = .ok (.ladd, 1) := by decide +kernel
theorem dL_hash_33 : decode cL_hash 33 = .ok (.ldc2_w 13, 3) := by decide +kernel
theorem dL_hash_36 : decode cL_hash 36 = .ok (.lrem, 1) := by decide +kernel
theorem dL_hash_37 : decode cL_hash 37 = .ok (.lstore_n 3, 1) := by decide +kernel
theorem dL_hash_38 : decode cL_hash 38 = .ok (.iinc 5 1, 3) := by decide +kernel
theorem dL_hash_41 : decode cL_hash 41 = .ok (.goto (-34), 3) := by decide +kernel
theorem dL_hash_44 : decode cL_hash 44 = .ok (.lload_n 3, 1) := by decide +kernel
theorem dL_hash_45 : decode cL_hash 45 = .ok (.l2i, 1) := by decide +kernel
theorem dL_hash_46 : decode cL_hash 46 = .ok (.ireturn, 1) := by decide +kernel
theorem dL_isGood_0 : decode cL_isGood 0 = .ok (.aload_n 0, 1) := by decide +kernel
theorem dL_isGood_1 : decode cL_isGood 1 = .ok (.bipush 32, 2) := by decide +kernel
theorem dL_isGood_3 : decode cL_isGood 3 = .ok (.iload_n 1, 1) := by decide +kernel
theorem dL_isGood_4 : decode cL_isGood 4 = .ok (.imul, 1) := by decide +kernel
theorem dL_isGood_5 : decode cL_isGood 5 = .ok (.iconst 2, 1) := by decide +kernel
theorem dL_isGood_6 : decode cL_isGood 6 = .ok (.iadd, 1) := by decide +kernel
theorem dL_isGood_7 : decode cL_isGood 7 = .ok (.iaload, 1) := by decide +kernel
theorem dL_isGood_8 : decode cL_isGood 8 = .ok (.istore_n 2, 1) := by decide +kernel
theorem dL_isGood_9 : decode cL_isGood 9 = .ok (.aload_n 0, 1) := by decide +kernel
theorem dL_isGood_10 : decode cL_isGood 10 = .ok (.bipush 32, 2) := by decide +kernel
theorem dL_isGood_12 : decode cL_isGood 12 = .ok (.iload_n 1, 1) := by decide +kernel
theorem dL_isGood_13 : decode cL_isGood 13 = .ok (.imul, 1) := by decide +kernel
theorem dL_isGood_14 : decode cL_isGood 14 = .ok (.iaload, 1) := by decide +kernel
theorem dL_isGood_15 : decode cL_isGood 15 = .ok (.iconst 1, 1) := by decide +kernel
theorem dL_isGood_16 : decode cL_isGood 16 = .ok (.if_icmp .ne 34, 3) := by decide +kernel
theorem dL_isGood_19 : decode cL_isGood 19 = .ok (.iload_n 2, 1) := by decide +kernel
theorem dL_isGood_20 : decode cL_isGood 20 = .ok (.ifCond .le 30, 3) := by decide +kernel
theorem dL_isGood_23 : decode cL_isGood 23 = .ok (.iload_n 2, 1) := by decide +kernel
theorem dL_isGood_24 : decode cL_isGood 24 = .ok (.bipush 25, 2) := by decide +kernel
theorem dL_isGood_26 : decode cL_isGood 26 = .ok (.if_icmp .ge 24, 3) := by decide +kernel
theorem dL_isGood_29 : decode cL_isGood 29 = .ok (.aload_n 0, 1) := by decide +kernel
theorem dL_isGood_30 : decode cL_isGood 30 = .ok (.bipush 32, 2) := by decide +kernel
theorem dL_isGood_32 : decode cL_isGood 32 = .ok (.iload_n 1, 1) := by decide +kernel
theorem dL_isGood_33 : decode cL_isGood 33 = .ok (.imul, 1) := by decide +kernel
theorem dL_isGood_34 : decode cL_isGood 34 = .ok (.iconst 3, 1) := by decide +kernel
theorem dL_isGood_35 : decode cL_isGood 35 = .ok (.iadd, 1) := by decide +kernel
theorem dL_isGood_36 : decode cL_isGood 36 = .ok (.iaload, 1) := by decide +kernel
theorem dL_isGood_37 : decode cL_isGood 37 = .ok (.aload_n 0, 1) := by decide +kernel
theorem dL_isGood_38 : decode cL_isGood 38 = .ok (.iload_n 1, 1) := by decide +kernel
theorem dL_isGood_39 : decode cL_isGood 39 = .ok (.iload_n 2, 1) := by decide +kernel
theorem dL_isGood_40 : decode cL_isGood 40 = .ok (.invokestatic 15, 3) := by decide +kernel
theorem dL_isGood_43 : decode cL_isGood 43 = .ok (.if_icmp .ne 7, 3) := by decide +kernel
theorem dL_isGood_46 : decode cL_isGood 46 = .ok (.iconst 1, 1) := by decide +kernel
theorem dL_isGood_47 : decode cL_isGood 47 = .ok (.goto 4, 3) := by decide +kernel
theorem dL_isGood_50 : decode cL_isGood 50 = .ok (.iconst 0, 1) := by decide +kernel
theorem dL_isGood_51 : decode cL_isGood 51 = .ok (.ireturn, 1) := by decide +kernel
theorem dL_check_0 : decode cL_check 0 = .ok (.bipush 7, 2) := by decide +kernel
theorem dL_check_2 : decode cL_check 2 = .ok (.iload_n 0, 1) := by decide +kernel
theorem dL_check_3 : decode cL_check 3 = .ok (.imul, 1) := by decide +kernel
theorem dL_check_4 : decode cL_check 4 = .ok (.bipush 13, 2) := by decide +kernel
theorem dL_check_6 : decode cL_check 6 = .ok (.iload_n 1, 1) := by decide +kernel
theorem dL_check_7 : decode cL_check 7 = .ok (.imul, 1) := by decide +kernel
theorem dL_check_8 : decode cL_check 8 = .ok (.iadd, 1) := by decide +kernel
theorem dL_check_9 : decode cL_check 9 = .ok (.bipush 29, 2) := by decide +kernel
theorem dL_check_11 : decode cL_check 11 = .ok (.iload_n 2, 1) := by decide +kernel
theorem dL_check_12 : decode cL_check 12 = .ok (.imul, 1) := by decide +kernel
theorem dL_check_13 : decode cL_check 13 = .ok (.iadd, 1) := by decide +kernel
theorem dL_check_14 : decode cL_check 14 = .ok (.sipush 250, 3) := by decide +kernel
theorem dL_check_17 : decode cL_check 17 = .ok (.irem, 1) := by decide +kernel
theorem dL_check_18 : decode cL_check 18 = .ok (.iconst 1, 1) := by decide +kernel
theorem dL_check_19 : decode cL_check 19 = .ok (.iadd, 1) := by decide +kernel
theorem dL_check_20 : decode cL_check 20 = .ok (.ireturn, 1) := by decide +kernel
theorem dL_isValid_0 : decode cL_isValid 0 = .ok (.aload_n 0, 1) := by decide +kernel
theorem dL_isValid_1 : decode cL_isValid 1 = .ok (.iconst 4, 1) := by decide +kernel
theorem dL_isValid_2 : decode cL_isValid 2 = .ok (.iload_n 1, 1) := by decide +kernel
theorem dL_isValid_3 : decode cL_isValid 3 = .ok (.imul, 1) := by decide +kernel
theorem dL_isValid_4 : decode cL_isValid 4 = .ok (.iaload, 1) := by decide +kernel
theorem dL_isValid_5 : decode cL_isValid 5 = .ok (.aload_n 0, 1) := by decide +kernel
theorem dL_isValid_6 : decode cL_isValid 6 = .ok (.iconst 4, 1) := by decide +kernel
theorem dL_isValid_7 : decode cL_isValid 7 = .ok (.iload_n 1, 1) := by decide +kernel
theorem dL_isValid_8 : decode cL_isValid 8 = .ok (.imul, 1) := by decide +kernel
theorem dL_isValid_9 : decode cL_isValid 9 = .ok (.iconst 1, 1) := by decide +kernel
theorem dL_isValid_10 : decode cL_isValid 10 = .ok (.iadd, 1) := by decide +kernel
theorem dL_isValid_11 : decode cL_isValid 11 = .ok (.iaload, 1) := by decide +kernel
theorem dL_isValid_12 : decode cL_isValid 12 = .ok (.aload_n 0, 1) := by decide +kernel
theorem dL_isValid_13 : decode cL_isValid 13 = .ok (.iconst 4, 1) := by decide +kernel
theorem dL_isValid_14 : decode cL_isValid 14 = .ok (.iload_n 1, 1) := by decide +kernel
theorem dL_isValid_15 : decode cL_isValid 15 = .ok (.imul, 1) := by decide +kernel
theorem dL_isValid_16 : decode cL_isValid 16 = .ok (.iconst 2, 1) := by decide +kernel
theorem dL_isValid_17 : decode cL_isValid 17 = .ok (.iadd, 1) := by decide +kernel
theorem dL_isValid_18 : decode cL_isValid 18 = .ok (.iaload, 1) := by decide +kernel
theorem dL_isValid_19 : decode cL_isValid 19 = .ok (.aload_n 0, 1) := by decide +kernel
theorem dL_isValid_20 : decode cL_isValid 20 = .ok (.iconst 4, 1) := by decide +kernel
theorem dL_isValid_21 : decode cL_isValid 21 = .ok (.iload_n 1, 1) := by decide +kernel
theorem dL_isValid_22 : decode cL_isValid 22 = .ok (.imul, 1) := by decide +kernel
theorem dL_isValid_23 : decode cL_isValid 23 = .ok (.iconst 3, 1) := by decide +kernel
theorem dL_isValid_24 : decode cL_isValid 24 = .ok (.iadd, 1) := by decide +kernel
theorem dL_isValid_25 : decode cL_isValid 25 = .ok (.iaload, 1) := by decide +kernel
theorem dL_isValid_26 : decode cL_isValid 26 = .ok (.invokestatic 21, 3) := by decide +kernel
theorem dL_isValid_29 : decode cL_isValid 29 = .ok (.if_icmp .ne 7, 3) := by decide +kernel
theorem dL_isValid_32 : decode cL_isValid 32 = .ok (.iconst 1, 1) := by decide +kernel
theorem dL_isValid_33 : decode cL_isValid 33 = .ok (.goto 4, 3) := by decide +kernel
theorem dL_isValid_36 : decode cL_isValid 36 = .ok (.iconst 0, 1) := by decide +kernel
theorem dL_isValid_37 : decode cL_isValid 37 = .ok (.ireturn, 1) := by decide +kernel
theorem dL_best_0 : decode cL_best 0 = .ok (.aload_n 0, 1) := by decide +kernel
theorem dL_best_1 : decode cL_best 1 = .ok (.iconst 0, 1) := by decide +kernel
theorem dL_best_2 : decode cL_best 2 = .ok (.invokestatic 25, 3) := by decide +kernel
theorem dL_best_5 : decode cL_best 5 = .ok (.ifCond .ne 7, 3) := by decide +kernel
theorem dL_best_8 : decode cL_best 8 = .ok (.iconst 1, 1) := by decide +kernel
theorem dL_best_9 : decode cL_best 9 = .ok (.goto 29, 3) := by decide +kernel
theorem dL_best_12 : decode cL_best 12 = .ok (.aload_n 0, 1) := by decide +kernel
theorem dL_best_13 : decode cL_best 13 = .ok (.iconst 1, 1) := by decide +kernel
theorem dL_best_14 : decode cL_best 14 = .ok (.invokestatic 25, 3) := by decide +kernel
theorem dL_best_17 : decode cL_best 17 = .ok (.ifCond .ne 7, 3) := by decide +kernel
theorem dL_best_20 : decode cL_best 20 = .ok (.iconst 0, 1) := by decide +kernel
theorem dL_best_21 : decode cL_best 21 = .ok (.goto 17, 3) := by decide +kernel
theorem dL_best_24 : decode cL_best 24 = .ok (.aload_n 0, 1) := by decide +kernel
theorem dL_best_25 : decode cL_best 25 = .ok (.iconst 1, 1) := by decide +kernel
theorem dL_best_26 : decode cL_best 26 = .ok (.iaload, 1) := by decide +kernel
theorem dL_best_27 : decode cL_best 27 = .ok (.aload_n 0, 1) := by decide +kernel
theorem dL_best_28 : decode cL_best 28 = .ok (.iconst 5, 1) := by decide +kernel
theorem dL_best_29 : decode cL_best 29 = .ok (.iaload, 1) := by decide +kernel
theorem dL_best_30 : decode cL_best 30 = .ok (.if_icmp .le 7, 3) := by decide +kernel
theorem dL_best_33 : decode cL_best 33 = .ok (.iconst 0, 1) := by decide +kernel
theorem dL_best_34 : decode cL_best 34 = .ok (.goto 4, 3) := by decide +kernel
theorem dL_best_37 : decode cL_best 37 = .ok (.iconst 1, 1) := by decide +kernel
theorem dL_best_38 : decode cL_best 38 = .ok (.ireturn, 1) := by decide +kernel
theorem dL_plan_0 : decode cL_plan 0 = .ok (.aload_n 0, 1) := by decide +kernel
theorem dL_plan_1 : decode cL_plan 1 = .ok (.iconst 0, 1) := by decide +kernel
theorem dL_plan_2 : decode cL_plan 2 = .ok (.dup2, 1) := by decide +kernel
theorem dL_plan_3 : decode cL_plan 3 = .ok (.iaload, 1) := by decide +kernel
theorem dL_plan_4 : decode cL_plan 4 = .ok (.iconst 1, 1) := by decide +kernel
theorem dL_plan_5 : decode cL_plan 5 = .ok (.iadd, 1) := by decide +kernel
theorem dL_plan_6 : decode cL_plan 6 = .ok (.iastore, 1) := by decide +kernel
theorem dL_plan_7 : decode cL_plan 7 = .ok (.aload_n 0, 1) := by decide +kernel
theorem dL_plan_8 : decode cL_plan 8 = .ok (.iconst 2, 1) := by decide +kernel
theorem dL_plan_9 : decode cL_plan 9 = .ok (.aload_n 0, 1) := by decide +kernel
theorem dL_plan_10 : decode cL_plan 10 = .ok (.iconst 0, 1) := by decide +kernel
theorem dL_plan_11 : decode cL_plan 11 = .ok (.iaload, 1) := by decide +kernel
theorem dL_plan_12 : decode cL_plan 12 = .ok (.imul, 1) := by decide +kernel
theorem dL_plan_13 : decode cL_plan 13 = .ok (.iload_n 1, 1) := by decide +kernel
theorem dL_plan_14 : decode cL_plan 14 = .ok (.iastore, 1) := by decide +kernel
theorem dL_plan_15 : decode cL_plan 15 = .ok (.aload_n 0, 1) := by decide +kernel
theorem dL_plan_16 : decode cL_plan 16 = .ok (.iconst 2, 1) := by decide +kernel
theorem dL_plan_17 : decode cL_plan 17 = .ok (.aload_n 0, 1) := by decide +kernel
theorem dL_plan_18 : decode cL_plan 18 = .ok (.iconst 0, 1) := by decide +kernel
theorem dL_plan_19 : decode cL_plan 19 = .ok (.iaload, 1) := by decide +kernel
theorem dL_plan_20 : decode cL_plan 20 = .ok (.imul, 1) := by decide +kernel
theorem dL_plan_21 : decode cL_plan 21 = .ok (.iconst 1, 1) := by decide +kernel
theorem dL_plan_22 : decode cL_plan 22 = .ok (.iadd, 1) := by decide +kernel
theorem dL_plan_23 : decode cL_plan 23 = .ok (.iload_n 2, 1) := by decide +kernel
theorem dL_plan_24 : decode cL_plan 24 = .ok (.iastore, 1) := by decide +kernel
theorem dL_plan_25 : decode cL_plan 25 = .ok (.return_, 1) := by decide +kernel
theorem dL_planRecord_0 : decode cL_planRecord 0 = .ok (.bipush 64, 2) := by decide +kernel
theorem dL_planRecord_2 : decode cL_planRecord 2 = .ok (.iconst 4, 1) := by decide +kernel
theorem dL_planRecord_3 : decode cL_planRecord 3 = .ok (.iconst 1, 1) := by decide +kernel
theorem dL_planRecord_4 : decode cL_planRecord 4 = .ok (.aload_n 1, 1) := by decide +kernel
theorem dL_planRecord_5 : decode cL_planRecord 5 = .ok (.invokestatic 29, 3) := by decide +kernel
theorem dL_planRecord_8 : decode cL_planRecord 8 = .ok (.isub, 1) := by decide +kernel
theorem dL_planRecord_9 : decode cL_planRecord 9 = .ok (.imul, 1) := by decide +kernel
theorem dL_planRecord_10 : decode cL_planRecord 10 = .ok (.iadd, 1) := by decide +kernel
theorem dL_planRecord_11 : decode cL_planRecord 11 = .ok (.istore 4, 2) := by decide +kernel
theorem dL_planRecord_13 : decode cL_planRecord 13 = .ok (.aload_n 1, 1) := by decide +kernel
theorem dL_planRecord_14 : decode cL_planRecord 14 = .ok (.iconst 4, 1) := by decide +kernel
theorem dL_planRecord_15 : decode cL_planRecord 15 = .ok (.aload_n 1, 1) := by decide +kernel
theorem dL_planRecord_16 : decode cL_planRecord 16 = .ok (.invokestatic 29, 3) := by decide +kernel
theorem dL_planRecord_19 : decode cL_planRecord 19 = .ok (.imul, 1) := by decide +kernel
theorem dL_planRecord_20 : decode cL_planRecord 20 = .ok (.iconst 1, 1) := by decide +kernel
theorem dL_planRecord_21 : decode cL_planRecord 21 = .ok (.iadd, 1) := by decide +kernel
theorem dL_planRecord_22 : decode cL_planRecord 22 = .ok (.iaload, 1) := by decide +kernel
theorem dL_planRecord_23 : decode cL_planRecord 23 = .ok (.iconst 1, 1) := by decide +kernel
theorem dL_planRecord_24 : decode cL_planRecord 24 = .ok (.iadd, 1) := by decide +kernel
theorem dL_planRecord_25 : decode cL_planRecord 25 = .ok (.istore 5, 2) := by decide +kernel
theorem dL_planRecord_27 : decode cL_planRecord 27 = .ok (.aload_n 0, 1) := by decide +kernel
theorem dL_planRecord_28 : decode cL_planRecord 28 = .ok (.iload 4, 2) := by decide +kernel
theorem dL_planRecord_30 : decode cL_planRecord 30 = .ok (.iconst 0, 1) := by decide +kernel
theorem dL_planRecord_31 : decode cL_planRecord 31 = .ok (.invokestatic 33, 3) := by decide +kernel
theorem dL_planRecord_34 : decode cL_planRecord 34 = .ok (.aload_n 0, 1) := by decide +kernel
theorem dL_planRecord_35 : decode cL_planRecord 35 = .ok (.iload 4, 2) := by decide +kernel
theorem dL_planRecord_37 : decode cL_planRecord 37 = .ok (.iconst 1, 1) := by decide +kernel
theorem dL_planRecord_38 : decode cL_planRecord 38 = .ok (.iadd, 1) := by decide +kernel
theorem dL_planRecord_39 : decode cL_planRecord 39 = .ok (.iload 5, 2) := by decide +kernel
theorem dL_planRecord_41 : decode cL_planRecord 41 = .ok (.invokestatic 33, 3) := by decide +kernel
theorem dL_planRecord_44 : decode cL_planRecord 44 = .ok (.aload_n 0, 1) := by decide +kernel
theorem dL_planRecord_45 : decode cL_planRecord 45 = .ok (.iload 4, 2) := by decide +kernel
theorem dL_planRecord_47 : decode cL_planRecord 47 = .ok (.iconst 2, 1) := by decide +kernel
theorem dL_planRecord_48 : decode cL_planRecord 48 = .ok (.iadd, 1) := by decide +kernel
theorem dL_planRecord_49 : decode cL_planRecord 49 = .ok (.iload_n 2, 1) := by decide +kernel
theorem dL_planRecord_50 : decode cL_planRecord 50 = .ok (.invokestatic 33, 3) := by decide +kernel
theorem dL_planRecord_53 : decode cL_planRecord 53 = .ok (.aload_n 0, 1) := by decide +kernel
theorem dL_planRecord_54 : decode cL_planRecord 54 = .ok (.iload 4, 2) := by decide +kernel
theorem dL_planRecord_56 : decode cL_planRecord 56 = .ok (.iconst 3, 1) := by decide +kernel
theorem dL_planRecord_57 : decode cL_planRecord 57 = .ok (.iadd, 1) := by decide +kernel
theorem dL_planRecord_58 : decode cL_planRecord 58 = .ok (.iload_n 3, 1) := by decide +kernel
theorem dL_planRecord_59 : decode cL_planRecord 59 = .ok (.invokestatic 33, 3) := by decide +kernel
theorem dL_planRecord_62 : decode cL_planRecord 62 = .ok (.aload_n 0, 1) := by decide +kernel
theorem dL_planRecord_63 : decode cL_planRecord 63 = .ok (.iload 4, 2) := by decide +kernel
theorem dL_planRecord_65 : decode cL_planRecord 65 = .ok (.iload 5, 2) := by decide +kernel
theorem dL_planRecord_67 : decode cL_planRecord 67 = .ok (.iload_n 2, 1) := by decide +kernel
theorem dL_planRecord_68 : decode cL_planRecord 68 = .ok (.iload_n 3, 1) := by decide +kernel
theorem dL_planRecord_69 : decode cL_planRecord 69 = .ok (.invokestatic 21, 3) := by decide +kernel
theorem dL_planRecord_72 : decode cL_planRecord 72 = .ok (.invokestatic 33, 3) := by decide +kernel
theorem dL_planRecord_75 : decode cL_planRecord 75 = .ok (.return_, 1) := by decide +kernel
theorem dL_carry_0 : decode cL_carry 0 = .ok (.iconst 1, 1) := by decide +kernel
theorem dL_carry_1 : decode cL_carry 1 = .ok (.istore 4, 2) := by decide +kernel
theorem dL_carry_3 : decode cL_carry 3 = .ok (.iload 4, 2) := by decide +kernel
theorem dL_carry_5 : decode cL_carry 5 = .ok (.aload_n 0, 1) := by decide +kernel
theorem dL_carry_6 : decode cL_carry 6 = .ok (.iconst 0, 1) := by decide +kernel
theorem dL_carry_7 : decode cL_carry 7 = .ok (.iaload, 1) := by decide +kernel
theorem dL_carry_8 : decode cL_carry 8 = .ok (.if_icmp .gt 140, 3) := by decide +kernel
theorem dL_carry_11 : decode cL_carry 11 = .ok (.aload_n 0, 1) := by decide +kernel
theorem dL_carry_12 : decode cL_carry 12 = .ok (.iconst 2, 1) := by decide +kernel
theorem dL_carry_13 : decode cL_carry 13 = .ok (.iload 4, 2) := by decide +kernel
theorem dL_carry_15 : decode cL_carry 15 = .ok (.imul, 1) := by decide +kernel
theorem dL_carry_16 : decode cL_carry 16 = .ok (.iaload, 1) := by decide +kernel
theorem dL_carry_17 : decode cL_carry 17 = .ok (.istore 5, 2) := by decide +kernel
theorem dL_carry_19 : decode cL_carry 19 = .ok (.aload_n 0, 1) := by decide +kernel
theorem dL_carry_20 : decode cL_carry 20 = .ok (.iconst 2, 1) := by decide +kernel
theorem dL_carry_21 : decode cL_carry 21 = .ok (.iload 4, 2) := by decide +kernel
theorem dL_carry_23 : decode cL_carry 23 = .ok (.imul, 1) := by decide +kernel
theorem dL_carry_24 : decode cL_carry 24 = .ok (.iconst 1, 1) := by decide +kernel
theorem dL_carry_25 : decode cL_carry 25 = .ok (.iadd, 1) := by decide +kernel
theorem dL_carry_26 : decode cL_carry 26 = .ok (.iaload, 1) := by decide +kernel
