theorem dX6_init_0 : decode cX6_init 0 = .ok (.aload_n 0, 1) := by decide +kernel
theorem dX6_init_1 : decode cX6_init 1 = .ok (.invokespecial 1, 3) := by decide +kernel
theorem dX6_init_4 : decode cX6_init 4 = .ok (.aload_n 0, 1) := by decide +kernel
theorem dX6_init_5 : decode cX6_init 5 = .ok (.bipush 66, 2) := by decide +kernel
theorem dX6_init_7 : decode cX6_init 7 = .ok (.newarray .int, 2) := by decide +kernel
theorem dX6_init_9 : decode cX6_init 9 = .ok (.putfield 7, 3) := by decide +kernel
theorem dX6_init_12 : decode cX6_init 12 = .ok (.aload_n 0, 1) := by decide +kernel
theorem dX6_init_13 : decode cX6_init 13 = .ok (.bipush 66, 2) := by decide +kernel
theorem dX6_init_15 : decode cX6_init 15 = .ok (.newarray .int, 2) := by decide +kernel
theorem dX6_init_17 : decode cX6_init 17 = .ok (.putfield 13, 3) := by decide +kernel
theorem dX6_init_20 : decode cX6_init 20 = .ok (.aload_n 0, 1) := by decide +kernel
theorem dX6_init_21 : decode cX6_init 21 = .ok (.iconst (-1), 1) := by decide +kernel
theorem dX6_init_22 : decode cX6_init 22 = .ok (.putfield 16, 3) := by decide +kernel
theorem dX6_init_25 : decode cX6_init 25 = .ok (.aload_n 0, 1) := by decide +kernel
theorem dX6_init_26 : decode cX6_init 26 = .ok (.iconst (-1), 1) := by decide +kernel
theorem dX6_init_27 : decode cX6_init 27 = .ok (.putfield 20, 3) := by decide +kernel
theorem dX6_init_30 : decode cX6_init 30 = .ok (.aload_n 0, 1) := by decide +kernel
theorem dX6_init_31 : decode cX6_init 31 = .ok (.iconst (-1), 1) := by decide +kernel
theorem dX6_init_32 : decode cX6_init 32 = .ok (.putfield 23, 3) := by decide +kernel
theorem dX6_init_35 : decode cX6_init 35 = .ok (.aload_n 0, 1) := by decide +kernel
theorem dX6_init_36 : decode cX6_init 36 = .ok (.bipush 24, 2) := by decide +kernel
theorem dX6_init_38 : decode cX6_init 38 = .ok (.newarray .int, 2) := by decide +kernel
theorem dX6_init_40 : decode cX6_init 40 = .ok (.putfield 26, 3) := by decide +kernel
theorem dX6_init_43 : decode cX6_init 43 = .ok (.aload_n 0, 1) := by decide +kernel
theorem dX6_init_44 : decode cX6_init 44 = .ok (.getfield 7, 3) := by decide +kernel
theorem dX6_init_47 : decode cX6_init 47 = .ok (.iconst 0, 1) := by decide +kernel
theorem dX6_init_48 : decode cX6_init 48 = .ok (.iconst 1, 1) := by decide +kernel
theorem dX6_init_49 : decode cX6_init 49 = .ok (.iastore, 1) := by decide +kernel
theorem dX6_init_50 : decode cX6_init 50 = .ok (.aload_n 0, 1) := by decide +kernel
theorem dX6_init_51 : decode cX6_init 51 = .ok (.getfield 7, 3) := by decide +kernel
theorem dX6_init_54 : decode cX6_init 54 = .ok (.iconst 1, 1) := by decide +kernel
theorem dX6_init_55 : decode cX6_init 55 = .ok (.iconst 1, 1) := by decide +kernel
theorem dX6_init_56 : decode cX6_init 56 = .ok (.iastore, 1) := by decide +kernel
theorem dX6_init_57 : decode cX6_init 57 = .ok (.aload_n 0, 1) := by decide +kernel
theorem dX6_init_58 : decode cX6_init 58 = .ok (.getfield 7, 3) := by decide +kernel
theorem dX6_init_61 : decode cX6_init 61 = .ok (.iconst 2, 1) := by decide +kernel
theorem dX6_init_62 : decode cX6_init 62 = .ok (.bipush 8, 2) := by decide +kernel
theorem dX6_init_64 : decode cX6_init 64 = .ok (.iastore, 1) := by decide +kernel
theorem dX6_init_65 : decode cX6_init 65 = .ok (.iconst 0, 1) := by decide +kernel
theorem dX6_init_66 : decode cX6_init 66 = .ok (.istore_n 1, 1) := by decide +kernel
theorem dX6_init_67 : decode cX6_init 67 = .ok (.iload_n 1, 1) := by decide +kernel
theorem dX6_init_68 : decode cX6_init 68 = .ok (.bipush 8, 2) := by decide +kernel
theorem dX6_init_70 : decode cX6_init 70 = .ok (.if_icmp .ge 20, 3) := by decide +kernel
theorem dX6_init_73 : decode cX6_init 73 = .ok (.aload_n 0, 1) := by decide +kernel
theorem dX6_init_74 : decode cX6_init 74 = .ok (.getfield 7, 3) := by decide +kernel
theorem dX6_init_77 : decode cX6_init 77 = .ok (.iconst 5, 1) := by decide +kernel
theorem dX6_init_78 : decode cX6_init 78 = .ok (.iload_n 1, 1) := by decide +kernel
theorem dX6_init_79 : decode cX6_init 79 = .ok (.iadd, 1) := by decide +kernel
theorem dX6_init_80 : decode cX6_init 80 = .ok (.iload_n 1, 1) := by decide +kernel
theorem dX6_init_81 : decode cX6_init 81 = .ok (.iconst 1, 1) := by decide +kernel
theorem dX6_init_82 : decode cX6_init 82 = .ok (.iadd, 1) := by decide +kernel
theorem dX6_init_83 : decode cX6_init 83 = .ok (.iastore, 1) := by decide +kernel
theorem dX6_init_84 : decode cX6_init 84 = .ok (.iinc 1 1, 3) := by decide +kernel
theorem dX6_init_87 : decode cX6_init 87 = .ok (.goto (-20), 3) := by decide +kernel
theorem dX6_init_90 : decode cX6_init 90 = .ok (.aload_n 0, 1) := by decide +kernel
theorem dX6_init_91 : decode cX6_init 91 = .ok (.getfield 7, 3) := by decide +kernel
theorem dX6_init_94 : decode cX6_init 94 = .ok (.iconst 3, 1) := by decide +kernel
theorem dX6_init_95 : decode cX6_init 95 = .ok (.aload_n 0, 1) := by decide +kernel
theorem dX6_init_96 : decode cX6_init 96 = .ok (.iconst 0, 1) := by decide +kernel
theorem dX6_init_97 : decode cX6_init 97 = .ok (.bipush 8, 2) := by decide +kernel
theorem dX6_init_99 : decode cX6_init 99 = .ok (.invokevirtual 29, 3) := by decide +kernel
theorem dX6_init_102 : decode cX6_init 102 = .ok (.iastore, 1) := by decide +kernel
theorem dX6_init_103 : decode cX6_init 103 = .ok (.aload_n 0, 1) := by decide +kernel
theorem dX6_init_104 : decode cX6_init 104 = .ok (.getfield 7, 3) := by decide +kernel
theorem dX6_init_107 : decode cX6_init 107 = .ok (.bipush 59, 2) := by decide +kernel
theorem dX6_init_109 : decode cX6_init 109 = .ok (.iconst 1, 1) := by decide +kernel
theorem dX6_init_110 : decode cX6_init 110 = .ok (.iastore, 1) := by decide +kernel
theorem dX6_init_111 : decode cX6_init 111 = .ok (.aload_n 0, 1) := by decide +kernel
theorem dX6_init_112 : decode cX6_init 112 = .ok (.getfield 7, 3) := by decide +kernel
theorem dX6_init_115 : decode cX6_init 115 = .ok (.bipush 58, 2) := by decide +kernel
theorem dX6_init_117 : decode cX6_init 117 = .ok (.aload_n 0, 1) := by decide +kernel
theorem dX6_init_118 : decode cX6_init 118 = .ok (.iconst 0, 1) := by decide +kernel
theorem dX6_init_119 : decode cX6_init 119 = .ok (.invokevirtual 33, 3) := by decide +kernel
theorem dX6_init_122 : decode cX6_init 122 = .ok (.iastore, 1) := by decide +kernel
theorem dX6_init_123 : decode cX6_init 123 = .ok (.return_, 1) := by decide +kernel
theorem dX6_thrown_0 : decode cX6_thrown 0 = .ok (.aload_n 0, 1) := by decide +kernel
theorem dX6_thrown_1 : decode cX6_thrown 1 = .ok (.getfield 37, 3) := by decide +kernel
theorem dX6_thrown_4 : decode cX6_thrown 4 = .ok (.ireturn, 1) := by decide +kernel
theorem dX6_in_0 : decode cX6_in 0 = .ok (.iload_n 0, 1) := by decide +kernel
theorem dX6_in_1 : decode cX6_in 1 = .ok (.iload_n 1, 1) := by decide +kernel
theorem dX6_in_2 : decode cX6_in 2 = .ok (.if_icmp .lt 12, 3) := by decide +kernel
theorem dX6_in_5 : decode cX6_in 5 = .ok (.iload_n 0, 1) := by decide +kernel
theorem dX6_in_6 : decode cX6_in 6 = .ok (.iload_n 2, 1) := by decide +kernel
theorem dX6_in_7 : decode cX6_in 7 = .ok (.if_icmp .gt 7, 3) := by decide +kernel
theorem dX6_in_10 : decode cX6_in 10 = .ok (.iconst 1, 1) := by decide +kernel
theorem dX6_in_11 : decode cX6_in 11 = .ok (.goto 4, 3) := by decide +kernel
theorem dX6_in_14 : decode cX6_in 14 = .ok (.iconst 0, 1) := by decide +kernel
theorem dX6_in_15 : decode cX6_in 15 = .ok (.ireturn, 1) := by decide +kernel
theorem dX6_goes_0 : decode cX6_goes 0 = .ok (.aload_n 0, 1) := by decide +kernel
theorem dX6_goes_1 : decode cX6_goes 1 = .ok (.iload_n 1, 1) := by decide +kernel
theorem dX6_goes_2 : decode cX6_goes 2 = .ok (.ifCond .ne 7, 3) := by decide +kernel
theorem dX6_goes_5 : decode cX6_goes 5 = .ok (.iconst 1, 1) := by decide +kernel
theorem dX6_goes_6 : decode cX6_goes 6 = .ok (.goto 12, 3) := by decide +kernel
theorem dX6_goes_9 : decode cX6_goes 9 = .ok (.iload_n 2, 1) := by decide +kernel
theorem dX6_goes_10 : decode cX6_goes 10 = .ok (.ifCond .eq 7, 3) := by decide +kernel
theorem dX6_goes_13 : decode cX6_goes 13 = .ok (.iconst 0, 1) := by decide +kernel
theorem dX6_goes_14 : decode cX6_goes 14 = .ok (.goto 4, 3) := by decide +kernel
theorem dX6_goes_17 : decode cX6_goes 17 = .ok (.iconst 2, 1) := by decide +kernel
theorem dX6_goes_18 : decode cX6_goes 18 = .ok (.putfield 37, 3) := by decide +kernel
theorem dX6_goes_21 : decode cX6_goes 21 = .ok (.aload_n 0, 1) := by decide +kernel
theorem dX6_goes_22 : decode cX6_goes 22 = .ok (.getfield 37, 3) := by decide +kernel
theorem dX6_goes_25 : decode cX6_goes 25 = .ok (.ifCond .ne 7, 3) := by decide +kernel
theorem dX6_goes_28 : decode cX6_goes 28 = .ok (.iconst 1, 1) := by decide +kernel
theorem dX6_goes_29 : decode cX6_goes 29 = .ok (.goto 4, 3) := by decide +kernel
theorem dX6_goes_32 : decode cX6_goes 32 = .ok (.iconst 0, 1) := by decide +kernel
theorem dX6_goes_33 : decode cX6_goes 33 = .ok (.ireturn, 1) := by decide +kernel
theorem dX6_hashed_0 : decode cX6_hashed 0 = .ok (.iload_n 0, 1) := by decide +kernel
theorem dX6_hashed_1 : decode cX6_hashed 1 = .ok (.bipush 31, 2) := by decide +kernel
theorem dX6_hashed_3 : decode cX6_hashed 3 = .ok (.imul, 1) := by decide +kernel
theorem dX6_hashed_4 : decode cX6_hashed 4 = .ok (.iload_n 1, 1) := by decide +kernel
theorem dX6_hashed_5 : decode cX6_hashed 5 = .ok (.iadd, 1) := by decide +kernel
theorem dX6_hashed_6 : decode cX6_hashed 6 = .ok (.iconst 1, 1) := by decide +kernel
theorem dX6_hashed_7 : decode cX6_hashed 7 = .ok (.iadd, 1) := by decide +kernel
theorem dX6_hashed_8 : decode cX6_hashed 8 = .ok (.ldc 40, 2) := by decide +kernel
theorem dX6_hashed_10 : decode cX6_hashed 10 = .ok (.irem, 1) := by decide +kernel
theorem dX6_hashed_11 : decode cX6_hashed 11 = .ok (.ireturn, 1) := by decide +kernel
set_option maxRecDepth 20000 in
theorem ggX6_hashIn_X6_hashed : GoodIn wsX6_hashIn wsX6_hashed := goodIn_r _ [5, 6] (by decide +kernel) (by decide +kernel)
set_option maxRecDepth 20000 in
theorem gX6_hashIn_X6_hashed : GoodIn wsX6_hashIn (va_wsS RX6 41 yX6_hashed wsX6_hashed) := goodIn_app (goodIn_of _ (by decide +kernel)) ggX6_hashIn_X6_hashed
theorem dX6_hashIn_0 : decode cX6_hashIn 0 = .ok (.bipush 17, 2) := by decide +kernel
theorem dX6_hashIn_2 : decode cX6_hashIn 2 = .ok (.istore_n 3, 1) := by decide +kernel
theorem dX6_hashIn_3 : decode cX6_hashIn 3 = .ok (.iconst 0, 1) := by decide +kernel
theorem dX6_hashIn_4 : decode cX6_hashIn 4 = .ok (.istore 4, 2) := by decide +kernel
theorem dX6_hashIn_6 : decode cX6_hashIn 6 = .ok (.iload 4, 2) := by decide +kernel
theorem dX6_hashIn_8 : decode cX6_hashIn 8 = .ok (.iload_n 2, 1) := by decide +kernel
theorem dX6_hashIn_9 : decode cX6_hashIn 9 = .ok (.if_icmp .ge 28, 3) := by decide +kernel
theorem dX6_hashIn_12 : decode cX6_hashIn 12 = .ok (.iload_n 3, 1) := by decide +kernel
theorem dX6_hashIn_13 : decode cX6_hashIn 13 = .ok (.aload_n 0, 1) := by decide +kernel
theorem dX6_hashIn_14 : decode cX6_hashIn 14 = .ok (.getfield 7, 3) := by decide +kernel
theorem dX6_hashIn_17 : decode cX6_hashIn 17 = .ok (.bipush 29, 2) := by decide +kernel
theorem dX6_hashIn_19 : decode cX6_hashIn 19 = .ok (.iload_n 1, 1) := by decide +kernel
theorem dX6_hashIn_20 : decode cX6_hashIn 20 = .ok (.imul, 1) := by decide +kernel
theorem dX6_hashIn_21 : decode cX6_hashIn 21 = .ok (.iconst 5, 1) := by decide +kernel
theorem dX6_hashIn_22 : decode cX6_hashIn 22 = .ok (.iadd, 1) := by decide +kernel
theorem dX6_hashIn_23 : decode cX6_hashIn 23 = .ok (.iload 4, 2) := by decide +kernel
theorem dX6_hashIn_25 : decode cX6_hashIn 25 = .ok (.iadd, 1) := by decide +kernel
theorem dX6_hashIn_26 : decode cX6_hashIn 26 = .ok (.iaload, 1) := by decide +kernel
theorem dX6_hashIn_27 : decode cX6_hashIn 27 = .ok (.invokestatic 41, 3) := by decide +kernel
theorem dX6_hashIn_30 : decode cX6_hashIn 30 = .ok (.istore_n 3, 1) := by decide +kernel
theorem dX6_hashIn_31 : decode cX6_hashIn 31 = .ok (.iinc 4 1, 3) := by decide +kernel
theorem dX6_hashIn_34 : decode cX6_hashIn 34 = .ok (.goto (-28), 3) := by decide +kernel
theorem dX6_hashIn_37 : decode cX6_hashIn 37 = .ok (.iload_n 3, 1) := by decide +kernel
theorem dX6_hashIn_38 : decode cX6_hashIn 38 = .ok (.ireturn, 1) := by decide +kernel
set_option maxRecDepth 20000 in
theorem ggX6_canStart_X6_in : GoodIn wsX6_canStart wsX6_in := goodIn_r _ [5] (by decide +kernel) (by decide +kernel)
set_option maxRecDepth 20000 in
theorem gX6_canStart_X6_in : GoodIn wsX6_canStart (va_wsS RX6 44 yX6_in wsX6_in) := goodIn_app (goodIn_of _ (by decide +kernel)) ggX6_canStart_X6_in
set_option maxRecDepth 20000 in
theorem ggX6_canStart_X6_hashIn : GoodIn wsX6_canStart wsX6_hashIn := goodIn_r _ [9, 1, 10, 11, 4, 12, 13, 14, 15, 16, 17, 18, 19, 20, 21, 22, 23, 24, 25, 26, 27] (by decide +kernel) (by decide +kernel)
set_option maxRecDepth 20000 in
theorem gX6_canStart_X6_hashIn : GoodIn wsX6_canStart (wsV RX6 29 RX6 yX6_hashIn wsX6_hashIn) := goodIn_app (goodIn_of _ (by decide +kernel)) ggX6_canStart_X6_hashIn
theorem dX6_canStart_0 : decode cX6_canStart 0 = .ok (.aload_n 0, 1) := by decide +kernel
theorem dX6_canStart_1 : decode cX6_canStart 1 = .ok (.getfield 7, 3) := by decide +kernel
theorem dX6_canStart_4 : decode cX6_canStart 4 = .ok (.bipush 29, 2) := by decide +kernel
theorem dX6_canStart_6 : decode cX6_canStart 6 = .ok (.iload_n 1, 1) := by decide +kernel
theorem dX6_canStart_7 : decode cX6_canStart 7 = .ok (.imul, 1) := by decide +kernel
theorem dX6_canStart_8 : decode cX6_canStart 8 = .ok (.iconst 2, 1) := by decide +kernel
theorem dX6_canStart_9 : decode cX6_canStart 9 = .ok (.iadd, 1) := by decide +kernel
theorem dX6_canStart_10 : decode cX6_canStart 10 = .ok (.iaload, 1) := by decide +kernel
theorem dX6_canStart_11 : decode cX6_canStart 11 = .ok (.istore_n 2, 1) := by decide +kernel
theorem dX6_canStart_12 : decode cX6_canStart 12 = .ok (.aload_n 0, 1) := by decide +kernel
theorem dX6_canStart_13 : decode cX6_canStart 13 = .ok (.getfield 7, 3) := by decide +kernel
theorem dX6_canStart_16 : decode cX6_canStart 16 = .ok (.bipush 29, 2) := by decide +kernel
theorem dX6_canStart_18 : decode cX6_canStart 18 = .ok (.iload_n 1, 1) := by decide +kernel
theorem dX6_canStart_19 : decode cX6_canStart 19 = .ok (.imul, 1) := by decide +kernel
theorem dX6_canStart_20 : decode cX6_canStart 20 = .ok (.iconst 0, 1) := by decide +kernel
theorem dX6_canStart_21 : decode cX6_canStart 21 = .ok (.iadd, 1) := by decide +kernel
theorem dX6_canStart_22 : decode cX6_canStart 22 = .ok (.iaload, 1) := by decide +kernel
theorem dX6_canStart_23 : decode cX6_canStart 23 = .ok (.iconst 1, 1) := by decide +kernel
theorem dX6_canStart_24 : decode cX6_canStart 24 = .ok (.if_icmp .ne 37, 3) := by decide +kernel
theorem dX6_canStart_27 : decode cX6_canStart 27 = .ok (.iload_n 2, 1) := by decide +kernel
theorem dX6_canStart_28 : decode cX6_canStart 28 = .ok (.iconst 1, 1) := by decide +kernel
theorem dX6_canStart_29 : decode cX6_canStart 29 = .ok (.bipush 24, 2) := by decide +kernel
theorem dX6_canStart_31 : decode cX6_canStart 31 = .ok (.invokestatic 44, 3) := by decide +kernel
theorem dX6_canStart_34 : decode cX6_canStart 34 = .ok (.ifCond .eq 27, 3) := by decide +kernel
theorem dX6_canStart_37 : decode cX6_canStart 37 = .ok (.aload_n 0, 1) := by decide +kernel
theorem dX6_canStart_38 : decode cX6_canStart 38 = .ok (.iload_n 1, 1) := by decide +kernel
theorem dX6_canStart_39 : decode cX6_canStart 39 = .ok (.iload_n 2, 1) := by decide +kernel
theorem dX6_canStart_40 : decode cX6_canStart 40 = .ok (.invokevirtual 29, 3) := by decide +kernel
theorem dX6_canStart_43 : decode cX6_canStart 43 = .ok (.aload_n 0, 1) := by decide +kernel
theorem dX6_canStart_44 : decode cX6_canStart 44 = .ok (.getfield 7, 3) := by decide +kernel
theorem dX6_canStart_47 : decode cX6_canStart 47 = .ok (.bipush 29, 2) := by decide +kernel
theorem dX6_canStart_49 : decode cX6_canStart 49 = .ok (.iload_n 1, 1) := by decide +kernel
theorem dX6_canStart_50 : decode cX6_canStart 50 = .ok (.imul, 1) := by decide +kernel
theorem dX6_canStart_51 : decode cX6_canStart 51 = .ok (.iconst 3, 1) := by decide +kernel
theorem dX6_canStart_52 : decode cX6_canStart 52 = .ok (.iadd, 1) := by decide +kernel
theorem dX6_canStart_53 : decode cX6_canStart 53 = .ok (.iaload, 1) := by decide +kernel
theorem dX6_canStart_54 : decode cX6_canStart 54 = .ok (.if_icmp .ne 7, 3) := by decide +kernel
theorem dX6_canStart_57 : decode cX6_canStart 57 = .ok (.iconst 1, 1) := by decide +kernel
theorem dX6_canStart_58 : decode cX6_canStart 58 = .ok (.goto 4, 3) := by decide +kernel
theorem dX6_canStart_61 : decode cX6_canStart 61 = .ok (.iconst 0, 1) := by decide +kernel
theorem dX6_canStart_62 : decode cX6_canStart 62 = .ok (.ireturn, 1) := by decide +kernel
theorem dX6_rightCheck_0 : decode cX6_rightCheck 0 = .ok (.bipush 58, 2) := by decide +kernel
theorem dX6_rightCheck_2 : decode cX6_rightCheck 2 = .ok (.iconst 4, 1) := by decide +kernel
theorem dX6_rightCheck_3 : decode cX6_rightCheck 3 = .ok (.iload_n 1, 1) := by decide +kernel
theorem dX6_rightCheck_4 : decode cX6_rightCheck 4 = .ok (.imul, 1) := by decide +kernel
theorem dX6_rightCheck_5 : decode cX6_rightCheck 5 = .ok (.iadd, 1) := by decide +kernel
theorem dX6_rightCheck_6 : decode cX6_rightCheck 6 = .ok (.istore_n 2, 1) := by decide +kernel
theorem dX6_rightCheck_7 : decode cX6_rightCheck 7 = .ok (.iconst 1, 1) := by decide +kernel
theorem dX6_rightCheck_8 : decode cX6_rightCheck 8 = .ok (.bipush 7, 2) := by decide +kernel
theorem dX6_rightCheck_10 : decode cX6_rightCheck 10 = .ok (.aload_n 0, 1) := by decide +kernel
theorem dX6_rightCheck_11 : decode cX6_rightCheck 11 = .ok (.getfield 7, 3) := by decide +kernel
theorem dX6_rightCheck_14 : decode cX6_rightCheck 14 = .ok (.iload_n 2, 1) := by decide +kernel
theorem dX6_rightCheck_15 : decode cX6_rightCheck 15 = .ok (.iconst 1, 1) := by decide +kernel
theorem dX6_rightCheck_16 : decode cX6_rightCheck 16 = .ok (.iadd, 1) := by decide +kernel
theorem dX6_rightCheck_17 : decode cX6_rightCheck 17 = .ok (.iaload, 1) := by decide +kernel
theorem dX6_rightCheck_18 : decode cX6_rightCheck 18 = .ok (.imul, 1) := by decide +kernel
theorem dX6_rightCheck_19 : decode cX6_rightCheck 19 = .ok (.bipush 13, 2) := by decide +kernel
theorem dX6_rightCheck_21 : decode cX6_rightCheck 21 = .ok (.aload_n 0, 1) := by decide +kernel
theorem dX6_rightCheck_22 : decode cX6_rightCheck 22 = .ok (.getfield 7, 3) := by decide +kernel
theorem dX6_rightCheck_25 : decode cX6_rightCheck 25 = .ok (.iload_n 2, 1) := by decide +kernel
theorem dX6_rightCheck_26 : decode cX6_rightCheck 26 = .ok (.iconst 2, 1) := by decide +kernel
theorem dX6_rightCheck_27 : decode cX6_rightCheck 27 = .ok (.iadd, 1) := by decide +kernel
theorem dX6_rightCheck_28 : decode cX6_rightCheck 28 = .ok (.iaload, 1) := by decide +kernel
theorem dX6_rightCheck_29 : decode cX6_rightCheck 29 = .ok (.imul, 1) := by decide +kernel
theorem dX6_rightCheck_30 : decode cX6_rightCheck 30 = .ok (.iadd, 1) := by decide +kernel
theorem dX6_rightCheck_31 : decode cX6_rightCheck 31 = .ok (.bipush 29, 2) := by decide +kernel
theorem dX6_rightCheck_33 : decode cX6_rightCheck 33 = .ok (.aload_n 0, 1) := by decide +kernel
theorem dX6_rightCheck_34 : decode cX6_rightCheck 34 = .ok (.getfield 7, 3) := by decide +kernel
theorem dX6_rightCheck_37 : decode cX6_rightCheck 37 = .ok (.iload_n 2, 1) := by decide +kernel
theorem dX6_rightCheck_38 : decode cX6_rightCheck 38 = .ok (.iconst 3, 1) := by decide +kernel
theorem dX6_rightCheck_39 : decode cX6_rightCheck 39 = .ok (.iadd, 1) := by decide +kernel
theorem dX6_rightCheck_40 : decode cX6_rightCheck 40 = .ok (.iaload, 1) := by decide +kernel
theorem dX6_rightCheck_41 : decode cX6_rightCheck 41 = .ok (.imul, 1) := by decide +kernel
theorem dX6_rightCheck_42 : decode cX6_rightCheck 42 = .ok (.iadd, 1) := by decide +kernel
theorem dX6_rightCheck_43 : decode cX6_rightCheck 43 = .ok (.sipush 250, 3) := by decide +kernel
theorem dX6_rightCheck_46 : decode cX6_rightCheck 46 = .ok (.irem, 1) := by decide +kernel
theorem dX6_rightCheck_47 : decode cX6_rightCheck 47 = .ok (.iadd, 1) := by decide +kernel
theorem dX6_rightCheck_48 : decode cX6_rightCheck 48 = .ok (.ireturn, 1) := by decide +kernel
set_option maxRecDepth 20000 in
theorem ggX6_holds_X6_rightCheck : GoodIn wsX6_holds wsX6_rightCheck := goodIn_r _ [6, 1, 7, 8, 9, 10, 11, 12, 13, 14, 15, 16, 17, 18, 19, 20] (by decide +kernel) (by decide +kernel)
set_option maxRecDepth 20000 in
theorem gX6_holds_X6_rightCheck : GoodIn wsX6_holds (wsV RX6 33 RX6 yX6_rightCheck wsX6_rightCheck) := goodIn_app (goodIn_of _ (by decide +kernel)) ggX6_holds_X6_rightCheck
theorem dX6_holds_0 : decode cX6_holds 0 = .ok (.aload_n 0, 1) := by decide +kernel
theorem dX6_holds_1 : decode cX6_holds 1 = .ok (.getfield 7, 3) := by decide +kernel
theorem dX6_holds_4 : decode cX6_holds 4 = .ok (.bipush 58, 2) := by decide +kernel
theorem dX6_holds_6 : decode cX6_holds 6 = .ok (.iconst 4, 1) := by decide +kernel
theorem dX6_holds_7 : decode cX6_holds 7 = .ok (.iload_n 1, 1) := by decide +kernel
theorem dX6_holds_8 : decode cX6_holds 8 = .ok (.imul, 1) := by decide +kernel
theorem dX6_holds_9 : decode cX6_holds 9 = .ok (.iadd, 1) := by decide +kernel
theorem dX6_holds_10 : decode cX6_holds 10 = .ok (.iconst 0, 1) := by decide +kernel
theorem dX6_holds_11 : decode cX6_holds 11 = .ok (.iadd, 1) := by decide +kernel
theorem dX6_holds_12 : decode cX6_holds 12 = .ok (.iaload, 1) := by decide +kernel
theorem dX6_holds_13 : decode cX6_holds 13 = .ok (.aload_n 0, 1) := by decide +kernel
theorem dX6_holds_14 : decode cX6_holds 14 = .ok (.iload_n 1, 1) := by decide +kernel
theorem dX6_holds_15 : decode cX6_holds 15 = .ok (.invokevirtual 33, 3) := by decide +kernel
theorem dX6_holds_18 : decode cX6_holds 18 = .ok (.if_icmp .ne 7, 3) := by decide +kernel
theorem dX6_holds_21 : decode cX6_holds 21 = .ok (.iconst 1, 1) := by decide +kernel
theorem dX6_holds_22 : decode cX6_holds 22 = .ok (.goto 4, 3) := by decide +kernel
theorem dX6_holds_25 : decode cX6_holds 25 = .ok (.iconst 0, 1) := by decide +kernel
theorem dX6_holds_26 : decode cX6_holds 26 = .ok (.ireturn, 1) := by decide +kernel
set_option maxRecDepth 20000 in
theorem ggX6_force_X6_holds : GoodIn wsX6_force wsX6_holds := goodIn_r _ [6, 1, 7, 8, 9, 5, 10, 11, 12, 13, 14, 15, 16, 17, 18, 19, 20, 21, 22, 23, 24] (by decide +kernel) (by decide +kernel)
set_option maxRecDepth 20000 in
theorem gX6_force_X6_holds : GoodIn wsX6_force (wsV RX6 48 RX6 yX6_holds wsX6_holds) := goodIn_app (goodIn_of _ (by decide +kernel)) ggX6_force_X6_holds
theorem dX6_force_0 : decode cX6_force 0 = .ok (.aload_n 0, 1) := by decide +kernel
theorem dX6_force_1 : decode cX6_force 1 = .ok (.getfield 7, 3) := by decide +kernel
theorem dX6_force_4 : decode cX6_force 4 = .ok (.bipush 63, 2) := by decide +kernel
theorem dX6_force_6 : decode cX6_force 6 = .ok (.iaload, 1) := by decide +kernel
theorem dX6_force_7 : decode cX6_force 7 = .ok (.aload_n 0, 1) := by decide +kernel
theorem dX6_force_8 : decode cX6_force 8 = .ok (.getfield 7, 3) := by decide +kernel
theorem dX6_force_11 : decode cX6_force 11 = .ok (.bipush 59, 2) := by decide +kernel
theorem dX6_force_13 : decode cX6_force 13 = .ok (.iaload, 1) := by decide +kernel
theorem dX6_force_14 : decode cX6_force 14 = .ok (.if_icmp .le 7, 3) := by decide +kernel
theorem dX6_force_17 : decode cX6_force 17 = .ok (.iconst 1, 1) := by decide +kernel
theorem dX6_force_18 : decode cX6_force 18 = .ok (.goto 4, 3) := by decide +kernel
theorem dX6_force_21 : decode cX6_force 21 = .ok (.iconst 0, 1) := by decide +kernel
theorem dX6_force_22 : decode cX6_force 22 = .ok (.istore_n 1, 1) := by decide +kernel
theorem dX6_force_23 : decode cX6_force 23 = .ok (.aload_n 0, 1) := by decide +kernel
theorem dX6_force_24 : decode cX6_force 24 = .ok (.iconst 1, 1) := by decide +kernel
theorem dX6_force_25 : decode cX6_force 25 = .ok (.invokevirtual 48, 3) := by decide +kernel
theorem dX6_force_28 : decode cX6_force 28 = .ok (.ifCond .eq 19, 3) := by decide +kernel
theorem dX6_force_31 : decode cX6_force 31 = .ok (.iload_n 1, 1) := by decide +kernel
theorem dX6_force_32 : decode cX6_force 32 = .ok (.ifCond .ne 11, 3) := by decide +kernel
theorem dX6_force_35 : decode cX6_force 35 = .ok (.aload_n 0, 1) := by decide +kernel
theorem dX6_force_36 : decode cX6_force 36 = .ok (.iconst 0, 1) := by decide +kernel
theorem dX6_force_37 : decode cX6_force 37 = .ok (.invokevirtual 48, 3) := by decide +kernel
theorem dX6_force_40 : decode cX6_force 40 = .ok (.ifCond .ne 7, 3) := by decide +kernel
theorem dX6_force_43 : decode cX6_force 43 = .ok (.iconst 1, 1) := by decide +kernel
theorem dX6_force_44 : decode cX6_force 44 = .ok (.goto 4, 3) := by decide +kernel
theorem dX6_force_47 : decode cX6_force 47 = .ok (.iconst 0, 1) := by decide +kernel
theorem dX6_force_48 : decode cX6_force 48 = .ok (.ireturn, 1) := by decide +kernel
set_option maxRecDepth 20000 in
theorem ggX6_inForce_X6_force : GoodIn wsX6_inForce wsX6_force := goodIn_r _ [6, 1, 7, 8, 9, 5, 10, 11, 12, 13, 14, 15, 16, 17, 18, 19, 20, 21, 22, 23, 24, 25, 26, 27, 28] (by decide +kernel) (by decide +kernel)
set_option maxRecDepth 20000 in
theorem gX6_inForce_X6_force : GoodIn wsX6_inForce (wsV RX6 52 RX6 yX6_force wsX6_force) := goodIn_app (goodIn_of _ (by decide +kernel)) ggX6_inForce_X6_force
theorem dX6_inForce_0 : decode cX6_inForce 0 = .ok (.aload_n 0, 1) := by decide +kernel
theorem dX6_inForce_1 : decode cX6_inForce 1 = .ok (.getfield 7, 3) := by decide +kernel
theorem dX6_inForce_4 : decode cX6_inForce 4 = .ok (.bipush 58, 2) := by decide +kernel
theorem dX6_inForce_6 : decode cX6_inForce 6 = .ok (.iconst 4, 1) := by decide +kernel
theorem dX6_inForce_7 : decode cX6_inForce 7 = .ok (.aload_n 0, 1) := by decide +kernel
theorem dX6_inForce_8 : decode cX6_inForce 8 = .ok (.invokevirtual 52, 3) := by decide +kernel
theorem dX6_inForce_11 : decode cX6_inForce 11 = .ok (.imul, 1) := by decide +kernel
theorem dX6_inForce_12 : decode cX6_inForce 12 = .ok (.iadd, 1) := by decide +kernel
theorem dX6_inForce_13 : decode cX6_inForce 13 = .ok (.iload_n 1, 1) := by decide +kernel
theorem dX6_inForce_14 : decode cX6_inForce 14 = .ok (.iadd, 1) := by decide +kernel
theorem dX6_inForce_15 : decode cX6_inForce 15 = .ok (.iaload, 1) := by decide +kernel
theorem dX6_inForce_16 : decode cX6_inForce 16 = .ok (.ireturn, 1) := by decide +kernel
set_option maxRecDepth 20000 in
theorem ggX6_confirmedSlot_X6_inForce : GoodIn wsX6_confirmedSlot wsX6_inForce := goodIn_r _ [5, 6, 7, 8, 9, 4, 10, 11, 12, 13, 14, 15, 16, 17, 18, 19, 20, 21, 22, 23, 24, 25, 26, 27, 28, 29, 30, 31, 32] (by decide +kernel) (by decide +kernel)
set_option maxRecDepth 20000 in
theorem gX6_confirmedSlot_X6_inForce : GoodIn wsX6_confirmedSlot (wsV RX6 56 RX6 yX6_inForce wsX6_inForce) := goodIn_app (goodIn_of _ (by decide +kernel)) ggX6_confirmedSlot_X6_inForce
theorem dX6_confirmedSlot_0 : decode cX6_confirmedSlot 0 = .ok (.aload_n 0, 1) := by decide +kernel
theorem dX6_confirmedSlot_1 : decode cX6_confirmedSlot 1 = .ok (.iconst 2, 1) := by decide +kernel
theorem dX6_confirmedSlot_2 : decode cX6_confirmedSlot 2 = .ok (.invokevirtual 56, 3) := by decide +kernel
theorem dX6_confirmedSlot_5 : decode cX6_confirmedSlot 5 = .ok (.iconst 2, 1) := by decide +kernel
theorem dX6_confirmedSlot_6 : decode cX6_confirmedSlot 6 = .ok (.irem, 1) := by decide +kernel
theorem dX6_confirmedSlot_7 : decode cX6_confirmedSlot 7 = .ok (.ireturn, 1) := by decide +kernel
set_option maxRecDepth 20000 in
theorem ggX6_isDue_X6_inForce : GoodIn wsX6_isDue wsX6_inForce := goodIn_r _ [5, 6, 7, 8, 9, 4, 10, 11, 12, 13, 14, 15, 16, 17, 18, 19, 20, 21, 22, 23, 24, 25, 26, 27, 28, 29, 30, 31, 32] (by decide +kernel) (by decide +kernel)
set_option maxRecDepth 20000 in
theorem gX6_isDue_X6_inForce : GoodIn wsX6_isDue (wsV RX6 56 RX6 yX6_inForce wsX6_inForce) := goodIn_app (goodIn_of _ (by decide +kernel)) ggX6_isDue_X6_inForce
theorem dX6_isDue_0 : decode cX6_isDue 0 = .ok (.aload_n 0, 1) := by decide +kernel
theorem dX6_isDue_1 : decode cX6_isDue 1 = .ok (.iconst 2, 1) := by decide +kernel
theorem dX6_isDue_2 : decode cX6_isDue 2 = .ok (.invokevirtual 56, 3) := by decide +kernel
theorem dX6_isDue_5 : decode cX6_isDue 5 = .ok (.iconst 2, 1) := by decide +kernel
theorem dX6_isDue_6 : decode cX6_isDue 6 = .ok (.idiv, 1) := by decide +kernel
theorem dX6_isDue_7 : decode cX6_isDue 7 = .ok (.iconst 2, 1) := by decide +kernel
theorem dX6_isDue_8 : decode cX6_isDue 8 = .ok (.irem, 1) := by decide +kernel
theorem dX6_isDue_9 : decode cX6_isDue 9 = .ok (.iconst 1, 1) := by decide +kernel
theorem dX6_isDue_10 : decode cX6_isDue 10 = .ok (.if_icmp .ne 7, 3) := by decide +kernel
theorem dX6_isDue_13 : decode cX6_isDue 13 = .ok (.iconst 1, 1) := by decide +kernel
theorem dX6_isDue_14 : decode cX6_isDue 14 = .ok (.goto 4, 3) := by decide +kernel
theorem dX6_isDue_17 : decode cX6_isDue 17 = .ok (.iconst 0, 1) := by decide +kernel
theorem dX6_isDue_18 : decode cX6_isDue 18 = .ok (.ireturn, 1) := by decide +kernel
set_option maxRecDepth 20000 in
theorem ggX6_triesLeft_X6_isDue : GoodIn wsX6_triesLeft wsX6_isDue := goodIn_r _ [5, 6, 7, 8, 4, 9, 10, 11, 12, 13, 14, 15, 16, 17, 18, 19, 20, 21, 22, 23, 24, 25, 26, 27, 28, 29, 30, 31, 32, 33, 34, 35, 36] (by decide +kernel) (by decide +kernel)
set_option maxRecDepth 20000 in
theorem gX6_triesLeft_X6_isDue : GoodIn wsX6_triesLeft (wsV RX6 59 RX6 yX6_isDue wsX6_isDue) := goodIn_app (goodIn_of _ (by decide +kernel)) ggX6_triesLeft_X6_isDue
set_option maxRecDepth 20000 in
theorem ggX6_triesLeft_X6_inForce : GoodIn wsX6_triesLeft wsX6_inForce := goodIn_r _ [9, 10, 11, 12, 13, 4, 14, 15, 16, 17, 18, 19, 20, 21, 22, 23, 24, 25, 26, 27, 28, 29, 30, 31, 32, 33, 34, 35, 36] (by decide +kernel) (by decide +kernel)
set_option maxRecDepth 20000 in
theorem gX6_triesLeft_X6_inForce : GoodIn wsX6_triesLeft (wsV RX6 56 RX6 yX6_inForce wsX6_inForce) := goodIn_app (goodIn_of _ (by decide +kernel)) ggX6_triesLeft_X6_inForce
theorem dX6_triesLeft_0 : decode cX6_triesLeft 0 = .ok (.aload_n 0, 1) := by decide +kernel
theorem dX6_triesLeft_1 : decode cX6_triesLeft 1 = .ok (.invokevirtual 59, 3) := by decide +kernel
theorem dX6_triesLeft_4 : decode cX6_triesLeft 4 = .ok (.ifCond .eq 13, 3) := by decide +kernel
theorem dX6_triesLeft_7 : decode cX6_triesLeft 7 = .ok (.aload_n 0, 1) := by decide +kernel
theorem dX6_triesLeft_8 : decode cX6_triesLeft 8 = .ok (.iconst 2, 1) := by decide +kernel
theorem dX6_triesLeft_9 : decode cX6_triesLeft 9 = .ok (.invokevirtual 56, 3) := by decide +kernel
theorem dX6_triesLeft_12 : decode cX6_triesLeft 12 = .ok (.iconst 4, 1) := by decide +kernel
theorem dX6_triesLeft_13 : decode cX6_triesLeft 13 = .ok (.idiv, 1) := by decide +kernel
theorem dX6_triesLeft_14 : decode cX6_triesLeft 14 = .ok (.goto 4, 3) := by decide +kernel
theorem dX6_triesLeft_17 : decode cX6_triesLeft 17 = .ok (.iconst 0, 1) := by decide +kernel
theorem dX6_triesLeft_18 : decode cX6_triesLeft 18 = .ok (.ireturn, 1) := by decide +kernel
theorem dX6_goesOff_0 : decode cX6_goesOff 0 = .ok (.aload_n 0, 1) := by decide +kernel
theorem dX6_goesOff_1 : decode cX6_goesOff 1 = .ok (.iconst 0, 1) := by decide +kernel
theorem dX6_goesOff_2 : decode cX6_goesOff 2 = .ok (.putfield 63, 3) := by decide +kernel
theorem dX6_goesOff_5 : decode cX6_goesOff 5 = .ok (.aload_n 0, 1) := by decide +kernel
theorem dX6_goesOff_6 : decode cX6_goesOff 6 = .ok (.iconst (-1), 1) := by decide +kernel
theorem dX6_goesOff_7 : decode cX6_goesOff 7 = .ok (.putfield 16, 3) := by decide +kernel
theorem dX6_goesOff_10 : decode cX6_goesOff 10 = .ok (.aload_n 0, 1) := by decide +kernel
theorem dX6_goesOff_11 : decode cX6_goesOff 11 = .ok (.iconst (-1), 1) := by decide +kernel
theorem dX6_goesOff_12 : decode cX6_goesOff 12 = .ok (.putfield 23, 3) := by decide +kernel
theorem dX6_goesOff_15 : decode cX6_goesOff 15 = .ok (.return_, 1) := by decide +kernel
set_option maxRecDepth 20000 in
theorem ggX6_lays_X6_goesOff : GoodIn wsX6_lays wsX6_goesOff := goodIn_r _ [8, 9, 10, 11, 12, 13, 14, 15, 16, 17, 18, 19, 20, 21, 22, 23, 24, 25] (by decide +kernel) (by decide +kernel)
set_option maxRecDepth 20000 in
theorem gX6_lays_X6_goesOff : GoodIn wsX6_lays (wsV RX6 70 RX6 yX6_goesOff wsX6_goesOff) := goodIn_app (goodIn_of _ (by decide +kernel)) ggX6_lays_X6_goesOff
theorem dX6_lays_0 : decode cX6_lays 0 = .ok (.aload_n 0, 1) := by decide +kernel
theorem dX6_lays_1 : decode cX6_lays 1 = .ok (.dup, 1) := by decide +kernel
theorem dX6_lays_2 : decode cX6_lays 2 = .ok (.getfield 67, 3) := by decide +kernel
theorem dX6_lays_5 : decode cX6_lays 5 = .ok (.iconst 1, 1) := by decide +kernel
theorem dX6_lays_6 : decode cX6_lays 6 = .ok (.iadd, 1) := by decide +kernel
theorem dX6_lays_7 : decode cX6_lays 7 = .ok (.putfield 67, 3) := by decide +kernel
theorem dX6_lays_10 : decode cX6_lays 10 = .ok (.aload_n 0, 1) := by decide +kernel
theorem dX6_lays_11 : decode cX6_lays 11 = .ok (.getfield 20, 3) := by decide +kernel
theorem dX6_lays_14 : decode cX6_lays 14 = .ok (.ifCond .ne 24, 3) := by decide +kernel
theorem dX6_lays_17 : decode cX6_lays 17 = .ok (.aload_n 0, 1) := by decide +kernel
theorem dX6_lays_18 : decode cX6_lays 18 = .ok (.getfield 7, 3) := by decide +kernel
theorem dX6_lays_21 : decode cX6_lays 21 = .ok (.iload_n 1, 1) := by decide +kernel
theorem dX6_lays_22 : decode cX6_lays 22 = .ok (.dup2, 1) := by decide +kernel
theorem dX6_lays_23 : decode cX6_lays 23 = .ok (.iaload, 1) := by decide +kernel
theorem dX6_lays_24 : decode cX6_lays 24 = .ok (.iload_n 2, 1) := by decide +kernel
theorem dX6_lays_25 : decode cX6_lays 25 = .ok (.iand, 1) := by decide +kernel
theorem dX6_lays_26 : decode cX6_lays 26 = .ok (.iastore, 1) := by decide +kernel
theorem dX6_lays_27 : decode cX6_lays 27 = .ok (.aload_n 0, 1) := by decide +kernel
theorem dX6_lays_28 : decode cX6_lays 28 = .ok (.iconst (-1), 1) := by decide +kernel
theorem dX6_lays_29 : decode cX6_lays 29 = .ok (.putfield 20, 3) := by decide +kernel
theorem dX6_lays_32 : decode cX6_lays 32 = .ok (.aload_n 0, 1) := by decide +kernel
theorem dX6_lays_33 : decode cX6_lays 33 = .ok (.invokevirtual 70, 3) := by decide +kernel
theorem dX6_lays_36 : decode cX6_lays 36 = .ok (.iconst 0, 1) := by decide +kernel
theorem dX6_lays_37 : decode cX6_lays 37 = .ok (.ireturn, 1) := by decide +kernel
theorem dX6_lays_38 : decode cX6_lays 38 = .ok (.aload_n 0, 1) := by decide +kernel
theorem dX6_lays_39 : decode cX6_lays 39 = .ok (.dup, 1) := by decide +kernel
theorem dX6_lays_40 : decode cX6_lays 40 = .ok (.getfield 20, 3) := by decide +kernel
theorem dX6_lays_43 : decode cX6_lays 43 = .ok (.aload_n 0, 1) := by decide +kernel
theorem dX6_lays_44 : decode cX6_lays 44 = .ok (.getfield 20, 3) := by decide +kernel
theorem dX6_lays_47 : decode cX6_lays 47 = .ok (.ifCond .le 7, 3) := by decide +kernel
theorem dX6_lays_50 : decode cX6_lays 50 = .ok (.iconst 1, 1) := by decide +kernel
theorem dX6_lays_51 : decode cX6_lays 51 = .ok (.goto 4, 3) := by decide +kernel
theorem dX6_lays_54 : decode cX6_lays 54 = .ok (.iconst 0, 1) := by decide +kernel
theorem dX6_lays_55 : decode cX6_lays 55 = .ok (.isub, 1) := by decide +kernel
theorem dX6_lays_56 : decode cX6_lays 56 = .ok (.putfield 20, 3) := by decide +kernel
theorem dX6_lays_59 : decode cX6_lays 59 = .ok (.aload_n 0, 1) := by decide +kernel
theorem dX6_lays_60 : decode cX6_lays 60 = .ok (.getfield 7, 3) := by decide +kernel
theorem dX6_lays_63 : decode cX6_lays 63 = .ok (.iload_n 1, 1) := by decide +kernel
theorem dX6_lays_64 : decode cX6_lays 64 = .ok (.iload_n 2, 1) := by decide +kernel
theorem dX6_lays_65 : decode cX6_lays 65 = .ok (.iastore, 1) := by decide +kernel
theorem dX6_lays_66 : decode cX6_lays 66 = .ok (.iconst 1, 1) := by decide +kernel
theorem dX6_lays_67 : decode cX6_lays 67 = .ok (.ireturn, 1) := by decide +kernel
set_option maxRecDepth 20000 in
theorem ggX6_records_X6_force : GoodIn wsX6_records wsX6_force := goodIn_r _ [6, 1, 7, 8, 9, 5, 10, 11, 12, 13, 14, 28, 29, 30, 31, 32, 33, 34, 35, 36, 37, 38, 39, 40, 41] (by decide +kernel) (by decide +kernel)
set_option maxRecDepth 20000 in
theorem gX6_records_X6_force : GoodIn wsX6_records (wsV RX6 52 RX6 yX6_force wsX6_force) := goodIn_app (goodIn_of _ (by decide +kernel)) ggX6_records_X6_force
set_option maxRecDepth 20000 in
theorem ggX6_records_X6_lays : GoodIn wsX6_records wsX6_lays := goodIn_r _ [18, 19, 20, 1, 21, 22, 23, 5, 24, 25, 26, 27, 28, 29, 30, 31, 32, 33, 34, 35, 36, 37, 38, 39, 40, 41] (by decide +kernel) (by decide +kernel)
set_option maxRecDepth 20000 in
theorem gX6_records_X6_lays : GoodIn wsX6_records (wsV RX6 73 RX6 yX6_lays wsX6_lays) := goodIn_app (goodIn_of _ (by decide +kernel)) ggX6_records_X6_lays
set_option maxRecDepth 20000 in
theorem ggX6_records_X6_rightCheck : GoodIn wsX6_records wsX6_rightCheck := goodIn_r _ [14, 1, 28, 29, 30, 31, 32, 33, 34, 35, 36, 37, 38, 39, 40, 41] (by decide +kernel) (by decide +kernel)
set_option maxRecDepth 20000 in
theorem gX6_records_X6_rightCheck : GoodIn wsX6_records (wsV RX6 33 RX6 yX6_rightCheck wsX6_rightCheck) := goodIn_app (goodIn_of _ (by decide +kernel)) ggX6_records_X6_rightCheck
theorem dX6_records_0 : decode cX6_records 0 = .ok (.aload_n 0, 1) := by decide +kernel
theorem dX6_records_1 : decode cX6_records 1 = .ok (.invokevirtual 52, 3) := by decide +kernel
theorem dX6_records_4 : decode cX6_records 4 = .ok (.istore_n 3, 1) := by decide +kernel
theorem dX6_records_5 : decode cX6_records 5 = .ok (.bipush 58, 2) := by decide +kernel
theorem dX6_records_7 : decode cX6_records 7 = .ok (.iconst 4, 1) := by decide +kernel
theorem dX6_records_8 : decode cX6_records 8 = .ok (.iconst 1, 1) := by decide +kernel
theorem dX6_records_9 : decode cX6_records 9 = .ok (.iload_n 3, 1) := by decide +kernel
theorem dX6_records_10 : decode cX6_records 10 = .ok (.isub, 1) := by decide +kernel
theorem dX6_records_11 : decode cX6_records 11 = .ok (.imul, 1) := by decide +kernel
theorem dX6_records_12 : decode cX6_records 12 = .ok (.iadd, 1) := by decide +kernel
theorem dX6_records_13 : decode cX6_records 13 = .ok (.istore 4, 2) := by decide +kernel
theorem dX6_records_15 : decode cX6_records 15 = .ok (.aload_n 0, 1) := by decide +kernel
theorem dX6_records_16 : decode cX6_records 16 = .ok (.iload 4, 2) := by decide +kernel
theorem dX6_records_18 : decode cX6_records 18 = .ok (.iconst 0, 1) := by decide +kernel
theorem dX6_records_19 : decode cX6_records 19 = .ok (.iadd, 1) := by decide +kernel
theorem dX6_records_20 : decode cX6_records 20 = .ok (.iconst 0, 1) := by decide +kernel
theorem dX6_records_21 : decode cX6_records 21 = .ok (.invokevirtual 73, 3) := by decide +kernel
theorem dX6_records_24 : decode cX6_records 24 = .ok (.ifCond .eq 57, 3) := by decide +kernel
theorem dX6_records_27 : decode cX6_records 27 = .ok (.aload_n 0, 1) := by decide +kernel
theorem dX6_records_28 : decode cX6_records 28 = .ok (.iload 4, 2) := by decide +kernel
theorem dX6_records_30 : decode cX6_records 30 = .ok (.iconst 1, 1) := by decide +kernel
theorem dX6_records_31 : decode cX6_records 31 = .ok (.iadd, 1) := by decide +kernel
theorem dX6_records_32 : decode cX6_records 32 = .ok (.aload_n 0, 1) := by decide +kernel
theorem dX6_records_33 : decode cX6_records 33 = .ok (.getfield 7, 3) := by decide +kernel
theorem dX6_records_36 : decode cX6_records 36 = .ok (.bipush 58, 2) := by decide +kernel
theorem dX6_records_38 : decode cX6_records 38 = .ok (.iconst 4, 1) := by decide +kernel
theorem dX6_records_39 : decode cX6_records 39 = .ok (.iload_n 3, 1) := by decide +kernel
theorem dX6_records_40 : decode cX6_records 40 = .ok (.imul, 1) := by decide +kernel
theorem dX6_records_41 : decode cX6_records 41 = .ok (.iadd, 1) := by decide +kernel
theorem dX6_records_42 : decode cX6_records 42 = .ok (.iconst 1, 1) := by decide +kernel
theorem dX6_records_43 : decode cX6_records 43 = .ok (.iadd, 1) := by decide +kernel
theorem dX6_records_44 : decode cX6_records 44 = .ok (.iaload, 1) := by decide +kernel
theorem dX6_records_45 : decode cX6_records 45 = .ok (.iconst 1, 1) := by decide +kernel
theorem dX6_records_46 : decode cX6_records 46 = .ok (.iadd, 1) := by decide +kernel
theorem dX6_records_47 : decode cX6_records 47 = .ok (.invokevirtual 73, 3) := by decide +kernel
theorem dX6_records_50 : decode cX6_records 50 = .ok (.ifCond .eq 31, 3) := by decide +kernel
theorem dX6_records_53 : decode cX6_records 53 = .ok (.aload_n 0, 1) := by decide +kernel
theorem dX6_records_54 : decode cX6_records 54 = .ok (.iload 4, 2) := by decide +kernel
theorem dX6_records_56 : decode cX6_records 56 = .ok (.iconst 2, 1) := by decide +kernel
theorem dX6_records_57 : decode cX6_records 57 = .ok (.iadd, 1) := by decide +kernel
theorem dX6_records_58 : decode cX6_records 58 = .ok (.iload_n 1, 1) := by decide +kernel
theorem dX6_records_59 : decode cX6_records 59 = .ok (.invokevirtual 73, 3) := by decide +kernel
theorem dX6_records_62 : decode cX6_records 62 = .ok (.ifCond .eq 19, 3) := by decide +kernel
theorem dX6_records_65 : decode cX6_records 65 = .ok (.aload_n 0, 1) := by decide +kernel
theorem dX6_records_66 : decode cX6_records 66 = .ok (.iload 4, 2) := by decide +kernel
theorem dX6_records_68 : decode cX6_records 68 = .ok (.iconst 3, 1) := by decide +kernel
theorem dX6_records_69 : decode cX6_records 69 = .ok (.iadd, 1) := by decide +kernel
theorem dX6_records_70 : decode cX6_records 70 = .ok (.iload_n 2, 1) := by decide +kernel
theorem dX6_records_71 : decode cX6_records 71 = .ok (.invokevirtual 73, 3) := by decide +kernel
theorem dX6_records_74 : decode cX6_records 74 = .ok (.ifCond .eq 7, 3) := by decide +kernel
theorem dX6_records_77 : decode cX6_records 77 = .ok (.iconst 1, 1) := by decide +kernel
theorem dX6_records_78 : decode cX6_records 78 = .ok (.goto 4, 3) := by decide +kernel
theorem dX6_records_81 : decode cX6_records 81 = .ok (.iconst 0, 1) := by decide +kernel
theorem dX6_records_82 : decode cX6_records 82 = .ok (.istore 5, 2) := by decide +kernel
theorem dX6_records_84 : decode cX6_records 84 = .ok (.iload 5, 2) := by decide +kernel
theorem dX6_records_86 : decode cX6_records 86 = .ok (.ifCond .eq 25, 3) := by decide +kernel
theorem dX6_records_89 : decode cX6_records 89 = .ok (.aload_n 0, 1) := by decide +kernel
theorem dX6_records_90 : decode cX6_records 90 = .ok (.iload 4, 2) := by decide +kernel
theorem dX6_records_92 : decode cX6_records 92 = .ok (.iconst 0, 1) := by decide +kernel
theorem dX6_records_93 : decode cX6_records 93 = .ok (.iadd, 1) := by decide +kernel
theorem dX6_records_94 : decode cX6_records 94 = .ok (.aload_n 0, 1) := by decide +kernel
theorem dX6_records_95 : decode cX6_records 95 = .ok (.iconst 1, 1) := by decide +kernel
theorem dX6_records_96 : decode cX6_records 96 = .ok (.iload_n 3, 1) := by decide +kernel
theorem dX6_records_97 : decode cX6_records 97 = .ok (.isub, 1) := by decide +kernel
theorem dX6_records_98 : decode cX6_records 98 = .ok (.invokevirtual 33, 3) := by decide +kernel
theorem dX6_records_101 : decode cX6_records 101 = .ok (.invokevirtual 73, 3) := by decide +kernel
theorem dX6_records_104 : decode cX6_records 104 = .ok (.ifCond .eq 7, 3) := by decide +kernel
theorem dX6_records_107 : decode cX6_records 107 = .ok (.iconst 1, 1) := by decide +kernel
theorem dX6_records_108 : decode cX6_records 108 = .ok (.goto 4, 3) := by decide +kernel
theorem dX6_records_111 : decode cX6_records 111 = .ok (.iconst 0, 1) := by decide +kernel
theorem dX6_records_112 : decode cX6_records 112 = .ok (.ireturn, 1) := by decide +kernel
set_option maxRecDepth 20000 in
theorem ggX6_willTry_X6_isDue : GoodIn wsX6_willTry wsX6_isDue := goodIn_r _ [6, 7, 8, 9, 5, 10, 1, 11, 12, 13, 14, 15, 16, 17, 18, 19, 20, 21, 22, 42, 43, 44, 45, 46, 47, 48, 49, 50, 51, 52, 53, 54, 55] (by decide +kernel) (by decide +kernel)
set_option maxRecDepth 20000 in
theorem gX6_willTry_X6_isDue : GoodIn wsX6_willTry (wsV RX6 59 RX6 yX6_isDue wsX6_isDue) := goodIn_app (goodIn_of _ (by decide +kernel)) ggX6_willTry_X6_isDue
set_option maxRecDepth 20000 in
theorem ggX6_willTry_X6_triesLeft : GoodIn wsX6_willTry wsX6_triesLeft := goodIn_r _ [26, 2, 3, 4, 5, 6, 7, 8, 9, 10, 1, 11, 12, 13, 14, 15, 16, 17, 18, 19, 20, 21, 22, 42, 43, 44, 45, 46, 47, 48, 49, 50, 51, 52, 53, 54, 55] (by decide +kernel) (by decide +kernel)
set_option maxRecDepth 20000 in
theorem gX6_willTry_X6_triesLeft : GoodIn wsX6_willTry (wsV RX6 77 RX6 yX6_triesLeft wsX6_triesLeft) := goodIn_app (goodIn_of _ (by decide +kernel)) ggX6_willTry_X6_triesLeft
set_option maxRecDepth 20000 in
theorem ggX6_willTry_X6_canStart : GoodIn wsX6_willTry wsX6_canStart := goodIn_r _ [30, 1, 31, 32, 5, 33, 34, 35, 36, 37, 38, 39, 40, 41, 42, 43, 44, 45, 46, 47, 48, 49, 50, 51, 52, 53, 54, 55] (by decide +kernel) (by decide +kernel)
set_option maxRecDepth 20000 in
theorem gX6_willTry_X6_canStart : GoodIn wsX6_willTry (wsV RX6 80 RX6 yX6_canStart wsX6_canStart) := goodIn_app (goodIn_of _ (by decide +kernel)) ggX6_willTry_X6_canStart
set_option maxRecDepth 20000 in
theorem ggX6_willTry_X6_inForce : GoodIn wsX6_willTry wsX6_inForce := goodIn_r _ [10, 1, 11, 12, 13, 5, 14, 15, 16, 17, 18, 19, 20, 21, 22, 42, 43, 44, 45, 46, 47, 48, 49, 50, 51, 52, 53, 54, 55] (by decide +kernel) (by decide +kernel)
set_option maxRecDepth 20000 in
theorem gX6_willTry_X6_inForce : GoodIn wsX6_willTry (wsV RX6 56 RX6 yX6_inForce wsX6_inForce) := goodIn_app (goodIn_of _ (by decide +kernel)) ggX6_willTry_X6_inForce
theorem dX6_willTry_0 : decode cX6_willTry 0 = .ok (.aload_n 0, 1) := by decide +kernel
theorem dX6_willTry_1 : decode cX6_willTry 1 = .ok (.invokevirtual 59, 3) := by decide +kernel
theorem dX6_willTry_4 : decode cX6_willTry 4 = .ok (.ifCond .eq 45, 3) := by decide +kernel
theorem dX6_willTry_7 : decode cX6_willTry 7 = .ok (.aload_n 0, 1) := by decide +kernel
theorem dX6_willTry_8 : decode cX6_willTry 8 = .ok (.invokevirtual 77, 3) := by decide +kernel
theorem dX6_willTry_11 : decode cX6_willTry 11 = .ok (.ifCond .le 38, 3) := by decide +kernel
theorem dX6_willTry_14 : decode cX6_willTry 14 = .ok (.aload_n 0, 1) := by decide +kernel
theorem dX6_willTry_15 : decode cX6_willTry 15 = .ok (.iconst 1, 1) := by decide +kernel
theorem dX6_willTry_16 : decode cX6_willTry 16 = .ok (.iload_n 1, 1) := by decide +kernel
theorem dX6_willTry_17 : decode cX6_willTry 17 = .ok (.isub, 1) := by decide +kernel
theorem dX6_willTry_18 : decode cX6_willTry 18 = .ok (.invokevirtual 80, 3) := by decide +kernel
theorem dX6_willTry_21 : decode cX6_willTry 21 = .ok (.ifCond .eq 28, 3) := by decide +kernel
theorem dX6_willTry_24 : decode cX6_willTry 24 = .ok (.aload_n 0, 1) := by decide +kernel
theorem dX6_willTry_25 : decode cX6_willTry 25 = .ok (.getfield 7, 3) := by decide +kernel
theorem dX6_willTry_28 : decode cX6_willTry 28 = .ok (.bipush 29, 2) := by decide +kernel
theorem dX6_willTry_30 : decode cX6_willTry 30 = .ok (.iconst 1, 1) := by decide +kernel
theorem dX6_willTry_31 : decode cX6_willTry 31 = .ok (.iload_n 1, 1) := by decide +kernel
theorem dX6_willTry_32 : decode cX6_willTry 32 = .ok (.isub, 1) := by decide +kernel
theorem dX6_willTry_33 : decode cX6_willTry 33 = .ok (.imul, 1) := by decide +kernel
theorem dX6_willTry_34 : decode cX6_willTry 34 = .ok (.iconst 4, 1) := by decide +kernel
theorem dX6_willTry_35 : decode cX6_willTry 35 = .ok (.iadd, 1) := by decide +kernel
theorem dX6_willTry_36 : decode cX6_willTry 36 = .ok (.iaload, 1) := by decide +kernel
theorem dX6_willTry_37 : decode cX6_willTry 37 = .ok (.aload_n 0, 1) := by decide +kernel
theorem dX6_willTry_38 : decode cX6_willTry 38 = .ok (.iconst 3, 1) := by decide +kernel
theorem dX6_willTry_39 : decode cX6_willTry 39 = .ok (.invokevirtual 56, 3) := by decide +kernel
theorem dX6_willTry_42 : decode cX6_willTry 42 = .ok (.if_icmp .lt 7, 3) := by decide +kernel
theorem dX6_willTry_45 : decode cX6_willTry 45 = .ok (.iconst 1, 1) := by decide +kernel
theorem dX6_willTry_46 : decode cX6_willTry 46 = .ok (.goto 4, 3) := by decide +kernel
theorem dX6_willTry_49 : decode cX6_willTry 49 = .ok (.iconst 0, 1) := by decide +kernel
theorem dX6_willTry_50 : decode cX6_willTry 50 = .ok (.ireturn, 1) := by decide +kernel
set_option maxRecDepth 20000 in
theorem ggX6_switchOn_X6_confirmedSlot : GoodIn wsX6_switchOn wsX6_confirmedSlot := goodIn_r _ [8, 9, 10, 11, 7, 12, 13, 14, 15, 16, 17, 18, 19, 20, 21, 22, 23, 24, 25, 68, 69, 70, 71, 72, 73, 74, 75, 76, 77, 78, 79, 80, 81] (by decide +kernel) (by decide +kernel)
set_option maxRecDepth 20000 in
theorem gX6_switchOn_X6_confirmedSlot : GoodIn wsX6_switchOn (wsV RX6 83 RX6 yX6_confirmedSlot wsX6_confirmedSlot) := goodIn_app (goodIn_of _ (by decide +kernel)) ggX6_switchOn_X6_confirmedSlot
set_option maxRecDepth 20000 in
theorem ggX6_switchOn_X6_willTry : GoodIn wsX6_switchOn wsX6_willTry := goodIn_r _ [29, 13, 30, 31, 32, 7, 33, 9, 10, 11, 12, 14, 15, 16, 17, 18, 19, 20, 21, 22, 23, 24, 25, 34, 35, 36, 37, 38, 39, 40, 41, 42, 43, 44, 45, 46, 47, 48, 49, 50, 51, 52, 68, 69, 70, 71, 72, 73, 74, 75, 76, 77, 78, 79, 80, 81] (by decide +kernel) (by decide +kernel)
set_option maxRecDepth 20000 in
theorem gX6_switchOn_X6_willTry : GoodIn wsX6_switchOn (wsV RX6 86 RX6 yX6_willTry wsX6_willTry) := goodIn_app (goodIn_of _ (by decide +kernel)) ggX6_switchOn_X6_willTry
set_option maxRecDepth 20000 in
theorem ggX6_switchOn_X6_isDue : GoodIn wsX6_switchOn wsX6_isDue := goodIn_r _ [33, 9, 10, 11, 7, 12, 13, 14, 15, 16, 17, 18, 19, 20, 21, 22, 23, 24, 25, 68, 69, 70, 71, 72, 73, 74, 75, 76, 77, 78, 79, 80, 81] (by decide +kernel) (by decide +kernel)
set_option maxRecDepth 20000 in
theorem gX6_switchOn_X6_isDue : GoodIn wsX6_switchOn (wsV RX6 59 RX6 yX6_isDue wsX6_isDue) := goodIn_app (goodIn_of _ (by decide +kernel)) ggX6_switchOn_X6_isDue
set_option maxRecDepth 20000 in
theorem ggX6_switchOn_X6_triesLeft : GoodIn wsX6_switchOn wsX6_triesLeft := goodIn_r _ [37, 30, 31, 32, 7, 33, 9, 10, 11, 12, 13, 14, 15, 16, 17, 18, 19, 20, 21, 22, 23, 24, 25, 68, 69, 70, 71, 72, 73, 74, 75, 76, 77, 78, 79, 80, 81] (by decide +kernel) (by decide +kernel)
set_option maxRecDepth 20000 in
theorem gX6_switchOn_X6_triesLeft : GoodIn wsX6_switchOn (wsV RX6 77 RX6 yX6_triesLeft wsX6_triesLeft) := goodIn_app (goodIn_of _ (by decide +kernel)) ggX6_switchOn_X6_triesLeft
set_option maxRecDepth 20000 in
theorem ggX6_switchOn_X6_inForce : GoodIn wsX6_switchOn wsX6_inForce := goodIn_r _ [12, 13, 14, 15, 16, 7, 17, 18, 19, 20, 21, 22, 23, 24, 25, 68, 69, 70, 71, 72, 73, 74, 75, 76, 77, 78, 79, 80, 81] (by decide +kernel) (by decide +kernel)
set_option maxRecDepth 20000 in
theorem gX6_switchOn_X6_inForce : GoodIn wsX6_switchOn (wsV RX6 56 RX6 yX6_inForce wsX6_inForce) := goodIn_app (goodIn_of _ (by decide +kernel)) ggX6_switchOn_X6_inForce
set_option maxRecDepth 20000 in
theorem ggX6_switchOn_X6_records : GoodIn wsX6_switchOn wsX6_records := goodIn_r _ [56, 13, 14, 15, 16, 7, 17, 18, 19, 20, 21, 22, 23, 24, 25, 57, 58, 59, 60, 61, 62, 63, 64, 65, 66, 1, 3, 67, 68, 69, 70, 71, 72, 73, 74, 75, 76, 77, 78, 79, 80, 81] (by decide +kernel) (by decide +kernel)
set_option maxRecDepth 20000 in
theorem gX6_switchOn_X6_records : GoodIn wsX6_switchOn (wsV RX6 89 RX6 yX6_records wsX6_records) := goodIn_app (goodIn_of _ (by decide +kernel)) ggX6_switchOn_X6_records
theorem dX6_switchOn_0 : decode cX6_switchOn 0 = .ok (.aload_n 0, 1) := by decide +kernel
theorem dX6_switchOn_1 : decode cX6_switchOn 1 = .ok (.aload_n 0, 1) := by decide +kernel
theorem dX6_switchOn_2 : decode cX6_switchOn 2 = .ok (.getfield 63, 3) := by decide +kernel
theorem dX6_switchOn_5 : decode cX6_switchOn 5 = .ok (.ifCond .eq 7, 3) := by decide +kernel
theorem dX6_switchOn_8 : decode cX6_switchOn 8 = .ok (.iconst 1, 1) := by decide +kernel
theorem dX6_switchOn_9 : decode cX6_switchOn 9 = .ok (.goto 4, 3) := by decide +kernel
theorem dX6_switchOn_12 : decode cX6_switchOn 12 = .ok (.iconst 0, 1) := by decide +kernel
theorem dX6_switchOn_13 : decode cX6_switchOn 13 = .ok (.putfield 37, 3) := by decide +kernel
theorem dX6_switchOn_16 : decode cX6_switchOn 16 = .ok (.aload_n 0, 1) := by decide +kernel
theorem dX6_switchOn_17 : decode cX6_switchOn 17 = .ok (.getfield 37, 3) := by decide +kernel
theorem dX6_switchOn_20 : decode cX6_switchOn 20 = .ok (.ifCond .le 5, 3) := by decide +kernel
theorem dX6_switchOn_23 : decode cX6_switchOn 23 = .ok (.iconst 0, 1) := by decide +kernel
theorem dX6_switchOn_24 : decode cX6_switchOn 24 = .ok (.ireturn, 1) := by decide +kernel
theorem dX6_switchOn_25 : decode cX6_switchOn 25 = .ok (.aload_n 0, 1) := by decide +kernel
theorem dX6_switchOn_26 : decode cX6_switchOn 26 = .ok (.invokevirtual 83, 3) := by decide +kernel
theorem dX6_switchOn_29 : decode cX6_switchOn 29 = .ok (.istore_n 1, 1) := by decide +kernel
theorem dX6_switchOn_30 : decode cX6_switchOn 30 = .ok (.aload_n 0, 1) := by decide +kernel
theorem dX6_switchOn_31 : decode cX6_switchOn 31 = .ok (.iload_n 1, 1) := by decide +kernel
theorem dX6_switchOn_32 : decode cX6_switchOn 32 = .ok (.invokevirtual 86, 3) := by decide +kernel
theorem dX6_switchOn_35 : decode cX6_switchOn 35 = .ok (.istore_n 2, 1) := by decide +kernel
theorem dX6_switchOn_36 : decode cX6_switchOn 36 = .ok (.aload_n 0, 1) := by decide +kernel
theorem dX6_switchOn_37 : decode cX6_switchOn 37 = .ok (.invokevirtual 59, 3) := by decide +kernel
theorem dX6_switchOn_40 : decode cX6_switchOn 40 = .ok (.ifCond .eq 35, 3) := by decide +kernel
theorem dX6_switchOn_43 : decode cX6_switchOn 43 = .ok (.aload_n 0, 1) := by decide +kernel
theorem dX6_switchOn_44 : decode cX6_switchOn 44 = .ok (.iload_n 2, 1) := by decide +kernel
theorem dX6_switchOn_45 : decode cX6_switchOn 45 = .ok (.ifCond .eq 18, 3) := by decide +kernel
theorem dX6_switchOn_48 : decode cX6_switchOn 48 = .ok (.iload_n 1, 1) := by decide +kernel
theorem dX6_switchOn_49 : decode cX6_switchOn 49 = .ok (.iconst 2, 1) := by decide +kernel
theorem dX6_switchOn_50 : decode cX6_switchOn 50 = .ok (.iadd, 1) := by decide +kernel
theorem dX6_switchOn_51 : decode cX6_switchOn 51 = .ok (.iconst 4, 1) := by decide +kernel
theorem dX6_switchOn_52 : decode cX6_switchOn 52 = .ok (.aload_n 0, 1) := by decide +kernel
theorem dX6_switchOn_53 : decode cX6_switchOn 53 = .ok (.invokevirtual 77, 3) := by decide +kernel
theorem dX6_switchOn_56 : decode cX6_switchOn 56 = .ok (.iconst 1, 1) := by decide +kernel
theorem dX6_switchOn_57 : decode cX6_switchOn 57 = .ok (.isub, 1) := by decide +kernel
theorem dX6_switchOn_58 : decode cX6_switchOn 58 = .ok (.imul, 1) := by decide +kernel
theorem dX6_switchOn_59 : decode cX6_switchOn 59 = .ok (.iadd, 1) := by decide +kernel
theorem dX6_switchOn_60 : decode cX6_switchOn 60 = .ok (.goto 4, 3) := by decide +kernel
theorem dX6_switchOn_63 : decode cX6_switchOn 63 = .ok (.iload_n 1, 1) := by decide +kernel
theorem dX6_switchOn_64 : decode cX6_switchOn 64 = .ok (.aload_n 0, 1) := by decide +kernel
theorem dX6_switchOn_65 : decode cX6_switchOn 65 = .ok (.iconst 3, 1) := by decide +kernel
theorem dX6_switchOn_66 : decode cX6_switchOn 66 = .ok (.invokevirtual 56, 3) := by decide +kernel
theorem dX6_switchOn_69 : decode cX6_switchOn 69 = .ok (.invokevirtual 89, 3) := by decide +kernel
theorem dX6_switchOn_72 : decode cX6_switchOn 72 = .ok (.ifCond .eq 7, 3) := by decide +kernel
theorem dX6_switchOn_75 : decode cX6_switchOn 75 = .ok (.iconst 1, 1) := by decide +kernel
theorem dX6_switchOn_76 : decode cX6_switchOn 76 = .ok (.goto 4, 3) := by decide +kernel
theorem dX6_switchOn_79 : decode cX6_switchOn 79 = .ok (.iconst 0, 1) := by decide +kernel
theorem dX6_switchOn_80 : decode cX6_switchOn 80 = .ok (.istore_n 3, 1) := by decide +kernel
theorem dX6_switchOn_81 : decode cX6_switchOn 81 = .ok (.aload_n 0, 1) := by decide +kernel
theorem dX6_switchOn_82 : decode cX6_switchOn 82 = .ok (.iload_n 3, 1) := by decide +kernel
theorem dX6_switchOn_83 : decode cX6_switchOn 83 = .ok (.putfield 63, 3) := by decide +kernel
theorem dX6_switchOn_86 : decode cX6_switchOn 86 = .ok (.aload_n 0, 1) := by decide +kernel
theorem dX6_switchOn_87 : decode cX6_switchOn 87 = .ok (.iload_n 3, 1) := by decide +kernel
theorem dX6_switchOn_88 : decode cX6_switchOn 88 = .ok (.ifCond .ne 7, 3) := by decide +kernel
theorem dX6_switchOn_91 : decode cX6_switchOn 91 = .ok (.iconst (-1), 1) := by decide +kernel
theorem dX6_switchOn_92 : decode cX6_switchOn 92 = .ok (.goto 14, 3) := by decide +kernel
theorem dX6_switchOn_95 : decode cX6_switchOn 95 = .ok (.iload_n 2, 1) := by decide +kernel
theorem dX6_switchOn_96 : decode cX6_switchOn 96 = .ok (.ifCond .eq 9, 3) := by decide +kernel
theorem dX6_switchOn_99 : decode cX6_switchOn 99 = .ok (.iconst 1, 1) := by decide +kernel
theorem dX6_switchOn_100 : decode cX6_switchOn 100 = .ok (.iload_n 1, 1) := by decide +kernel
theorem dX6_switchOn_101 : decode cX6_switchOn 101 = .ok (.isub, 1) := by decide +kernel
theorem dX6_switchOn_102 : decode cX6_switchOn 102 = .ok (.goto 4, 3) := by decide +kernel
theorem dX6_switchOn_105 : decode cX6_switchOn 105 = .ok (.iload_n 1, 1) := by decide +kernel
theorem dX6_switchOn_106 : decode cX6_switchOn 106 = .ok (.putfield 16, 3) := by decide +kernel
theorem dX6_switchOn_109 : decode cX6_switchOn 109 = .ok (.aload_n 0, 1) := by decide +kernel
theorem dX6_switchOn_110 : decode cX6_switchOn 110 = .ok (.getfield 16, 3) := by decide +kernel
theorem dX6_switchOn_113 : decode cX6_switchOn 113 = .ok (.ireturn, 1) := by decide +kernel
set_option maxRecDepth 20000 in
theorem ggX6_switchOff_X6_goesOff : GoodIn wsX6_switchOff wsX6_goesOff := goodIn_r _ [8, 1, 3, 9, 10, 11, 12, 13, 14, 15, 16, 17, 18, 19, 20, 21, 22, 23] (by decide +kernel) (by decide +kernel)
set_option maxRecDepth 20000 in
theorem gX6_switchOff_X6_goesOff : GoodIn wsX6_switchOff (wsV RX6 70 RX6 yX6_goesOff wsX6_goesOff) := goodIn_app (goodIn_of _ (by decide +kernel)) ggX6_switchOff_X6_goesOff
theorem dX6_switchOff_0 : decode cX6_switchOff 0 = .ok (.aload_n 0, 1) := by decide +kernel
theorem dX6_switchOff_1 : decode cX6_switchOff 1 = .ok (.aload_n 0, 1) := by decide +kernel
theorem dX6_switchOff_2 : decode cX6_switchOff 2 = .ok (.getfield 63, 3) := by decide +kernel
theorem dX6_switchOff_5 : decode cX6_switchOff 5 = .ok (.ifCond .eq 7, 3) := by decide +kernel
theorem dX6_switchOff_8 : decode cX6_switchOff 8 = .ok (.iconst 0, 1) := by decide +kernel
theorem dX6_switchOff_9 : decode cX6_switchOff 9 = .ok (.goto 4, 3) := by decide +kernel
theorem dX6_switchOff_12 : decode cX6_switchOff 12 = .ok (.iconst 1, 1) := by decide +kernel
theorem dX6_switchOff_13 : decode cX6_switchOff 13 = .ok (.putfield 37, 3) := by decide +kernel
theorem dX6_switchOff_16 : decode cX6_switchOff 16 = .ok (.aload_n 0, 1) := by decide +kernel
theorem dX6_switchOff_17 : decode cX6_switchOff 17 = .ok (.getfield 37, 3) := by decide +kernel
theorem dX6_switchOff_20 : decode cX6_switchOff 20 = .ok (.ifCond .le 5, 3) := by decide +kernel
theorem dX6_switchOff_23 : decode cX6_switchOff 23 = .ok (.iconst 0, 1) := by decide +kernel
theorem dX6_switchOff_24 : decode cX6_switchOff 24 = .ok (.ireturn, 1) := by decide +kernel
theorem dX6_switchOff_25 : decode cX6_switchOff 25 = .ok (.aload_n 0, 1) := by decide +kernel
theorem dX6_switchOff_26 : decode cX6_switchOff 26 = .ok (.getfield 16, 3) := by decide +kernel
theorem dX6_switchOff_29 : decode cX6_switchOff 29 = .ok (.istore_n 1, 1) := by decide +kernel
theorem dX6_switchOff_30 : decode cX6_switchOff 30 = .ok (.aload_n 0, 1) := by decide +kernel
theorem dX6_switchOff_31 : decode cX6_switchOff 31 = .ok (.invokevirtual 70, 3) := by decide +kernel
theorem dX6_switchOff_34 : decode cX6_switchOff 34 = .ok (.iload_n 1, 1) := by decide +kernel
theorem dX6_switchOff_35 : decode cX6_switchOff 35 = .ok (.ireturn, 1) := by decide +kernel
set_option maxRecDepth 20000 in
theorem ggX6_failAfter_X6_in : GoodIn wsX6_failAfter wsX6_in := goodIn_r _ [6] (by decide +kernel) (by decide +kernel)
set_option maxRecDepth 20000 in
theorem gX6_failAfter_X6_in : GoodIn wsX6_failAfter (va_wsS RX6 44 yX6_in wsX6_in) := goodIn_app (goodIn_of _ (by decide +kernel)) ggX6_failAfter_X6_in
theorem dX6_failAfter_0 : decode cX6_failAfter 0 = .ok (.aload_n 0, 1) := by decide +kernel
theorem dX6_failAfter_1 : decode cX6_failAfter 1 = .ok (.iload_n 1, 1) := by decide +kernel
theorem dX6_failAfter_2 : decode cX6_failAfter 2 = .ok (.iconst (-1), 1) := by decide +kernel
theorem dX6_failAfter_3 : decode cX6_failAfter 3 = .ok (.sipush 1000, 3) := by decide +kernel
theorem dX6_failAfter_6 : decode cX6_failAfter 6 = .ok (.invokestatic 44, 3) := by decide +kernel
theorem dX6_failAfter_9 : decode cX6_failAfter 9 = .ok (.ifCond .eq 7, 3) := by decide +kernel
theorem dX6_failAfter_12 : decode cX6_failAfter 12 = .ok (.iconst 0, 1) := by decide +kernel
theorem dX6_failAfter_13 : decode cX6_failAfter 13 = .ok (.goto 4, 3) := by decide +kernel
theorem dX6_failAfter_16 : decode cX6_failAfter 16 = .ok (.iconst 1, 1) := by decide +kernel
theorem dX6_failAfter_17 : decode cX6_failAfter 17 = .ok (.putfield 37, 3) := by decide +kernel
theorem dX6_failAfter_20 : decode cX6_failAfter 20 = .ok (.aload_n 0, 1) := by decide +kernel
theorem dX6_failAfter_21 : decode cX6_failAfter 21 = .ok (.aload_n 0, 1) := by decide +kernel
theorem dX6_failAfter_22 : decode cX6_failAfter 22 = .ok (.getfield 37, 3) := by decide +kernel
theorem dX6_failAfter_25 : decode cX6_failAfter 25 = .ok (.ifCond .ne 7, 3) := by decide +kernel
theorem dX6_failAfter_28 : decode cX6_failAfter 28 = .ok (.iload_n 1, 1) := by decide +kernel
theorem dX6_failAfter_29 : decode cX6_failAfter 29 = .ok (.goto 7, 3) := by decide +kernel
theorem dX6_failAfter_32 : decode cX6_failAfter 32 = .ok (.aload_n 0, 1) := by decide +kernel
theorem dX6_failAfter_33 : decode cX6_failAfter 33 = .ok (.getfield 20, 3) := by decide +kernel
theorem dX6_failAfter_36 : decode cX6_failAfter 36 = .ok (.putfield 20, 3) := by decide +kernel
theorem dX6_failAfter_39 : decode cX6_failAfter 39 = .ok (.return_, 1) := by decide +kernel
theorem dX6_isOn_0 : decode cX6_isOn 0 = .ok (.aload_n 0, 1) := by decide +kernel
theorem dX6_isOn_1 : decode cX6_isOn 1 = .ok (.iconst 0, 1) := by decide +kernel
theorem dX6_isOn_2 : decode cX6_isOn 2 = .ok (.putfield 37, 3) := by decide +kernel
theorem dX6_isOn_5 : decode cX6_isOn 5 = .ok (.aload_n 0, 1) := by decide +kernel
theorem dX6_isOn_6 : decode cX6_isOn 6 = .ok (.getfield 63, 3) := by decide +kernel
theorem dX6_isOn_9 : decode cX6_isOn 9 = .ok (.ireturn, 1) := by decide +kernel
theorem dX6_running_0 : decode cX6_running 0 = .ok (.aload_n 0, 1) := by decide +kernel
theorem dX6_running_1 : decode cX6_running 1 = .ok (.iconst 0, 1) := by decide +kernel
theorem dX6_running_2 : decode cX6_running 2 = .ok (.putfield 37, 3) := by decide +kernel
theorem dX6_running_5 : decode cX6_running 5 = .ok (.aload_n 0, 1) := by decide +kernel
theorem dX6_running_6 : decode cX6_running 6 = .ok (.getfield 16, 3) := by decide +kernel
theorem dX6_running_9 : decode cX6_running 9 = .ok (.ireturn, 1) := by decide +kernel
set_option maxRecDepth 20000 in
theorem ggX6_isTrial_X6_confirmedSlot : GoodIn wsX6_isTrial wsX6_confirmedSlot := goodIn_r _ [7, 8, 9, 10, 6, 11, 12, 13, 14, 15, 16, 17, 18, 19, 20, 21, 22, 23, 24, 25, 26, 27, 28, 29, 30, 31, 32, 33, 34, 35, 36, 37, 38] (by decide +kernel) (by decide +kernel)
set_option maxRecDepth 20000 in
theorem gX6_isTrial_X6_confirmedSlot : GoodIn wsX6_isTrial (wsV RX6 83 RX6 yX6_confirmedSlot wsX6_confirmedSlot) := goodIn_app (goodIn_of _ (by decide +kernel)) ggX6_isTrial_X6_confirmedSlot
theorem dX6_isTrial_0 : decode cX6_isTrial 0 = .ok (.aload_n 0, 1) := by decide +kernel
theorem dX6_isTrial_1 : decode cX6_isTrial 1 = .ok (.getfield 63, 3) := by decide +kernel
theorem dX6_isTrial_4 : decode cX6_isTrial 4 = .ok (.ifCond .eq 18, 3) := by decide +kernel
theorem dX6_isTrial_7 : decode cX6_isTrial 7 = .ok (.aload_n 0, 1) := by decide +kernel
theorem dX6_isTrial_8 : decode cX6_isTrial 8 = .ok (.getfield 16, 3) := by decide +kernel
theorem dX6_isTrial_11 : decode cX6_isTrial 11 = .ok (.aload_n 0, 1) := by decide +kernel
theorem dX6_isTrial_12 : decode cX6_isTrial 12 = .ok (.invokevirtual 83, 3) := by decide +kernel
theorem dX6_isTrial_15 : decode cX6_isTrial 15 = .ok (.if_icmp .eq 7, 3) := by decide +kernel
theorem dX6_isTrial_18 : decode cX6_isTrial 18 = .ok (.iconst 1, 1) := by decide +kernel
theorem dX6_isTrial_19 : decode cX6_isTrial 19 = .ok (.goto 4, 3) := by decide +kernel
theorem dX6_isTrial_22 : decode cX6_isTrial 22 = .ok (.iconst 0, 1) := by decide +kernel
theorem dX6_isTrial_23 : decode cX6_isTrial 23 = .ok (.ireturn, 1) := by decide +kernel
set_option maxRecDepth 20000 in
theorem ggX6_isOnTrial_X6_isTrial : GoodIn wsX6_isOnTrial wsX6_isTrial := goodIn_r _ [6, 7, 8, 9, 10, 11, 5, 12, 13, 14, 15, 16, 17, 18, 19, 20, 21, 22, 23, 24, 25, 26, 27, 28, 29, 30, 31, 32, 33, 34, 35, 36, 37, 38, 39, 40, 41, 42, 43] (by decide +kernel) (by decide +kernel)
set_option maxRecDepth 20000 in
theorem gX6_isOnTrial_X6_isTrial : GoodIn wsX6_isOnTrial (wsV RX6 92 RX6 yX6_isTrial wsX6_isTrial) := goodIn_app (goodIn_of _ (by decide +kernel)) ggX6_isOnTrial_X6_isTrial
theorem dX6_isOnTrial_0 : decode cX6_isOnTrial 0 = .ok (.aload_n 0, 1) := by decide +kernel
theorem dX6_isOnTrial_1 : decode cX6_isOnTrial 1 = .ok (.iconst 0, 1) := by decide +kernel
theorem dX6_isOnTrial_2 : decode cX6_isOnTrial 2 = .ok (.putfield 37, 3) := by decide +kernel
theorem dX6_isOnTrial_5 : decode cX6_isOnTrial 5 = .ok (.aload_n 0, 1) := by decide +kernel
theorem dX6_isOnTrial_6 : decode cX6_isOnTrial 6 = .ok (.invokevirtual 92, 3) := by decide +kernel
theorem dX6_isOnTrial_9 : decode cX6_isOnTrial 9 = .ok (.ireturn, 1) := by decide +kernel
theorem dX6_writes_0 : decode cX6_writes 0 = .ok (.aload_n 0, 1) := by decide +kernel
theorem dX6_writes_1 : decode cX6_writes 1 = .ok (.iconst 0, 1) := by decide +kernel
theorem dX6_writes_2 : decode cX6_writes 2 = .ok (.putfield 37, 3) := by decide +kernel
theorem dX6_writes_5 : decode cX6_writes 5 = .ok (.aload_n 0, 1) := by decide +kernel
theorem dX6_writes_6 : decode cX6_writes 6 = .ok (.getfield 67, 3) := by decide +kernel
theorem dX6_writes_9 : decode cX6_writes 9 = .ok (.ireturn, 1) := by decide +kernel
set_option maxRecDepth 20000 in
theorem ggX6_offer_X6_in : GoodIn wsX6_offer wsX6_in := goodIn_r _ [13] (by decide +kernel) (by decide +kernel)
set_option maxRecDepth 20000 in
theorem gX6_offer_X6_in : GoodIn wsX6_offer (va_wsS RX6 44 yX6_in wsX6_in) := goodIn_app (goodIn_of _ (by decide +kernel)) ggX6_offer_X6_in
set_option maxRecDepth 20000 in
theorem ggX6_offer_X6_isDue : GoodIn wsX6_offer wsX6_isDue := goodIn_r _ [17, 18, 19, 20, 12, 21, 3, 22, 23, 24, 25, 26, 27, 28, 29, 30, 31, 32, 33, 49, 50, 51, 52, 53, 54, 55, 56, 57, 58, 59, 60, 61, 62] (by decide +kernel) (by decide +kernel)
set_option maxRecDepth 20000 in
theorem gX6_offer_X6_isDue : GoodIn wsX6_offer (wsV RX6 59 RX6 yX6_isDue wsX6_isDue) := goodIn_app (goodIn_of _ (by decide +kernel)) ggX6_offer_X6_isDue
set_option maxRecDepth 20000 in
theorem ggX6_offer_X6_inForce : GoodIn wsX6_offer wsX6_inForce := goodIn_r _ [21, 3, 22, 23, 24, 12, 25, 26, 27, 28, 29, 30, 31, 32, 33, 49, 50, 51, 52, 53, 54, 55, 56, 57, 58, 59, 60, 61, 62] (by decide +kernel) (by decide +kernel)
set_option maxRecDepth 20000 in
theorem gX6_offer_X6_inForce : GoodIn wsX6_offer (wsV RX6 56 RX6 yX6_inForce wsX6_inForce) := goodIn_app (goodIn_of _ (by decide +kernel)) ggX6_offer_X6_inForce
set_option maxRecDepth 20000 in
theorem ggX6_offer_X6_goes : GoodIn wsX6_offer wsX6_goes := goodIn_r _ [37, 38, 49, 50, 51, 52, 53, 54, 55, 56, 57, 58, 59, 60, 61, 62] (by decide +kernel) (by decide +kernel)
set_option maxRecDepth 20000 in
theorem gX6_offer_X6_goes : GoodIn wsX6_offer (wsV RX6 96 RX6 yX6_goes wsX6_goes) := goodIn_app (goodIn_of _ (by decide +kernel)) ggX6_offer_X6_goes
set_option maxRecDepth 20000 in
theorem ggX6_offer_X6_lays : GoodIn wsX6_offer wsX6_lays := goodIn_r _ [42, 43, 44, 3, 45, 46, 47, 12, 48, 2, 4, 5, 49, 50, 51, 52, 53, 54, 55, 56, 57, 58, 59, 60, 61, 62] (by decide +kernel) (by decide +kernel)
set_option maxRecDepth 20000 in
theorem gX6_offer_X6_lays : GoodIn wsX6_offer (wsV RX6 73 RX6 yX6_lays wsX6_lays) := goodIn_app (goodIn_of _ (by decide +kernel)) ggX6_offer_X6_lays
theorem dX6_offer_0 : decode cX6_offer 0 = .ok (.iload_n 1, 1) := by decide +kernel
theorem dX6_offer_1 : decode cX6_offer 1 = .ok (.iconst 1, 1) := by decide +kernel
theorem dX6_offer_2 : decode cX6_offer 2 = .ok (.sipush 9999, 3) := by decide +kernel
theorem dX6_offer_5 : decode cX6_offer 5 = .ok (.invokestatic 44, 3) := by decide +kernel
theorem dX6_offer_8 : decode cX6_offer 8 = .ok (.ifCond .eq 39, 3) := by decide +kernel
theorem dX6_offer_11 : decode cX6_offer 11 = .ok (.iload_n 2, 1) := by decide +kernel
theorem dX6_offer_12 : decode cX6_offer 12 = .ok (.iconst 1, 1) := by decide +kernel
theorem dX6_offer_13 : decode cX6_offer 13 = .ok (.bipush 24, 2) := by decide +kernel
theorem dX6_offer_15 : decode cX6_offer 15 = .ok (.invokestatic 44, 3) := by decide +kernel
theorem dX6_offer_18 : decode cX6_offer 18 = .ok (.ifCond .eq 29, 3) := by decide +kernel
theorem dX6_offer_21 : decode cX6_offer 21 = .ok (.iload_n 3, 1) := by decide +kernel
theorem dX6_offer_22 : decode cX6_offer 22 = .ok (.iconst 0, 1) := by decide +kernel
theorem dX6_offer_23 : decode cX6_offer 23 = .ok (.ldc 95, 2) := by decide +kernel
theorem dX6_offer_25 : decode cX6_offer 25 = .ok (.invokestatic 44, 3) := by decide +kernel
theorem dX6_offer_28 : decode cX6_offer 28 = .ok (.ifCond .eq 19, 3) := by decide +kernel
theorem dX6_offer_31 : decode cX6_offer 31 = .ok (.iload 4, 2) := by decide +kernel
theorem dX6_offer_33 : decode cX6_offer 33 = .ok (.iconst 0, 1) := by decide +kernel
theorem dX6_offer_34 : decode cX6_offer 34 = .ok (.sipush 9999, 3) := by decide +kernel
theorem dX6_offer_37 : decode cX6_offer 37 = .ok (.invokestatic 44, 3) := by decide +kernel
theorem dX6_offer_40 : decode cX6_offer 40 = .ok (.ifCond .eq 7, 3) := by decide +kernel
theorem dX6_offer_43 : decode cX6_offer 43 = .ok (.iconst 1, 1) := by decide +kernel
theorem dX6_offer_44 : decode cX6_offer 44 = .ok (.goto 4, 3) := by decide +kernel
theorem dX6_offer_47 : decode cX6_offer 47 = .ok (.iconst 0, 1) := by decide +kernel
theorem dX6_offer_48 : decode cX6_offer 48 = .ok (.istore 5, 2) := by decide +kernel
theorem dX6_offer_50 : decode cX6_offer 50 = .ok (.aload_n 0, 1) := by decide +kernel
theorem dX6_offer_51 : decode cX6_offer 51 = .ok (.iload 5, 2) := by decide +kernel
theorem dX6_offer_53 : decode cX6_offer 53 = .ok (.aload_n 0, 1) := by decide +kernel
theorem dX6_offer_54 : decode cX6_offer 54 = .ok (.getfield 63, 3) := by decide +kernel
theorem dX6_offer_57 : decode cX6_offer 57 = .ok (.ifCond .eq 42, 3) := by decide +kernel
theorem dX6_offer_60 : decode cX6_offer 60 = .ok (.aload_n 0, 1) := by decide +kernel
theorem dX6_offer_61 : decode cX6_offer 61 = .ok (.invokevirtual 59, 3) := by decide +kernel
theorem dX6_offer_64 : decode cX6_offer 64 = .ok (.ifCond .ne 35, 3) := by decide +kernel
theorem dX6_offer_67 : decode cX6_offer 67 = .ok (.iload_n 1, 1) := by decide +kernel
theorem dX6_offer_68 : decode cX6_offer 68 = .ok (.aload_n 0, 1) := by decide +kernel
theorem dX6_offer_69 : decode cX6_offer 69 = .ok (.getfield 7, 3) := by decide +kernel
theorem dX6_offer_72 : decode cX6_offer 72 = .ok (.bipush 29, 2) := by decide +kernel
theorem dX6_offer_74 : decode cX6_offer 74 = .ok (.aload_n 0, 1) := by decide +kernel
theorem dX6_offer_75 : decode cX6_offer 75 = .ok (.getfield 16, 3) := by decide +kernel
theorem dX6_offer_78 : decode cX6_offer 78 = .ok (.imul, 1) := by decide +kernel
theorem dX6_offer_79 : decode cX6_offer 79 = .ok (.iconst 1, 1) := by decide +kernel
theorem dX6_offer_80 : decode cX6_offer 80 = .ok (.iadd, 1) := by decide +kernel
theorem dX6_offer_81 : decode cX6_offer 81 = .ok (.iaload, 1) := by decide +kernel
theorem dX6_offer_82 : decode cX6_offer 82 = .ok (.if_icmp .le 17, 3) := by decide +kernel
theorem dX6_offer_85 : decode cX6_offer 85 = .ok (.iload 4, 2) := by decide +kernel
theorem dX6_offer_87 : decode cX6_offer 87 = .ok (.aload_n 0, 1) := by decide +kernel
theorem dX6_offer_88 : decode cX6_offer 88 = .ok (.iconst 3, 1) := by decide +kernel
theorem dX6_offer_89 : decode cX6_offer 89 = .ok (.invokevirtual 56, 3) := by decide +kernel
theorem dX6_offer_92 : decode cX6_offer 92 = .ok (.if_icmp .lt 7, 3) := by decide +kernel
theorem dX6_offer_95 : decode cX6_offer 95 = .ok (.iconst 1, 1) := by decide +kernel
theorem dX6_offer_96 : decode cX6_offer 96 = .ok (.goto 4, 3) := by decide +kernel
theorem dX6_offer_99 : decode cX6_offer 99 = .ok (.iconst 0, 1) := by decide +kernel
theorem dX6_offer_100 : decode cX6_offer 100 = .ok (.invokevirtual 96, 3) := by decide +kernel
theorem dX6_offer_103 : decode cX6_offer 103 = .ok (.ifCond .ne 5, 3) := by decide +kernel
theorem dX6_offer_106 : decode cX6_offer 106 = .ok (.iconst 0, 1) := by decide +kernel
theorem dX6_offer_107 : decode cX6_offer 107 = .ok (.ireturn, 1) := by decide +kernel
theorem dX6_offer_108 : decode cX6_offer 108 = .ok (.aload_n 0, 1) := by decide +kernel
theorem dX6_offer_109 : decode cX6_offer 109 = .ok (.iconst 0, 1) := by decide +kernel
theorem dX6_offer_110 : decode cX6_offer 110 = .ok (.putfield 23, 3) := by decide +kernel
theorem dX6_offer_113 : decode cX6_offer 113 = .ok (.aload_n 0, 1) := by decide +kernel
theorem dX6_offer_114 : decode cX6_offer 114 = .ok (.iload_n 1, 1) := by decide +kernel
theorem dX6_offer_115 : decode cX6_offer 115 = .ok (.putfield 100, 3) := by decide +kernel
theorem dX6_offer_118 : decode cX6_offer 118 = .ok (.aload_n 0, 1) := by decide +kernel
theorem dX6_offer_119 : decode cX6_offer 119 = .ok (.iload_n 2, 1) := by decide +kernel
theorem dX6_offer_120 : decode cX6_offer 120 = .ok (.putfield 103, 3) := by decide +kernel
theorem dX6_offer_123 : decode cX6_offer 123 = .ok (.aload_n 0, 1) := by decide +kernel
theorem dX6_offer_124 : decode cX6_offer 124 = .ok (.iload_n 3, 1) := by decide +kernel
theorem dX6_offer_125 : decode cX6_offer 125 = .ok (.putfield 106, 3) := by decide +kernel
theorem dX6_offer_128 : decode cX6_offer 128 = .ok (.aload_n 0, 1) := by decide +kernel
theorem dX6_offer_129 : decode cX6_offer 129 = .ok (.iload 4, 2) := by decide +kernel
theorem dX6_offer_131 : decode cX6_offer 131 = .ok (.putfield 109, 3) := by decide +kernel
theorem dX6_offer_134 : decode cX6_offer 134 = .ok (.aload_n 0, 1) := by decide +kernel
theorem dX6_offer_135 : decode cX6_offer 135 = .ok (.bipush 29, 2) := by decide +kernel
theorem dX6_offer_137 : decode cX6_offer 137 = .ok (.iconst 1, 1) := by decide +kernel
theorem dX6_offer_138 : decode cX6_offer 138 = .ok (.aload_n 0, 1) := by decide +kernel
theorem dX6_offer_139 : decode cX6_offer 139 = .ok (.getfield 16, 3) := by decide +kernel
theorem dX6_offer_142 : decode cX6_offer 142 = .ok (.isub, 1) := by decide +kernel
theorem dX6_offer_143 : decode cX6_offer 143 = .ok (.imul, 1) := by decide +kernel
theorem dX6_offer_144 : decode cX6_offer 144 = .ok (.iconst 0, 1) := by decide +kernel
theorem dX6_offer_145 : decode cX6_offer 145 = .ok (.iadd, 1) := by decide +kernel
theorem dX6_offer_146 : decode cX6_offer 146 = .ok (.iconst 0, 1) := by decide +kernel
theorem dX6_offer_147 : decode cX6_offer 147 = .ok (.invokevirtual 73, 3) := by decide +kernel
theorem dX6_offer_150 : decode cX6_offer 150 = .ok (.ireturn, 1) := by decide +kernel
set_option maxRecDepth 20000 in
theorem ggX6_comes_X6_lays : GoodIn wsX6_comes wsX6_lays := goodIn_r _ [7, 8, 9, 10, 11, 12, 13, 6, 14, 15, 1, 2, 16, 17, 18, 19, 20, 21, 22, 23, 24, 25, 26, 27, 28, 29] (by decide +kernel) (by decide +kernel)
set_option maxRecDepth 20000 in
theorem gX6_comes_X6_lays : GoodIn wsX6_comes (wsV RX6 73 RX6 yX6_lays wsX6_lays) := goodIn_app (goodIn_of _ (by decide +kernel)) ggX6_comes_X6_lays
theorem dX6_comes_0 : decode cX6_comes 0 = .ok (.aload_n 0, 1) := by decide +kernel
theorem dX6_comes_1 : decode cX6_comes 1 = .ok (.bipush 29, 2) := by decide +kernel
theorem dX6_comes_3 : decode cX6_comes 3 = .ok (.iconst 1, 1) := by decide +kernel
theorem dX6_comes_4 : decode cX6_comes 4 = .ok (.aload_n 0, 1) := by decide +kernel
theorem dX6_comes_5 : decode cX6_comes 5 = .ok (.getfield 16, 3) := by decide +kernel
theorem dX6_comes_8 : decode cX6_comes 8 = .ok (.isub, 1) := by decide +kernel
theorem dX6_comes_9 : decode cX6_comes 9 = .ok (.imul, 1) := by decide +kernel
theorem dX6_comes_10 : decode cX6_comes 10 = .ok (.iconst 5, 1) := by decide +kernel
theorem dX6_comes_11 : decode cX6_comes 11 = .ok (.iadd, 1) := by decide +kernel
theorem dX6_comes_12 : decode cX6_comes 12 = .ok (.aload_n 0, 1) := by decide +kernel
theorem dX6_comes_13 : decode cX6_comes 13 = .ok (.getfield 23, 3) := by decide +kernel
theorem dX6_comes_16 : decode cX6_comes 16 = .ok (.iadd, 1) := by decide +kernel
theorem dX6_comes_17 : decode cX6_comes 17 = .ok (.iload_n 1, 1) := by decide +kernel
theorem dX6_comes_18 : decode cX6_comes 18 = .ok (.invokevirtual 73, 3) := by decide +kernel
theorem dX6_comes_21 : decode cX6_comes 21 = .ok (.istore_n 2, 1) := by decide +kernel
theorem dX6_comes_22 : decode cX6_comes 22 = .ok (.aload_n 0, 1) := by decide +kernel
theorem dX6_comes_23 : decode cX6_comes 23 = .ok (.dup, 1) := by decide +kernel
theorem dX6_comes_24 : decode cX6_comes 24 = .ok (.getfield 23, 3) := by decide +kernel
theorem dX6_comes_27 : decode cX6_comes 27 = .ok (.iload_n 2, 1) := by decide +kernel
theorem dX6_comes_28 : decode cX6_comes 28 = .ok (.ifCond .eq 7, 3) := by decide +kernel
theorem dX6_comes_31 : decode cX6_comes 31 = .ok (.iconst 1, 1) := by decide +kernel
theorem dX6_comes_32 : decode cX6_comes 32 = .ok (.goto 4, 3) := by decide +kernel
theorem dX6_comes_35 : decode cX6_comes 35 = .ok (.iconst 0, 1) := by decide +kernel
theorem dX6_comes_36 : decode cX6_comes 36 = .ok (.iadd, 1) := by decide +kernel
theorem dX6_comes_37 : decode cX6_comes 37 = .ok (.putfield 23, 3) := by decide +kernel
theorem dX6_comes_40 : decode cX6_comes 40 = .ok (.iload_n 2, 1) := by decide +kernel
theorem dX6_comes_41 : decode cX6_comes 41 = .ok (.ireturn, 1) := by decide +kernel
set_option maxRecDepth 20000 in
theorem ggX6_put_X6_in : GoodIn wsX6_put wsX6_in := goodIn_r _ [6] (by decide +kernel) (by decide +kernel)
set_option maxRecDepth 20000 in
theorem gX6_put_X6_in : GoodIn wsX6_put (va_wsS RX6 44 yX6_in wsX6_in) := goodIn_app (goodIn_of _ (by decide +kernel)) ggX6_put_X6_in
set_option maxRecDepth 20000 in
theorem ggX6_put_X6_goes : GoodIn wsX6_put wsX6_goes := goodIn_r _ [10, 11, 29, 30, 31, 32, 33, 34, 35, 36, 37, 38, 39, 40, 41, 42] (by decide +kernel) (by decide +kernel)
set_option maxRecDepth 20000 in
theorem gX6_put_X6_goes : GoodIn wsX6_put (wsV RX6 96 RX6 yX6_goes wsX6_goes) := goodIn_app (goodIn_of _ (by decide +kernel)) ggX6_put_X6_goes
set_option maxRecDepth 20000 in
theorem ggX6_put_X6_comes : GoodIn wsX6_put wsX6_comes := goodIn_r _ [15, 16, 1, 17, 18, 19, 5, 20, 21, 22, 23, 24, 25, 26, 27, 28, 29, 30, 31, 32, 33, 34, 35, 36, 37, 38, 39, 40, 41, 42] (by decide +kernel) (by decide +kernel)
set_option maxRecDepth 20000 in
theorem gX6_put_X6_comes : GoodIn wsX6_put (wsV RX6 112 RX6 yX6_comes wsX6_comes) := goodIn_app (goodIn_of _ (by decide +kernel)) ggX6_put_X6_comes
theorem dX6_put_0 : decode cX6_put 0 = .ok (.aload_n 0, 1) := by decide +kernel
theorem dX6_put_1 : decode cX6_put 1 = .ok (.iload_n 1, 1) := by decide +kernel
theorem dX6_put_2 : decode cX6_put 2 = .ok (.iconst 0, 1) := by decide +kernel
theorem dX6_put_3 : decode cX6_put 3 = .ok (.sipush 255, 3) := by decide +kernel
theorem dX6_put_6 : decode cX6_put 6 = .ok (.invokestatic 44, 3) := by decide +kernel
theorem dX6_put_9 : decode cX6_put 9 = .ok (.aload_n 0, 1) := by decide +kernel
theorem dX6_put_10 : decode cX6_put 10 = .ok (.getfield 23, 3) := by decide +kernel
theorem dX6_put_13 : decode cX6_put 13 = .ok (.ifCond .lt 18, 3) := by decide +kernel
theorem dX6_put_16 : decode cX6_put 16 = .ok (.aload_n 0, 1) := by decide +kernel
theorem dX6_put_17 : decode cX6_put 17 = .ok (.getfield 23, 3) := by decide +kernel
theorem dX6_put_20 : decode cX6_put 20 = .ok (.aload_n 0, 1) := by decide +kernel
theorem dX6_put_21 : decode cX6_put 21 = .ok (.getfield 103, 3) := by decide +kernel
theorem dX6_put_24 : decode cX6_put 24 = .ok (.if_icmp .ge 7, 3) := by decide +kernel
theorem dX6_put_27 : decode cX6_put 27 = .ok (.iconst 1, 1) := by decide +kernel
theorem dX6_put_28 : decode cX6_put 28 = .ok (.goto 4, 3) := by decide +kernel
theorem dX6_put_31 : decode cX6_put 31 = .ok (.iconst 0, 1) := by decide +kernel
theorem dX6_put_32 : decode cX6_put 32 = .ok (.invokevirtual 96, 3) := by decide +kernel
theorem dX6_put_35 : decode cX6_put 35 = .ok (.ifCond .eq 15, 3) := by decide +kernel
theorem dX6_put_38 : decode cX6_put 38 = .ok (.aload_n 0, 1) := by decide +kernel
theorem dX6_put_39 : decode cX6_put 39 = .ok (.iload_n 1, 1) := by decide +kernel
theorem dX6_put_40 : decode cX6_put 40 = .ok (.invokevirtual 112, 3) := by decide +kernel
theorem dX6_put_43 : decode cX6_put 43 = .ok (.ifCond .eq 7, 3) := by decide +kernel
theorem dX6_put_46 : decode cX6_put 46 = .ok (.iconst 1, 1) := by decide +kernel
theorem dX6_put_47 : decode cX6_put 47 = .ok (.goto 4, 3) := by decide +kernel
theorem dX6_put_50 : decode cX6_put 50 = .ok (.iconst 0, 1) := by decide +kernel
theorem dX6_put_51 : decode cX6_put 51 = .ok (.ireturn, 1) := by decide +kernel
set_option maxRecDepth 20000 in
theorem ggX6_copy_X6_in : GoodIn wsX6_copy wsX6_in := goodIn_r _ [9] (by decide +kernel) (by decide +kernel)
set_option maxRecDepth 20000 in
theorem gX6_copy_X6_in : GoodIn wsX6_copy (va_wsS RX6 44 yX6_in wsX6_in) := goodIn_app (goodIn_of _ (by decide +kernel)) ggX6_copy_X6_in
set_option maxRecDepth 20000 in
theorem ggX6_copy_X6_goes : GoodIn wsX6_copy wsX6_goes := goodIn_r _ [13, 14, 29, 30, 31, 32, 33, 34, 35, 36, 37, 38, 39, 40, 41, 42] (by decide +kernel) (by decide +kernel)
set_option maxRecDepth 20000 in
theorem gX6_copy_X6_goes : GoodIn wsX6_copy (wsV RX6 96 RX6 yX6_goes wsX6_goes) := goodIn_app (goodIn_of _ (by decide +kernel)) ggX6_copy_X6_goes
set_option maxRecDepth 20000 in
theorem ggX6_copy_X6_comes : GoodIn wsX6_copy wsX6_comes := goodIn_r _ [18, 3, 4, 19, 20, 21, 8, 22, 23, 24, 2, 25, 26, 27, 28, 1, 29, 30, 31, 32, 33, 34, 35, 36, 37, 38, 39, 40, 41, 42] (by decide +kernel) (by decide +kernel)
set_option maxRecDepth 20000 in
theorem gX6_copy_X6_comes : GoodIn wsX6_copy (wsV RX6 112 RX6 yX6_comes wsX6_comes) := goodIn_app (goodIn_of _ (by decide +kernel)) ggX6_copy_X6_comes
