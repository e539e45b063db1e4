theorem dX6_copy_0 : decode cX6_copy 0 = .ok (.iload_n 1, 1) := by decide +kernel
theorem dX6_copy_1 : decode cX6_copy 1 = .ok (.iconst 0, 1) := by decide +kernel
theorem dX6_copy_2 : decode cX6_copy 2 = .ok (.bipush 23, 2) := by decide +kernel
theorem dX6_copy_4 : decode cX6_copy 4 = .ok (.invokestatic 44, 3) := by decide +kernel
theorem dX6_copy_7 : decode cX6_copy 7 = .ok (.ifCond .eq 44, 3) := by decide +kernel
theorem dX6_copy_10 : decode cX6_copy 10 = .ok (.iload_n 2, 1) := by decide +kernel
theorem dX6_copy_11 : decode cX6_copy 11 = .ok (.iconst 1, 1) := by decide +kernel
theorem dX6_copy_12 : decode cX6_copy 12 = .ok (.bipush 24, 2) := by decide +kernel
theorem dX6_copy_14 : decode cX6_copy 14 = .ok (.invokestatic 44, 3) := by decide +kernel
theorem dX6_copy_17 : decode cX6_copy 17 = .ok (.ifCond .eq 34, 3) := by decide +kernel
theorem dX6_copy_20 : decode cX6_copy 20 = .ok (.aload_n 0, 1) := by decide +kernel
theorem dX6_copy_21 : decode cX6_copy 21 = .ok (.getfield 63, 3) := by decide +kernel
theorem dX6_copy_24 : decode cX6_copy 24 = .ok (.ifCond .eq 23, 3) := by decide +kernel
theorem dX6_copy_27 : decode cX6_copy 27 = .ok (.iload_n 1, 1) := by decide +kernel
theorem dX6_copy_28 : decode cX6_copy 28 = .ok (.iload_n 2, 1) := by decide +kernel
theorem dX6_copy_29 : decode cX6_copy 29 = .ok (.iadd, 1) := by decide +kernel
theorem dX6_copy_30 : decode cX6_copy 30 = .ok (.aload_n 0, 1) := by decide +kernel
theorem dX6_copy_31 : decode cX6_copy 31 = .ok (.getfield 7, 3) := by decide +kernel
theorem dX6_copy_34 : decode cX6_copy 34 = .ok (.bipush 29, 2) := by decide +kernel
theorem dX6_copy_36 : decode cX6_copy 36 = .ok (.aload_n 0, 1) := by decide +kernel
theorem dX6_copy_37 : decode cX6_copy 37 = .ok (.getfield 16, 3) := by decide +kernel
theorem dX6_copy_40 : decode cX6_copy 40 = .ok (.imul, 1) := by decide +kernel
theorem dX6_copy_41 : decode cX6_copy 41 = .ok (.iconst 2, 1) := by decide +kernel
theorem dX6_copy_42 : decode cX6_copy 42 = .ok (.iadd, 1) := by decide +kernel
theorem dX6_copy_43 : decode cX6_copy 43 = .ok (.iaload, 1) := by decide +kernel
theorem dX6_copy_44 : decode cX6_copy 44 = .ok (.if_icmp .gt 7, 3) := by decide +kernel
theorem dX6_copy_47 : decode cX6_copy 47 = .ok (.iconst 1, 1) := by decide +kernel
theorem dX6_copy_48 : decode cX6_copy 48 = .ok (.goto 4, 3) := by decide +kernel
theorem dX6_copy_51 : decode cX6_copy 51 = .ok (.iconst 0, 1) := by decide +kernel
theorem dX6_copy_52 : decode cX6_copy 52 = .ok (.istore_n 3, 1) := by decide +kernel
theorem dX6_copy_53 : decode cX6_copy 53 = .ok (.aload_n 0, 1) := by decide +kernel
theorem dX6_copy_54 : decode cX6_copy 54 = .ok (.iload_n 3, 1) := by decide +kernel
theorem dX6_copy_55 : decode cX6_copy 55 = .ok (.aload_n 0, 1) := by decide +kernel
theorem dX6_copy_56 : decode cX6_copy 56 = .ok (.getfield 23, 3) := by decide +kernel
theorem dX6_copy_59 : decode cX6_copy 59 = .ok (.ifCond .lt 20, 3) := by decide +kernel
theorem dX6_copy_62 : decode cX6_copy 62 = .ok (.aload_n 0, 1) := by decide +kernel
theorem dX6_copy_63 : decode cX6_copy 63 = .ok (.getfield 103, 3) := by decide +kernel
theorem dX6_copy_66 : decode cX6_copy 66 = .ok (.aload_n 0, 1) := by decide +kernel
theorem dX6_copy_67 : decode cX6_copy 67 = .ok (.getfield 23, 3) := by decide +kernel
theorem dX6_copy_70 : decode cX6_copy 70 = .ok (.isub, 1) := by decide +kernel
theorem dX6_copy_71 : decode cX6_copy 71 = .ok (.iload_n 2, 1) := by decide +kernel
theorem dX6_copy_72 : decode cX6_copy 72 = .ok (.if_icmp .lt 7, 3) := by decide +kernel
theorem dX6_copy_75 : decode cX6_copy 75 = .ok (.iconst 1, 1) := by decide +kernel
theorem dX6_copy_76 : decode cX6_copy 76 = .ok (.goto 4, 3) := by decide +kernel
theorem dX6_copy_79 : decode cX6_copy 79 = .ok (.iconst 0, 1) := by decide +kernel
theorem dX6_copy_80 : decode cX6_copy 80 = .ok (.invokevirtual 96, 3) := by decide +kernel
theorem dX6_copy_83 : decode cX6_copy 83 = .ok (.ifCond .ne 5, 3) := by decide +kernel
theorem dX6_copy_86 : decode cX6_copy 86 = .ok (.iconst 0, 1) := by decide +kernel
theorem dX6_copy_87 : decode cX6_copy 87 = .ok (.ireturn, 1) := by decide +kernel
theorem dX6_copy_88 : decode cX6_copy 88 = .ok (.iconst 0, 1) := by decide +kernel
theorem dX6_copy_89 : decode cX6_copy 89 = .ok (.istore 4, 2) := by decide +kernel
theorem dX6_copy_91 : decode cX6_copy 91 = .ok (.iload 4, 2) := by decide +kernel
theorem dX6_copy_93 : decode cX6_copy 93 = .ok (.iload_n 2, 1) := by decide +kernel
theorem dX6_copy_94 : decode cX6_copy 94 = .ok (.if_icmp .ge 49, 3) := by decide +kernel
theorem dX6_copy_97 : decode cX6_copy 97 = .ok (.aload_n 0, 1) := by decide +kernel
theorem dX6_copy_98 : decode cX6_copy 98 = .ok (.getfield 63, 3) := by decide +kernel
theorem dX6_copy_101 : decode cX6_copy 101 = .ok (.ifCond .eq 42, 3) := by decide +kernel
theorem dX6_copy_104 : decode cX6_copy 104 = .ok (.iload 4, 2) := by decide +kernel
theorem dX6_copy_106 : decode cX6_copy 106 = .ok (.aload_n 0, 1) := by decide +kernel
theorem dX6_copy_107 : decode cX6_copy 107 = .ok (.aload_n 0, 1) := by decide +kernel
theorem dX6_copy_108 : decode cX6_copy 108 = .ok (.getfield 7, 3) := by decide +kernel
theorem dX6_copy_111 : decode cX6_copy 111 = .ok (.bipush 29, 2) := by decide +kernel
theorem dX6_copy_113 : decode cX6_copy 113 = .ok (.aload_n 0, 1) := by decide +kernel
theorem dX6_copy_114 : decode cX6_copy 114 = .ok (.getfield 16, 3) := by decide +kernel
theorem dX6_copy_117 : decode cX6_copy 117 = .ok (.imul, 1) := by decide +kernel
theorem dX6_copy_118 : decode cX6_copy 118 = .ok (.iconst 5, 1) := by decide +kernel
theorem dX6_copy_119 : decode cX6_copy 119 = .ok (.iadd, 1) := by decide +kernel
theorem dX6_copy_120 : decode cX6_copy 120 = .ok (.iload_n 1, 1) := by decide +kernel
theorem dX6_copy_121 : decode cX6_copy 121 = .ok (.iadd, 1) := by decide +kernel
theorem dX6_copy_122 : decode cX6_copy 122 = .ok (.iload 4, 2) := by decide +kernel
theorem dX6_copy_124 : decode cX6_copy 124 = .ok (.iadd, 1) := by decide +kernel
theorem dX6_copy_125 : decode cX6_copy 125 = .ok (.iaload, 1) := by decide +kernel
theorem dX6_copy_126 : decode cX6_copy 126 = .ok (.invokevirtual 112, 3) := by decide +kernel
theorem dX6_copy_129 : decode cX6_copy 129 = .ok (.ifCond .eq 7, 3) := by decide +kernel
theorem dX6_copy_132 : decode cX6_copy 132 = .ok (.iconst 1, 1) := by decide +kernel
theorem dX6_copy_133 : decode cX6_copy 133 = .ok (.goto 4, 3) := by decide +kernel
theorem dX6_copy_136 : decode cX6_copy 136 = .ok (.iconst 0, 1) := by decide +kernel
theorem dX6_copy_137 : decode cX6_copy 137 = .ok (.iadd, 1) := by decide +kernel
theorem dX6_copy_138 : decode cX6_copy 138 = .ok (.istore 4, 2) := by decide +kernel
theorem dX6_copy_140 : decode cX6_copy 140 = .ok (.goto (-49), 3) := by decide +kernel
theorem dX6_copy_143 : decode cX6_copy 143 = .ok (.iload 4, 2) := by decide +kernel
theorem dX6_copy_145 : decode cX6_copy 145 = .ok (.ireturn, 1) := by decide +kernel
set_option maxRecDepth 20000 in
theorem ggX6_canFinish_X6_hashIn : GoodIn wsX6_canFinish wsX6_hashIn := goodIn_r _ [9, 10, 11, 12, 8, 13, 14, 15, 16, 17, 18, 19, 20, 21, 22, 23, 24, 25, 26, 27, 28] (by decide +kernel) (by decide +kernel)
set_option maxRecDepth 20000 in
theorem gX6_canFinish_X6_hashIn : GoodIn wsX6_canFinish (wsV RX6 29 RX6 yX6_hashIn wsX6_hashIn) := goodIn_app (goodIn_of _ (by decide +kernel)) ggX6_canFinish_X6_hashIn
theorem dX6_canFinish_0 : decode cX6_canFinish 0 = .ok (.aload_n 0, 1) := by decide +kernel
theorem dX6_canFinish_1 : decode cX6_canFinish 1 = .ok (.getfield 23, 3) := by decide +kernel
theorem dX6_canFinish_4 : decode cX6_canFinish 4 = .ok (.ifCond .lt 39, 3) := by decide +kernel
theorem dX6_canFinish_7 : decode cX6_canFinish 7 = .ok (.aload_n 0, 1) := by decide +kernel
theorem dX6_canFinish_8 : decode cX6_canFinish 8 = .ok (.getfield 23, 3) := by decide +kernel
theorem dX6_canFinish_11 : decode cX6_canFinish 11 = .ok (.aload_n 0, 1) := by decide +kernel
theorem dX6_canFinish_12 : decode cX6_canFinish 12 = .ok (.getfield 103, 3) := by decide +kernel
theorem dX6_canFinish_15 : decode cX6_canFinish 15 = .ok (.if_icmp .ne 28, 3) := by decide +kernel
theorem dX6_canFinish_18 : decode cX6_canFinish 18 = .ok (.aload_n 0, 1) := by decide +kernel
theorem dX6_canFinish_19 : decode cX6_canFinish 19 = .ok (.iconst 1, 1) := by decide +kernel
theorem dX6_canFinish_20 : decode cX6_canFinish 20 = .ok (.aload_n 0, 1) := by decide +kernel
theorem dX6_canFinish_21 : decode cX6_canFinish 21 = .ok (.getfield 16, 3) := by decide +kernel
theorem dX6_canFinish_24 : decode cX6_canFinish 24 = .ok (.isub, 1) := by decide +kernel
theorem dX6_canFinish_25 : decode cX6_canFinish 25 = .ok (.aload_n 0, 1) := by decide +kernel
theorem dX6_canFinish_26 : decode cX6_canFinish 26 = .ok (.getfield 103, 3) := by decide +kernel
theorem dX6_canFinish_29 : decode cX6_canFinish 29 = .ok (.invokevirtual 29, 3) := by decide +kernel
theorem dX6_canFinish_32 : decode cX6_canFinish 32 = .ok (.aload_n 0, 1) := by decide +kernel
theorem dX6_canFinish_33 : decode cX6_canFinish 33 = .ok (.getfield 106, 3) := by decide +kernel
theorem dX6_canFinish_36 : decode cX6_canFinish 36 = .ok (.if_icmp .ne 7, 3) := by decide +kernel
theorem dX6_canFinish_39 : decode cX6_canFinish 39 = .ok (.iconst 1, 1) := by decide +kernel
theorem dX6_canFinish_40 : decode cX6_canFinish 40 = .ok (.goto 4, 3) := by decide +kernel
theorem dX6_canFinish_43 : decode cX6_canFinish 43 = .ok (.iconst 0, 1) := by decide +kernel
theorem dX6_canFinish_44 : decode cX6_canFinish 44 = .ok (.ireturn, 1) := by decide +kernel
set_option maxRecDepth 20000 in
theorem ggX6_finishes_X6_lays : GoodIn wsX6_finishes wsX6_lays := goodIn_r _ [10, 11, 12, 13, 14, 15, 16, 9, 17, 18, 1, 19, 44, 45, 46, 47, 48, 49, 50, 51, 52, 53, 54, 55, 56, 57] (by decide +kernel) (by decide +kernel)
set_option maxRecDepth 20000 in
theorem gX6_finishes_X6_lays : GoodIn wsX6_finishes (wsV RX6 73 RX6 yX6_lays wsX6_lays) := goodIn_app (goodIn_of _ (by decide +kernel)) ggX6_finishes_X6_lays
set_option maxRecDepth 20000 in
theorem ggX6_finishes_X6_confirmedSlot : GoodIn wsX6_finishes wsX6_confirmedSlot := goodIn_r _ [23, 24, 25, 26, 9, 27, 13, 28, 29, 30, 31, 32, 33, 34, 35, 36, 37, 38, 39, 44, 45, 46, 47, 48, 49, 50, 51, 52, 53, 54, 55, 56, 57] (by decide +kernel) (by decide +kernel)
set_option maxRecDepth 20000 in
theorem gX6_finishes_X6_confirmedSlot : GoodIn wsX6_finishes (wsV RX6 83 RX6 yX6_confirmedSlot wsX6_confirmedSlot) := goodIn_app (goodIn_of _ (by decide +kernel)) ggX6_finishes_X6_confirmedSlot
set_option maxRecDepth 20000 in
theorem ggX6_finishes_X6_inForce : GoodIn wsX6_finishes wsX6_inForce := goodIn_r _ [27, 13, 28, 29, 30, 9, 31, 32, 33, 34, 35, 36, 37, 38, 39, 44, 45, 46, 47, 48, 49, 50, 51, 52, 53, 54, 55, 56, 57] (by decide +kernel) (by decide +kernel)
set_option maxRecDepth 20000 in
theorem gX6_finishes_X6_inForce : GoodIn wsX6_finishes (wsV RX6 56 RX6 yX6_inForce wsX6_inForce) := goodIn_app (goodIn_of _ (by decide +kernel)) ggX6_finishes_X6_inForce
set_option maxRecDepth 20000 in
theorem ggX6_finishes_X6_records : GoodIn wsX6_finishes wsX6_records := goodIn_r _ [43, 13, 28, 29, 30, 9, 31, 32, 33, 34, 35, 36, 37, 38, 39, 6, 7, 8, 10, 11, 12, 14, 15, 16, 17, 18, 1, 19, 44, 45, 46, 47, 48, 49, 50, 51, 52, 53, 54, 55, 56, 57] (by decide +kernel) (by decide +kernel)
set_option maxRecDepth 20000 in
theorem gX6_finishes_X6_records : GoodIn wsX6_finishes (wsV RX6 89 RX6 yX6_records wsX6_records) := goodIn_app (goodIn_of _ (by decide +kernel)) ggX6_finishes_X6_records
theorem dX6_finishes_0 : decode cX6_finishes 0 = .ok (.bipush 29, 2) := by decide +kernel
theorem dX6_finishes_2 : decode cX6_finishes 2 = .ok (.iconst 1, 1) := by decide +kernel
theorem dX6_finishes_3 : decode cX6_finishes 3 = .ok (.aload_n 0, 1) := by decide +kernel
theorem dX6_finishes_4 : decode cX6_finishes 4 = .ok (.getfield 16, 3) := by decide +kernel
theorem dX6_finishes_7 : decode cX6_finishes 7 = .ok (.isub, 1) := by decide +kernel
theorem dX6_finishes_8 : decode cX6_finishes 8 = .ok (.imul, 1) := by decide +kernel
theorem dX6_finishes_9 : decode cX6_finishes 9 = .ok (.istore_n 2, 1) := by decide +kernel
theorem dX6_finishes_10 : decode cX6_finishes 10 = .ok (.aload_n 0, 1) := by decide +kernel
theorem dX6_finishes_11 : decode cX6_finishes 11 = .ok (.iload_n 2, 1) := by decide +kernel
theorem dX6_finishes_12 : decode cX6_finishes 12 = .ok (.iconst 1, 1) := by decide +kernel
theorem dX6_finishes_13 : decode cX6_finishes 13 = .ok (.iadd, 1) := by decide +kernel
theorem dX6_finishes_14 : decode cX6_finishes 14 = .ok (.aload_n 0, 1) := by decide +kernel
theorem dX6_finishes_15 : decode cX6_finishes 15 = .ok (.getfield 100, 3) := by decide +kernel
theorem dX6_finishes_18 : decode cX6_finishes 18 = .ok (.invokevirtual 73, 3) := by decide +kernel
theorem dX6_finishes_21 : decode cX6_finishes 21 = .ok (.ifCond .eq 60, 3) := by decide +kernel
theorem dX6_finishes_24 : decode cX6_finishes 24 = .ok (.aload_n 0, 1) := by decide +kernel
theorem dX6_finishes_25 : decode cX6_finishes 25 = .ok (.iload_n 2, 1) := by decide +kernel
theorem dX6_finishes_26 : decode cX6_finishes 26 = .ok (.iconst 2, 1) := by decide +kernel
theorem dX6_finishes_27 : decode cX6_finishes 27 = .ok (.iadd, 1) := by decide +kernel
theorem dX6_finishes_28 : decode cX6_finishes 28 = .ok (.aload_n 0, 1) := by decide +kernel
theorem dX6_finishes_29 : decode cX6_finishes 29 = .ok (.getfield 103, 3) := by decide +kernel
theorem dX6_finishes_32 : decode cX6_finishes 32 = .ok (.invokevirtual 73, 3) := by decide +kernel
theorem dX6_finishes_35 : decode cX6_finishes 35 = .ok (.ifCond .eq 46, 3) := by decide +kernel
theorem dX6_finishes_38 : decode cX6_finishes 38 = .ok (.aload_n 0, 1) := by decide +kernel
theorem dX6_finishes_39 : decode cX6_finishes 39 = .ok (.iload_n 2, 1) := by decide +kernel
theorem dX6_finishes_40 : decode cX6_finishes 40 = .ok (.iconst 3, 1) := by decide +kernel
theorem dX6_finishes_41 : decode cX6_finishes 41 = .ok (.iadd, 1) := by decide +kernel
theorem dX6_finishes_42 : decode cX6_finishes 42 = .ok (.aload_n 0, 1) := by decide +kernel
theorem dX6_finishes_43 : decode cX6_finishes 43 = .ok (.getfield 106, 3) := by decide +kernel
theorem dX6_finishes_46 : decode cX6_finishes 46 = .ok (.invokevirtual 73, 3) := by decide +kernel
theorem dX6_finishes_49 : decode cX6_finishes 49 = .ok (.ifCond .eq 32, 3) := by decide +kernel
theorem dX6_finishes_52 : decode cX6_finishes 52 = .ok (.aload_n 0, 1) := by decide +kernel
theorem dX6_finishes_53 : decode cX6_finishes 53 = .ok (.iload_n 2, 1) := by decide +kernel
theorem dX6_finishes_54 : decode cX6_finishes 54 = .ok (.iconst 4, 1) := by decide +kernel
theorem dX6_finishes_55 : decode cX6_finishes 55 = .ok (.iadd, 1) := by decide +kernel
theorem dX6_finishes_56 : decode cX6_finishes 56 = .ok (.aload_n 0, 1) := by decide +kernel
theorem dX6_finishes_57 : decode cX6_finishes 57 = .ok (.getfield 109, 3) := by decide +kernel
theorem dX6_finishes_60 : decode cX6_finishes 60 = .ok (.invokevirtual 73, 3) := by decide +kernel
theorem dX6_finishes_63 : decode cX6_finishes 63 = .ok (.ifCond .eq 18, 3) := by decide +kernel
theorem dX6_finishes_66 : decode cX6_finishes 66 = .ok (.aload_n 0, 1) := by decide +kernel
theorem dX6_finishes_67 : decode cX6_finishes 67 = .ok (.iload_n 2, 1) := by decide +kernel
theorem dX6_finishes_68 : decode cX6_finishes 68 = .ok (.iconst 0, 1) := by decide +kernel
theorem dX6_finishes_69 : decode cX6_finishes 69 = .ok (.iadd, 1) := by decide +kernel
theorem dX6_finishes_70 : decode cX6_finishes 70 = .ok (.iconst 1, 1) := by decide +kernel
theorem dX6_finishes_71 : decode cX6_finishes 71 = .ok (.invokevirtual 73, 3) := by decide +kernel
theorem dX6_finishes_74 : decode cX6_finishes 74 = .ok (.ifCond .eq 7, 3) := by decide +kernel
theorem dX6_finishes_77 : decode cX6_finishes 77 = .ok (.iconst 1, 1) := by decide +kernel
theorem dX6_finishes_78 : decode cX6_finishes 78 = .ok (.goto 4, 3) := by decide +kernel
theorem dX6_finishes_81 : decode cX6_finishes 81 = .ok (.iconst 0, 1) := by decide +kernel
theorem dX6_finishes_82 : decode cX6_finishes 82 = .ok (.istore_n 3, 1) := by decide +kernel
theorem dX6_finishes_83 : decode cX6_finishes 83 = .ok (.iload_n 3, 1) := by decide +kernel
theorem dX6_finishes_84 : decode cX6_finishes 84 = .ok (.ifCond .eq 29, 3) := by decide +kernel
theorem dX6_finishes_87 : decode cX6_finishes 87 = .ok (.aload_n 0, 1) := by decide +kernel
theorem dX6_finishes_88 : decode cX6_finishes 88 = .ok (.aload_n 0, 1) := by decide +kernel
theorem dX6_finishes_89 : decode cX6_finishes 89 = .ok (.invokevirtual 83, 3) := by decide +kernel
theorem dX6_finishes_92 : decode cX6_finishes 92 = .ok (.iconst 2, 1) := by decide +kernel
theorem dX6_finishes_93 : decode cX6_finishes 93 = .ok (.iadd, 1) := by decide +kernel
theorem dX6_finishes_94 : decode cX6_finishes 94 = .ok (.iconst 4, 1) := by decide +kernel
theorem dX6_finishes_95 : decode cX6_finishes 95 = .ok (.iload_n 1, 1) := by decide +kernel
theorem dX6_finishes_96 : decode cX6_finishes 96 = .ok (.imul, 1) := by decide +kernel
theorem dX6_finishes_97 : decode cX6_finishes 97 = .ok (.iadd, 1) := by decide +kernel
theorem dX6_finishes_98 : decode cX6_finishes 98 = .ok (.aload_n 0, 1) := by decide +kernel
theorem dX6_finishes_99 : decode cX6_finishes 99 = .ok (.iconst 3, 1) := by decide +kernel
theorem dX6_finishes_100 : decode cX6_finishes 100 = .ok (.invokevirtual 56, 3) := by decide +kernel
theorem dX6_finishes_103 : decode cX6_finishes 103 = .ok (.invokevirtual 89, 3) := by decide +kernel
theorem dX6_finishes_106 : decode cX6_finishes 106 = .ok (.ifCond .eq 7, 3) := by decide +kernel
theorem dX6_finishes_109 : decode cX6_finishes 109 = .ok (.iconst 1, 1) := by decide +kernel
theorem dX6_finishes_110 : decode cX6_finishes 110 = .ok (.goto 4, 3) := by decide +kernel
theorem dX6_finishes_113 : decode cX6_finishes 113 = .ok (.iconst 0, 1) := by decide +kernel
theorem dX6_finishes_114 : decode cX6_finishes 114 = .ok (.ireturn, 1) := by decide +kernel
set_option maxRecDepth 20000 in
theorem ggX6_finish_X6_in : GoodIn wsX6_finish wsX6_in := goodIn_r _ [5] (by decide +kernel) (by decide +kernel)
set_option maxRecDepth 20000 in
theorem gX6_finish_X6_in : GoodIn wsX6_finish (va_wsS RX6 44 yX6_in wsX6_in) := goodIn_app (goodIn_of _ (by decide +kernel)) ggX6_finish_X6_in
set_option maxRecDepth 20000 in
theorem ggX6_finish_X6_canFinish : GoodIn wsX6_finish wsX6_canFinish := goodIn_r _ [9, 1, 10, 11, 12, 13, 14, 15, 4, 16, 17, 18, 19, 20, 21, 68, 69, 70, 71, 72, 73, 74, 75, 76, 77, 78, 79, 80, 81] (by decide +kernel) (by decide +kernel)
set_option maxRecDepth 20000 in
theorem gX6_finish_X6_canFinish : GoodIn wsX6_finish (wsV RX6 115 RX6 yX6_canFinish wsX6_canFinish) := goodIn_app (goodIn_of _ (by decide +kernel)) ggX6_finish_X6_canFinish
set_option maxRecDepth 20000 in
theorem ggX6_finish_X6_goes : GoodIn wsX6_finish wsX6_goes := goodIn_r _ [25, 26, 68, 69, 70, 71, 72, 73, 74, 75, 76, 77, 78, 79, 80, 81] (by decide +kernel) (by decide +kernel)
set_option maxRecDepth 20000 in
theorem gX6_finish_X6_goes : GoodIn wsX6_finish (wsV RX6 96 RX6 yX6_goes wsX6_goes) := goodIn_app (goodIn_of _ (by decide +kernel)) ggX6_finish_X6_goes
set_option maxRecDepth 20000 in
theorem ggX6_finish_X6_finishes : GoodIn wsX6_finish wsX6_finishes := goodIn_r _ [30, 11, 31, 10, 12, 32, 33, 34, 35, 4, 36, 37, 38, 17, 39, 40, 41, 42, 43, 1, 44, 45, 46, 47, 48, 49, 50, 51, 52, 53, 54, 55, 56, 57, 58, 59, 60, 61, 62, 63, 64, 65, 66, 67, 68, 69, 70, 71, 72, 73, 74, 75, 76, 77, 78, 79, 80, 81] (by decide +kernel) (by decide +kernel)
set_option maxRecDepth 20000 in
theorem gX6_finish_X6_finishes : GoodIn wsX6_finish (wsV RX6 118 RX6 yX6_finishes wsX6_finishes) := goodIn_app (goodIn_of _ (by decide +kernel)) ggX6_finish_X6_finishes
theorem dX6_finish_0 : decode cX6_finish 0 = .ok (.aload_n 0, 1) := by decide +kernel
theorem dX6_finish_1 : decode cX6_finish 1 = .ok (.iload_n 1, 1) := by decide +kernel
theorem dX6_finish_2 : decode cX6_finish 2 = .ok (.iconst 1, 1) := by decide +kernel
theorem dX6_finish_3 : decode cX6_finish 3 = .ok (.iconst 3, 1) := by decide +kernel
theorem dX6_finish_4 : decode cX6_finish 4 = .ok (.invokestatic 44, 3) := by decide +kernel
theorem dX6_finish_7 : decode cX6_finish 7 = .ok (.aload_n 0, 1) := by decide +kernel
theorem dX6_finish_8 : decode cX6_finish 8 = .ok (.invokevirtual 115, 3) := by decide +kernel
theorem dX6_finish_11 : decode cX6_finish 11 = .ok (.invokevirtual 96, 3) := by decide +kernel
theorem dX6_finish_14 : decode cX6_finish 14 = .ok (.ifCond .ne 5, 3) := by decide +kernel
theorem dX6_finish_17 : decode cX6_finish 17 = .ok (.iconst 0, 1) := by decide +kernel
theorem dX6_finish_18 : decode cX6_finish 18 = .ok (.ireturn, 1) := by decide +kernel
theorem dX6_finish_19 : decode cX6_finish 19 = .ok (.aload_n 0, 1) := by decide +kernel
theorem dX6_finish_20 : decode cX6_finish 20 = .ok (.iload_n 1, 1) := by decide +kernel
theorem dX6_finish_21 : decode cX6_finish 21 = .ok (.invokevirtual 118, 3) := by decide +kernel
theorem dX6_finish_24 : decode cX6_finish 24 = .ok (.istore_n 2, 1) := by decide +kernel
theorem dX6_finish_25 : decode cX6_finish 25 = .ok (.aload_n 0, 1) := by decide +kernel
theorem dX6_finish_26 : decode cX6_finish 26 = .ok (.iconst (-1), 1) := by decide +kernel
theorem dX6_finish_27 : decode cX6_finish 27 = .ok (.putfield 23, 3) := by decide +kernel
theorem dX6_finish_30 : decode cX6_finish 30 = .ok (.iload_n 2, 1) := by decide +kernel
theorem dX6_finish_31 : decode cX6_finish 31 = .ok (.ireturn, 1) := by decide +kernel
set_option maxRecDepth 20000 in
theorem ggX6_confirm_X6_isTrial : GoodIn wsX6_confirm wsX6_isTrial := goodIn_r _ [8, 9, 3, 10, 11, 12, 7, 13, 14, 15, 16, 17, 2, 18, 19, 20, 21, 22, 23, 24, 25, 26, 27, 28, 29, 45, 46, 47, 48, 49, 50, 51, 52, 53, 54, 55, 56, 57, 58] (by decide +kernel) (by decide +kernel)
set_option maxRecDepth 20000 in
theorem gX6_confirm_X6_isTrial : GoodIn wsX6_confirm (wsV RX6 92 RX6 yX6_isTrial wsX6_isTrial) := goodIn_app (goodIn_of _ (by decide +kernel)) ggX6_confirm_X6_isTrial
set_option maxRecDepth 20000 in
theorem ggX6_confirm_X6_inForce : GoodIn wsX6_confirm wsX6_inForce := goodIn_r _ [17, 2, 18, 19, 20, 7, 21, 22, 23, 24, 25, 26, 27, 28, 29, 45, 46, 47, 48, 49, 50, 51, 52, 53, 54, 55, 56, 57, 58] (by decide +kernel) (by decide +kernel)
set_option maxRecDepth 20000 in
theorem gX6_confirm_X6_inForce : GoodIn wsX6_confirm (wsV RX6 56 RX6 yX6_inForce wsX6_inForce) := goodIn_app (goodIn_of _ (by decide +kernel)) ggX6_confirm_X6_inForce
set_option maxRecDepth 20000 in
theorem ggX6_confirm_X6_records : GoodIn wsX6_confirm wsX6_records := goodIn_r _ [33, 2, 18, 19, 20, 7, 21, 22, 23, 24, 25, 26, 27, 28, 29, 34, 35, 36, 37, 38, 39, 40, 41, 42, 43, 9, 3, 44, 45, 46, 47, 48, 49, 50, 51, 52, 53, 54, 55, 56, 57, 58] (by decide +kernel) (by decide +kernel)
set_option maxRecDepth 20000 in
theorem gX6_confirm_X6_records : GoodIn wsX6_confirm (wsV RX6 89 RX6 yX6_records wsX6_records) := goodIn_app (goodIn_of _ (by decide +kernel)) ggX6_confirm_X6_records
theorem dX6_confirm_0 : decode cX6_confirm 0 = .ok (.aload_n 0, 1) := by decide +kernel
theorem dX6_confirm_1 : decode cX6_confirm 1 = .ok (.aload_n 0, 1) := by decide +kernel
theorem dX6_confirm_2 : decode cX6_confirm 2 = .ok (.invokevirtual 92, 3) := by decide +kernel
theorem dX6_confirm_5 : decode cX6_confirm 5 = .ok (.ifCond .eq 7, 3) := by decide +kernel
theorem dX6_confirm_8 : decode cX6_confirm 8 = .ok (.iconst 0, 1) := by decide +kernel
theorem dX6_confirm_9 : decode cX6_confirm 9 = .ok (.goto 4, 3) := by decide +kernel
theorem dX6_confirm_12 : decode cX6_confirm 12 = .ok (.iconst 1, 1) := by decide +kernel
theorem dX6_confirm_13 : decode cX6_confirm 13 = .ok (.putfield 37, 3) := by decide +kernel
theorem dX6_confirm_16 : decode cX6_confirm 16 = .ok (.aload_n 0, 1) := by decide +kernel
theorem dX6_confirm_17 : decode cX6_confirm 17 = .ok (.getfield 37, 3) := by decide +kernel
theorem dX6_confirm_20 : decode cX6_confirm 20 = .ok (.ifCond .le 5, 3) := by decide +kernel
theorem dX6_confirm_23 : decode cX6_confirm 23 = .ok (.iconst 0, 1) := by decide +kernel
theorem dX6_confirm_24 : decode cX6_confirm 24 = .ok (.ireturn, 1) := by decide +kernel
theorem dX6_confirm_25 : decode cX6_confirm 25 = .ok (.aload_n 0, 1) := by decide +kernel
theorem dX6_confirm_26 : decode cX6_confirm 26 = .ok (.getfield 7, 3) := by decide +kernel
theorem dX6_confirm_29 : decode cX6_confirm 29 = .ok (.bipush 29, 2) := by decide +kernel
theorem dX6_confirm_31 : decode cX6_confirm 31 = .ok (.aload_n 0, 1) := by decide +kernel
theorem dX6_confirm_32 : decode cX6_confirm 32 = .ok (.getfield 16, 3) := by decide +kernel
theorem dX6_confirm_35 : decode cX6_confirm 35 = .ok (.imul, 1) := by decide +kernel
theorem dX6_confirm_36 : decode cX6_confirm 36 = .ok (.iconst 4, 1) := by decide +kernel
theorem dX6_confirm_37 : decode cX6_confirm 37 = .ok (.iadd, 1) := by decide +kernel
theorem dX6_confirm_38 : decode cX6_confirm 38 = .ok (.iaload, 1) := by decide +kernel
theorem dX6_confirm_39 : decode cX6_confirm 39 = .ok (.istore_n 1, 1) := by decide +kernel
theorem dX6_confirm_40 : decode cX6_confirm 40 = .ok (.aload_n 0, 1) := by decide +kernel
theorem dX6_confirm_41 : decode cX6_confirm 41 = .ok (.aload_n 0, 1) := by decide +kernel
theorem dX6_confirm_42 : decode cX6_confirm 42 = .ok (.getfield 16, 3) := by decide +kernel
theorem dX6_confirm_45 : decode cX6_confirm 45 = .ok (.iload_n 1, 1) := by decide +kernel
theorem dX6_confirm_46 : decode cX6_confirm 46 = .ok (.aload_n 0, 1) := by decide +kernel
theorem dX6_confirm_47 : decode cX6_confirm 47 = .ok (.iconst 3, 1) := by decide +kernel
theorem dX6_confirm_48 : decode cX6_confirm 48 = .ok (.invokevirtual 56, 3) := by decide +kernel
theorem dX6_confirm_51 : decode cX6_confirm 51 = .ok (.if_icmp .le 7, 3) := by decide +kernel
theorem dX6_confirm_54 : decode cX6_confirm 54 = .ok (.iload_n 1, 1) := by decide +kernel
theorem dX6_confirm_55 : decode cX6_confirm 55 = .ok (.goto 8, 3) := by decide +kernel
theorem dX6_confirm_58 : decode cX6_confirm 58 = .ok (.aload_n 0, 1) := by decide +kernel
theorem dX6_confirm_59 : decode cX6_confirm 59 = .ok (.iconst 3, 1) := by decide +kernel
theorem dX6_confirm_60 : decode cX6_confirm 60 = .ok (.invokevirtual 56, 3) := by decide +kernel
theorem dX6_confirm_63 : decode cX6_confirm 63 = .ok (.invokevirtual 89, 3) := by decide +kernel
theorem dX6_confirm_66 : decode cX6_confirm 66 = .ok (.ireturn, 1) := by decide +kernel
theorem dX6_toCome_0 : decode cX6_toCome 0 = .ok (.aload_n 0, 1) := by decide +kernel
theorem dX6_toCome_1 : decode cX6_toCome 1 = .ok (.iconst 0, 1) := by decide +kernel
theorem dX6_toCome_2 : decode cX6_toCome 2 = .ok (.putfield 37, 3) := by decide +kernel
theorem dX6_toCome_5 : decode cX6_toCome 5 = .ok (.aload_n 0, 1) := by decide +kernel
theorem dX6_toCome_6 : decode cX6_toCome 6 = .ok (.getfield 23, 3) := by decide +kernel
theorem dX6_toCome_9 : decode cX6_toCome 9 = .ok (.ifCond .ge 7, 3) := by decide +kernel
theorem dX6_toCome_12 : decode cX6_toCome 12 = .ok (.iconst (-1), 1) := by decide +kernel
theorem dX6_toCome_13 : decode cX6_toCome 13 = .ok (.goto 12, 3) := by decide +kernel
theorem dX6_toCome_16 : decode cX6_toCome 16 = .ok (.aload_n 0, 1) := by decide +kernel
theorem dX6_toCome_17 : decode cX6_toCome 17 = .ok (.getfield 103, 3) := by decide +kernel
theorem dX6_toCome_20 : decode cX6_toCome 20 = .ok (.aload_n 0, 1) := by decide +kernel
theorem dX6_toCome_21 : decode cX6_toCome 21 = .ok (.getfield 23, 3) := by decide +kernel
theorem dX6_toCome_24 : decode cX6_toCome 24 = .ok (.isub, 1) := by decide +kernel
theorem dX6_toCome_25 : decode cX6_toCome 25 = .ok (.ireturn, 1) := by decide +kernel
set_option maxRecDepth 20000 in
theorem ggX6_draft_X6_in : GoodIn wsX6_draft wsX6_in := goodIn_r _ [6] (by decide +kernel) (by decide +kernel)
set_option maxRecDepth 20000 in
theorem gX6_draft_X6_in : GoodIn wsX6_draft (va_wsS RX6 44 yX6_in wsX6_in) := goodIn_app (goodIn_of _ (by decide +kernel)) ggX6_draft_X6_in
set_option maxRecDepth 20000 in
theorem ggX6_draft_X6_goes : GoodIn wsX6_draft wsX6_goes := goodIn_r _ [10, 11, 12, 13, 14, 15, 16, 17, 18, 19, 20, 21, 22, 23, 24, 25] (by decide +kernel) (by decide +kernel)
set_option maxRecDepth 20000 in
theorem gX6_draft_X6_goes : GoodIn wsX6_draft (wsV RX6 96 RX6 yX6_goes wsX6_goes) := goodIn_app (goodIn_of _ (by decide +kernel)) ggX6_draft_X6_goes
theorem dX6_draft_0 : decode cX6_draft 0 = .ok (.aload_n 0, 1) := by decide +kernel
theorem dX6_draft_1 : decode cX6_draft 1 = .ok (.iload_n 1, 1) := by decide +kernel
theorem dX6_draft_2 : decode cX6_draft 2 = .ok (.iconst 0, 1) := by decide +kernel
theorem dX6_draft_3 : decode cX6_draft 3 = .ok (.sipush 255, 3) := by decide +kernel
theorem dX6_draft_6 : decode cX6_draft 6 = .ok (.invokestatic 44, 3) := by decide +kernel
theorem dX6_draft_9 : decode cX6_draft 9 = .ok (.aload_n 0, 1) := by decide +kernel
theorem dX6_draft_10 : decode cX6_draft 10 = .ok (.getfield 121, 3) := by decide +kernel
theorem dX6_draft_13 : decode cX6_draft 13 = .ok (.bipush 24, 2) := by decide +kernel
theorem dX6_draft_15 : decode cX6_draft 15 = .ok (.if_icmp .ge 7, 3) := by decide +kernel
theorem dX6_draft_18 : decode cX6_draft 18 = .ok (.iconst 1, 1) := by decide +kernel
theorem dX6_draft_19 : decode cX6_draft 19 = .ok (.goto 4, 3) := by decide +kernel
theorem dX6_draft_22 : decode cX6_draft 22 = .ok (.iconst 0, 1) := by decide +kernel
theorem dX6_draft_23 : decode cX6_draft 23 = .ok (.invokevirtual 96, 3) := by decide +kernel
theorem dX6_draft_26 : decode cX6_draft 26 = .ok (.ifCond .ne 5, 3) := by decide +kernel
theorem dX6_draft_29 : decode cX6_draft 29 = .ok (.iconst 0, 1) := by decide +kernel
theorem dX6_draft_30 : decode cX6_draft 30 = .ok (.ireturn, 1) := by decide +kernel
theorem dX6_draft_31 : decode cX6_draft 31 = .ok (.aload_n 0, 1) := by decide +kernel
theorem dX6_draft_32 : decode cX6_draft 32 = .ok (.getfield 26, 3) := by decide +kernel
theorem dX6_draft_35 : decode cX6_draft 35 = .ok (.aload_n 0, 1) := by decide +kernel
theorem dX6_draft_36 : decode cX6_draft 36 = .ok (.getfield 121, 3) := by decide +kernel
theorem dX6_draft_39 : decode cX6_draft 39 = .ok (.iload_n 1, 1) := by decide +kernel
theorem dX6_draft_40 : decode cX6_draft 40 = .ok (.iastore, 1) := by decide +kernel
theorem dX6_draft_41 : decode cX6_draft 41 = .ok (.aload_n 0, 1) := by decide +kernel
theorem dX6_draft_42 : decode cX6_draft 42 = .ok (.dup, 1) := by decide +kernel
theorem dX6_draft_43 : decode cX6_draft 43 = .ok (.getfield 121, 3) := by decide +kernel
theorem dX6_draft_46 : decode cX6_draft 46 = .ok (.iconst 1, 1) := by decide +kernel
theorem dX6_draft_47 : decode cX6_draft 47 = .ok (.iadd, 1) := by decide +kernel
theorem dX6_draft_48 : decode cX6_draft 48 = .ok (.putfield 121, 3) := by decide +kernel
theorem dX6_draft_51 : decode cX6_draft 51 = .ok (.aload_n 0, 1) := by decide +kernel
theorem dX6_draft_52 : decode cX6_draft 52 = .ok (.getfield 121, 3) := by decide +kernel
theorem dX6_draft_55 : decode cX6_draft 55 = .ok (.ireturn, 1) := by decide +kernel
theorem dX6_clearDraft_0 : decode cX6_clearDraft 0 = .ok (.aload_n 0, 1) := by decide +kernel
theorem dX6_clearDraft_1 : decode cX6_clearDraft 1 = .ok (.iconst 0, 1) := by decide +kernel
theorem dX6_clearDraft_2 : decode cX6_clearDraft 2 = .ok (.putfield 37, 3) := by decide +kernel
theorem dX6_clearDraft_5 : decode cX6_clearDraft 5 = .ok (.aload_n 0, 1) := by decide +kernel
theorem dX6_clearDraft_6 : decode cX6_clearDraft 6 = .ok (.getfield 121, 3) := by decide +kernel
theorem dX6_clearDraft_9 : decode cX6_clearDraft 9 = .ok (.istore_n 1, 1) := by decide +kernel
theorem dX6_clearDraft_10 : decode cX6_clearDraft 10 = .ok (.aload_n 0, 1) := by decide +kernel
theorem dX6_clearDraft_11 : decode cX6_clearDraft 11 = .ok (.iconst 0, 1) := by decide +kernel
theorem dX6_clearDraft_12 : decode cX6_clearDraft 12 = .ok (.putfield 121, 3) := by decide +kernel
theorem dX6_clearDraft_15 : decode cX6_clearDraft 15 = .ok (.iload_n 1, 1) := by decide +kernel
theorem dX6_clearDraft_16 : decode cX6_clearDraft 16 = .ok (.ireturn, 1) := by decide +kernel
set_option maxRecDepth 20000 in
theorem ggX6_draftHash_X6_hashed : GoodIn wsX6_draftHash wsX6_hashed := goodIn_r _ [7, 8] (by decide +kernel) (by decide +kernel)
set_option maxRecDepth 20000 in
theorem gX6_draftHash_X6_hashed : GoodIn wsX6_draftHash (va_wsS RX6 41 yX6_hashed wsX6_hashed) := goodIn_app (goodIn_of _ (by decide +kernel)) ggX6_draftHash_X6_hashed
theorem dX6_draftHash_0 : decode cX6_draftHash 0 = .ok (.aload_n 0, 1) := by decide +kernel
theorem dX6_draftHash_1 : decode cX6_draftHash 1 = .ok (.iconst 0, 1) := by decide +kernel
theorem dX6_draftHash_2 : decode cX6_draftHash 2 = .ok (.putfield 37, 3) := by decide +kernel
theorem dX6_draftHash_5 : decode cX6_draftHash 5 = .ok (.bipush 17, 2) := by decide +kernel
theorem dX6_draftHash_7 : decode cX6_draftHash 7 = .ok (.istore_n 1, 1) := by decide +kernel
theorem dX6_draftHash_8 : decode cX6_draftHash 8 = .ok (.iconst 0, 1) := by decide +kernel
theorem dX6_draftHash_9 : decode cX6_draftHash 9 = .ok (.istore_n 2, 1) := by decide +kernel
theorem dX6_draftHash_10 : decode cX6_draftHash 10 = .ok (.iload_n 2, 1) := by decide +kernel
theorem dX6_draftHash_11 : decode cX6_draftHash 11 = .ok (.aload_n 0, 1) := by decide +kernel
theorem dX6_draftHash_12 : decode cX6_draftHash 12 = .ok (.getfield 121, 3) := by decide +kernel
theorem dX6_draftHash_15 : decode cX6_draftHash 15 = .ok (.if_icmp .ge 20, 3) := by decide +kernel
theorem dX6_draftHash_18 : decode cX6_draftHash 18 = .ok (.iload_n 1, 1) := by decide +kernel
theorem dX6_draftHash_19 : decode cX6_draftHash 19 = .ok (.aload_n 0, 1) := by decide +kernel
theorem dX6_draftHash_20 : decode cX6_draftHash 20 = .ok (.getfield 26, 3) := by decide +kernel
theorem dX6_draftHash_23 : decode cX6_draftHash 23 = .ok (.iload_n 2, 1) := by decide +kernel
theorem dX6_draftHash_24 : decode cX6_draftHash 24 = .ok (.iaload, 1) := by decide +kernel
theorem dX6_draftHash_25 : decode cX6_draftHash 25 = .ok (.invokestatic 41, 3) := by decide +kernel
theorem dX6_draftHash_28 : decode cX6_draftHash 28 = .ok (.istore_n 1, 1) := by decide +kernel
theorem dX6_draftHash_29 : decode cX6_draftHash 29 = .ok (.iinc 2 1, 3) := by decide +kernel
theorem dX6_draftHash_32 : decode cX6_draftHash 32 = .ok (.goto (-22), 3) := by decide +kernel
theorem dX6_draftHash_35 : decode cX6_draftHash 35 = .ok (.iload_n 1, 1) := by decide +kernel
theorem dX6_draftHash_36 : decode cX6_draftHash 36 = .ok (.ireturn, 1) := by decide +kernel
theorem dX6_alike_0 : decode cX6_alike 0 = .ok (.iconst 0, 1) := by decide +kernel
theorem dX6_alike_1 : decode cX6_alike 1 = .ok (.istore 4, 2) := by decide +kernel
theorem dX6_alike_3 : decode cX6_alike 3 = .ok (.iload_n 2, 1) := by decide +kernel
theorem dX6_alike_4 : decode cX6_alike 4 = .ok (.iload 4, 2) := by decide +kernel
theorem dX6_alike_6 : decode cX6_alike 6 = .ok (.iadd, 1) := by decide +kernel
theorem dX6_alike_7 : decode cX6_alike 7 = .ok (.aload_n 0, 1) := by decide +kernel
theorem dX6_alike_8 : decode cX6_alike 8 = .ok (.getfield 121, 3) := by decide +kernel
theorem dX6_alike_11 : decode cX6_alike 11 = .ok (.if_icmp .ge 55, 3) := by decide +kernel
theorem dX6_alike_14 : decode cX6_alike 14 = .ok (.iload_n 3, 1) := by decide +kernel
theorem dX6_alike_15 : decode cX6_alike 15 = .ok (.iload 4, 2) := by decide +kernel
theorem dX6_alike_17 : decode cX6_alike 17 = .ok (.iadd, 1) := by decide +kernel
theorem dX6_alike_18 : decode cX6_alike 18 = .ok (.aload_n 0, 1) := by decide +kernel
theorem dX6_alike_19 : decode cX6_alike 19 = .ok (.getfield 7, 3) := by decide +kernel
theorem dX6_alike_22 : decode cX6_alike 22 = .ok (.bipush 29, 2) := by decide +kernel
theorem dX6_alike_24 : decode cX6_alike 24 = .ok (.iload_n 1, 1) := by decide +kernel
theorem dX6_alike_25 : decode cX6_alike 25 = .ok (.imul, 1) := by decide +kernel
theorem dX6_alike_26 : decode cX6_alike 26 = .ok (.iconst 2, 1) := by decide +kernel
theorem dX6_alike_27 : decode cX6_alike 27 = .ok (.iadd, 1) := by decide +kernel
theorem dX6_alike_28 : decode cX6_alike 28 = .ok (.iaload, 1) := by decide +kernel
theorem dX6_alike_29 : decode cX6_alike 29 = .ok (.if_icmp .ge 37, 3) := by decide +kernel
theorem dX6_alike_32 : decode cX6_alike 32 = .ok (.aload_n 0, 1) := by decide +kernel
theorem dX6_alike_33 : decode cX6_alike 33 = .ok (.getfield 26, 3) := by decide +kernel
theorem dX6_alike_36 : decode cX6_alike 36 = .ok (.iload_n 2, 1) := by decide +kernel
theorem dX6_alike_37 : decode cX6_alike 37 = .ok (.iload 4, 2) := by decide +kernel
theorem dX6_alike_39 : decode cX6_alike 39 = .ok (.iadd, 1) := by decide +kernel
theorem dX6_alike_40 : decode cX6_alike 40 = .ok (.iaload, 1) := by decide +kernel
theorem dX6_alike_41 : decode cX6_alike 41 = .ok (.aload_n 0, 1) := by decide +kernel
theorem dX6_alike_42 : decode cX6_alike 42 = .ok (.getfield 7, 3) := by decide +kernel
theorem dX6_alike_45 : decode cX6_alike 45 = .ok (.bipush 29, 2) := by decide +kernel
theorem dX6_alike_47 : decode cX6_alike 47 = .ok (.iload_n 1, 1) := by decide +kernel
theorem dX6_alike_48 : decode cX6_alike 48 = .ok (.imul, 1) := by decide +kernel
theorem dX6_alike_49 : decode cX6_alike 49 = .ok (.iconst 5, 1) := by decide +kernel
theorem dX6_alike_50 : decode cX6_alike 50 = .ok (.iadd, 1) := by decide +kernel
theorem dX6_alike_51 : decode cX6_alike 51 = .ok (.iload_n 3, 1) := by decide +kernel
theorem dX6_alike_52 : decode cX6_alike 52 = .ok (.iadd, 1) := by decide +kernel
theorem dX6_alike_53 : decode cX6_alike 53 = .ok (.iload 4, 2) := by decide +kernel
theorem dX6_alike_55 : decode cX6_alike 55 = .ok (.iadd, 1) := by decide +kernel
theorem dX6_alike_56 : decode cX6_alike 56 = .ok (.iaload, 1) := by decide +kernel
theorem dX6_alike_57 : decode cX6_alike 57 = .ok (.if_icmp .ne 9, 3) := by decide +kernel
theorem dX6_alike_60 : decode cX6_alike 60 = .ok (.iinc 4 1, 3) := by decide +kernel
theorem dX6_alike_63 : decode cX6_alike 63 = .ok (.goto (-60), 3) := by decide +kernel
theorem dX6_alike_66 : decode cX6_alike 66 = .ok (.iload 4, 2) := by decide +kernel
theorem dX6_alike_68 : decode cX6_alike 68 = .ok (.ireturn, 1) := by decide +kernel
set_option maxRecDepth 20000 in
theorem ggX6_bestFrom_X6_alike : GoodIn wsX6_bestFrom wsX6_alike := goodIn_r _ [6, 7, 1, 8, 9, 10, 11, 12, 13, 14, 15, 16, 17, 18, 19, 20, 21, 22] (by decide +kernel) (by decide +kernel)
set_option maxRecDepth 20000 in
theorem gX6_bestFrom_X6_alike : GoodIn wsX6_bestFrom (wsV RX6 124 RX6 yX6_alike wsX6_alike) := goodIn_app (goodIn_of _ (by decide +kernel)) ggX6_bestFrom_X6_alike
theorem dX6_bestFrom_0 : decode cX6_bestFrom 0 = .ok (.iconst 0, 1) := by decide +kernel
theorem dX6_bestFrom_1 : decode cX6_bestFrom 1 = .ok (.istore_n 3, 1) := by decide +kernel
theorem dX6_bestFrom_2 : decode cX6_bestFrom 2 = .ok (.iconst 1, 1) := by decide +kernel
theorem dX6_bestFrom_3 : decode cX6_bestFrom 3 = .ok (.istore 4, 2) := by decide +kernel
theorem dX6_bestFrom_5 : decode cX6_bestFrom 5 = .ok (.iload 4, 2) := by decide +kernel
theorem dX6_bestFrom_7 : decode cX6_bestFrom 7 = .ok (.aload_n 0, 1) := by decide +kernel
theorem dX6_bestFrom_8 : decode cX6_bestFrom 8 = .ok (.getfield 7, 3) := by decide +kernel
theorem dX6_bestFrom_11 : decode cX6_bestFrom 11 = .ok (.bipush 29, 2) := by decide +kernel
theorem dX6_bestFrom_13 : decode cX6_bestFrom 13 = .ok (.iload_n 1, 1) := by decide +kernel
theorem dX6_bestFrom_14 : decode cX6_bestFrom 14 = .ok (.imul, 1) := by decide +kernel
theorem dX6_bestFrom_15 : decode cX6_bestFrom 15 = .ok (.iconst 2, 1) := by decide +kernel
theorem dX6_bestFrom_16 : decode cX6_bestFrom 16 = .ok (.iadd, 1) := by decide +kernel
theorem dX6_bestFrom_17 : decode cX6_bestFrom 17 = .ok (.iaload, 1) := by decide +kernel
theorem dX6_bestFrom_18 : decode cX6_bestFrom 18 = .ok (.if_icmp .ge 34, 3) := by decide +kernel
theorem dX6_bestFrom_21 : decode cX6_bestFrom 21 = .ok (.aload_n 0, 1) := by decide +kernel
theorem dX6_bestFrom_22 : decode cX6_bestFrom 22 = .ok (.iload_n 1, 1) := by decide +kernel
theorem dX6_bestFrom_23 : decode cX6_bestFrom 23 = .ok (.iload_n 2, 1) := by decide +kernel
theorem dX6_bestFrom_24 : decode cX6_bestFrom 24 = .ok (.iload 4, 2) := by decide +kernel
theorem dX6_bestFrom_26 : decode cX6_bestFrom 26 = .ok (.invokevirtual 124, 3) := by decide +kernel
theorem dX6_bestFrom_29 : decode cX6_bestFrom 29 = .ok (.aload_n 0, 1) := by decide +kernel
theorem dX6_bestFrom_30 : decode cX6_bestFrom 30 = .ok (.iload_n 1, 1) := by decide +kernel
theorem dX6_bestFrom_31 : decode cX6_bestFrom 31 = .ok (.iload_n 2, 1) := by decide +kernel
theorem dX6_bestFrom_32 : decode cX6_bestFrom 32 = .ok (.iload_n 3, 1) := by decide +kernel
theorem dX6_bestFrom_33 : decode cX6_bestFrom 33 = .ok (.invokevirtual 124, 3) := by decide +kernel
theorem dX6_bestFrom_36 : decode cX6_bestFrom 36 = .ok (.if_icmp .le 8, 3) := by decide +kernel
theorem dX6_bestFrom_39 : decode cX6_bestFrom 39 = .ok (.iload 4, 2) := by decide +kernel
theorem dX6_bestFrom_41 : decode cX6_bestFrom 41 = .ok (.goto 4, 3) := by decide +kernel
theorem dX6_bestFrom_44 : decode cX6_bestFrom 44 = .ok (.iload_n 3, 1) := by decide +kernel
theorem dX6_bestFrom_45 : decode cX6_bestFrom 45 = .ok (.istore_n 3, 1) := by decide +kernel
theorem dX6_bestFrom_46 : decode cX6_bestFrom 46 = .ok (.iinc 4 1, 3) := by decide +kernel
theorem dX6_bestFrom_49 : decode cX6_bestFrom 49 = .ok (.goto (-44), 3) := by decide +kernel
theorem dX6_bestFrom_52 : decode cX6_bestFrom 52 = .ok (.iload_n 3, 1) := by decide +kernel
theorem dX6_bestFrom_53 : decode cX6_bestFrom 53 = .ok (.ireturn, 1) := by decide +kernel
set_option maxRecDepth 20000 in
theorem ggX6_pieceLength_X6_bestFrom : GoodIn wsX6_pieceLength wsX6_bestFrom := goodIn_r _ [5, 6, 7, 8, 9, 4, 10, 11, 12, 13, 14, 15, 16, 17, 18, 19, 20, 21, 22, 23, 24, 25, 26] (by decide +kernel) (by decide +kernel)
set_option maxRecDepth 20000 in
theorem gX6_pieceLength_X6_bestFrom : GoodIn wsX6_pieceLength (wsV RX6 128 RX6 yX6_bestFrom wsX6_bestFrom) := goodIn_app (goodIn_of _ (by decide +kernel)) ggX6_pieceLength_X6_bestFrom
set_option maxRecDepth 20000 in
theorem ggX6_pieceLength_X6_alike : GoodIn wsX6_pieceLength wsX6_alike := goodIn_r _ [10, 11, 6, 12, 13, 14, 15, 16, 17, 18, 19, 20, 21, 22, 23, 24, 25, 26] (by decide +kernel) (by decide +kernel)
set_option maxRecDepth 20000 in
theorem gX6_pieceLength_X6_alike : GoodIn wsX6_pieceLength (wsV RX6 124 RX6 yX6_alike wsX6_alike) := goodIn_app (goodIn_of _ (by decide +kernel)) ggX6_pieceLength_X6_alike
theorem dX6_pieceLength_0 : decode cX6_pieceLength 0 = .ok (.aload_n 0, 1) := by decide +kernel
theorem dX6_pieceLength_1 : decode cX6_pieceLength 1 = .ok (.iload_n 1, 1) := by decide +kernel
theorem dX6_pieceLength_2 : decode cX6_pieceLength 2 = .ok (.iload_n 2, 1) := by decide +kernel
theorem dX6_pieceLength_3 : decode cX6_pieceLength 3 = .ok (.aload_n 0, 1) := by decide +kernel
theorem dX6_pieceLength_4 : decode cX6_pieceLength 4 = .ok (.iload_n 1, 1) := by decide +kernel
theorem dX6_pieceLength_5 : decode cX6_pieceLength 5 = .ok (.iload_n 2, 1) := by decide +kernel
theorem dX6_pieceLength_6 : decode cX6_pieceLength 6 = .ok (.invokevirtual 128, 3) := by decide +kernel
theorem dX6_pieceLength_9 : decode cX6_pieceLength 9 = .ok (.invokevirtual 124, 3) := by decide +kernel
theorem dX6_pieceLength_12 : decode cX6_pieceLength 12 = .ok (.istore_n 3, 1) := by decide +kernel
theorem dX6_pieceLength_13 : decode cX6_pieceLength 13 = .ok (.iload_n 3, 1) := by decide +kernel
theorem dX6_pieceLength_14 : decode cX6_pieceLength 14 = .ok (.iconst 2, 1) := by decide +kernel
theorem dX6_pieceLength_15 : decode cX6_pieceLength 15 = .ok (.if_icmp .ge 7, 3) := by decide +kernel
theorem dX6_pieceLength_18 : decode cX6_pieceLength 18 = .ok (.iconst 1, 1) := by decide +kernel
theorem dX6_pieceLength_19 : decode cX6_pieceLength 19 = .ok (.goto 4, 3) := by decide +kernel
theorem dX6_pieceLength_22 : decode cX6_pieceLength 22 = .ok (.iload_n 3, 1) := by decide +kernel
theorem dX6_pieceLength_23 : decode cX6_pieceLength 23 = .ok (.ireturn, 1) := by decide +kernel
set_option maxRecDepth 20000 in
theorem ggX6_countPieces_X6_pieceLength : GoodIn wsX6_countPieces wsX6_pieceLength := goodIn_r _ [6, 7, 8, 9, 5, 10, 11, 12, 13, 14, 15, 1, 16, 17, 18, 19, 20, 21, 22, 23, 24, 25, 26, 27, 28, 29, 30] (by decide +kernel) (by decide +kernel)
set_option maxRecDepth 20000 in
theorem gX6_countPieces_X6_pieceLength : GoodIn wsX6_countPieces (wsV RX6 131 RX6 yX6_pieceLength wsX6_pieceLength) := goodIn_app (goodIn_of _ (by decide +kernel)) ggX6_countPieces_X6_pieceLength
theorem dX6_countPieces_0 : decode cX6_countPieces 0 = .ok (.iconst 0, 1) := by decide +kernel
theorem dX6_countPieces_1 : decode cX6_countPieces 1 = .ok (.istore_n 2, 1) := by decide +kernel
theorem dX6_countPieces_2 : decode cX6_countPieces 2 = .ok (.iconst 0, 1) := by decide +kernel
theorem dX6_countPieces_3 : decode cX6_countPieces 3 = .ok (.istore_n 3, 1) := by decide +kernel
theorem dX6_countPieces_4 : decode cX6_countPieces 4 = .ok (.iload_n 3, 1) := by decide +kernel
theorem dX6_countPieces_5 : decode cX6_countPieces 5 = .ok (.aload_n 0, 1) := by decide +kernel
theorem dX6_countPieces_6 : decode cX6_countPieces 6 = .ok (.getfield 121, 3) := by decide +kernel
theorem dX6_countPieces_9 : decode cX6_countPieces 9 = .ok (.if_icmp .ge 18, 3) := by decide +kernel
theorem dX6_countPieces_12 : decode cX6_countPieces 12 = .ok (.iinc 2 1, 3) := by decide +kernel
theorem dX6_countPieces_15 : decode cX6_countPieces 15 = .ok (.iload_n 3, 1) := by decide +kernel
theorem dX6_countPieces_16 : decode cX6_countPieces 16 = .ok (.aload_n 0, 1) := by decide +kernel
theorem dX6_countPieces_17 : decode cX6_countPieces 17 = .ok (.iload_n 1, 1) := by decide +kernel
theorem dX6_countPieces_18 : decode cX6_countPieces 18 = .ok (.iload_n 3, 1) := by decide +kernel
theorem dX6_countPieces_19 : decode cX6_countPieces 19 = .ok (.invokevirtual 131, 3) := by decide +kernel
theorem dX6_countPieces_22 : decode cX6_countPieces 22 = .ok (.iadd, 1) := by decide +kernel
theorem dX6_countPieces_23 : decode cX6_countPieces 23 = .ok (.istore_n 3, 1) := by decide +kernel
theorem dX6_countPieces_24 : decode cX6_countPieces 24 = .ok (.goto (-20), 3) := by decide +kernel
theorem dX6_countPieces_27 : decode cX6_countPieces 27 = .ok (.iload_n 2, 1) := by decide +kernel
theorem dX6_countPieces_28 : decode cX6_countPieces 28 = .ok (.ireturn, 1) := by decide +kernel
set_option maxRecDepth 20000 in
theorem ggX6_placeOf_X6_pieceLength : GoodIn wsX6_placeOf wsX6_pieceLength := goodIn_r _ [5, 6, 7, 8, 4, 9, 10, 11, 12, 13, 14, 15, 16, 17, 18, 19, 20, 21, 22, 23, 24, 25, 26, 27, 28, 29, 30] (by decide +kernel) (by decide +kernel)
set_option maxRecDepth 20000 in
theorem gX6_placeOf_X6_pieceLength : GoodIn wsX6_placeOf (wsV RX6 131 RX6 yX6_pieceLength wsX6_pieceLength) := goodIn_app (goodIn_of _ (by decide +kernel)) ggX6_placeOf_X6_pieceLength
theorem dX6_placeOf_0 : decode cX6_placeOf 0 = .ok (.iconst 0, 1) := by decide +kernel
theorem dX6_placeOf_1 : decode cX6_placeOf 1 = .ok (.istore_n 3, 1) := by decide +kernel
theorem dX6_placeOf_2 : decode cX6_placeOf 2 = .ok (.iconst 0, 1) := by decide +kernel
theorem dX6_placeOf_3 : decode cX6_placeOf 3 = .ok (.istore 4, 2) := by decide +kernel
theorem dX6_placeOf_5 : decode cX6_placeOf 5 = .ok (.iload 4, 2) := by decide +kernel
theorem dX6_placeOf_7 : decode cX6_placeOf 7 = .ok (.iload_n 2, 1) := by decide +kernel
theorem dX6_placeOf_8 : decode cX6_placeOf 8 = .ok (.if_icmp .ge 18, 3) := by decide +kernel
theorem dX6_placeOf_11 : decode cX6_placeOf 11 = .ok (.iload_n 3, 1) := by decide +kernel
theorem dX6_placeOf_12 : decode cX6_placeOf 12 = .ok (.aload_n 0, 1) := by decide +kernel
theorem dX6_placeOf_13 : decode cX6_placeOf 13 = .ok (.iload_n 1, 1) := by decide +kernel
theorem dX6_placeOf_14 : decode cX6_placeOf 14 = .ok (.iload_n 3, 1) := by decide +kernel
theorem dX6_placeOf_15 : decode cX6_placeOf 15 = .ok (.invokevirtual 131, 3) := by decide +kernel
theorem dX6_placeOf_18 : decode cX6_placeOf 18 = .ok (.iadd, 1) := by decide +kernel
theorem dX6_placeOf_19 : decode cX6_placeOf 19 = .ok (.istore_n 3, 1) := by decide +kernel
theorem dX6_placeOf_20 : decode cX6_placeOf 20 = .ok (.iinc 4 1, 3) := by decide +kernel
theorem dX6_placeOf_23 : decode cX6_placeOf 23 = .ok (.goto (-18), 3) := by decide +kernel
theorem dX6_placeOf_26 : decode cX6_placeOf 26 = .ok (.iload_n 3, 1) := by decide +kernel
theorem dX6_placeOf_27 : decode cX6_placeOf 27 = .ok (.ireturn, 1) := by decide +kernel
set_option maxRecDepth 20000 in
theorem ggX6_isSlot_X6_in : GoodIn wsX6_isSlot wsX6_in := goodIn_r _ [4] (by decide +kernel) (by decide +kernel)
set_option maxRecDepth 20000 in
theorem gX6_isSlot_X6_in : GoodIn wsX6_isSlot (va_wsS RX6 44 yX6_in wsX6_in) := goodIn_app (goodIn_of _ (by decide +kernel)) ggX6_isSlot_X6_in
theorem dX6_isSlot_0 : decode cX6_isSlot 0 = .ok (.iload_n 1, 1) := by decide +kernel
theorem dX6_isSlot_1 : decode cX6_isSlot 1 = .ok (.iconst 0, 1) := by decide +kernel
theorem dX6_isSlot_2 : decode cX6_isSlot 2 = .ok (.iconst 1, 1) := by decide +kernel
theorem dX6_isSlot_3 : decode cX6_isSlot 3 = .ok (.invokestatic 44, 3) := by decide +kernel
theorem dX6_isSlot_6 : decode cX6_isSlot 6 = .ok (.ireturn, 1) := by decide +kernel
set_option maxRecDepth 20000 in
theorem ggX6_deltaPieces_X6_isSlot : GoodIn wsX6_deltaPieces wsX6_isSlot := goodIn_r _ [5, 6, 7, 4, 8] (by decide +kernel) (by decide +kernel)
set_option maxRecDepth 20000 in
theorem gX6_deltaPieces_X6_isSlot : GoodIn wsX6_deltaPieces (wsV RX6 134 RX6 yX6_isSlot wsX6_isSlot) := goodIn_app (goodIn_of _ (by decide +kernel)) ggX6_deltaPieces_X6_isSlot
set_option maxRecDepth 20000 in
theorem ggX6_deltaPieces_X6_canStart : GoodIn wsX6_deltaPieces wsX6_canStart := goodIn_r _ [12, 13, 6, 7, 4, 8, 14, 15, 16, 17, 18, 19, 20, 21, 45, 46, 47, 48, 49, 50, 51, 52, 53, 54, 55, 56, 57, 58] (by decide +kernel) (by decide +kernel)
set_option maxRecDepth 20000 in
theorem gX6_deltaPieces_X6_canStart : GoodIn wsX6_deltaPieces (wsV RX6 80 RX6 yX6_canStart wsX6_canStart) := goodIn_app (goodIn_of _ (by decide +kernel)) ggX6_deltaPieces_X6_canStart
set_option maxRecDepth 20000 in
theorem ggX6_deltaPieces_X6_goes : GoodIn wsX6_deltaPieces wsX6_goes := goodIn_r _ [25, 26, 45, 46, 47, 48, 49, 50, 51, 52, 53, 54, 55, 56, 57, 58] (by decide +kernel) (by decide +kernel)
set_option maxRecDepth 20000 in
theorem gX6_deltaPieces_X6_goes : GoodIn wsX6_deltaPieces (wsV RX6 96 RX6 yX6_goes wsX6_goes) := goodIn_app (goodIn_of _ (by decide +kernel)) ggX6_deltaPieces_X6_goes
set_option maxRecDepth 20000 in
theorem ggX6_deltaPieces_X6_countPieces : GoodIn wsX6_deltaPieces wsX6_countPieces := goodIn_r _ [30, 31, 32, 33, 34, 4, 35, 36, 37, 38, 39, 13, 40, 41, 42, 43, 44, 45, 46, 47, 48, 49, 50, 51, 52, 53, 54, 55, 56, 57, 58] (by decide +kernel) (by decide +kernel)
set_option maxRecDepth 20000 in
theorem gX6_deltaPieces_X6_countPieces : GoodIn wsX6_deltaPieces (wsV RX6 137 RX6 yX6_countPieces wsX6_countPieces) := goodIn_app (goodIn_of _ (by decide +kernel)) ggX6_deltaPieces_X6_countPieces
theorem dX6_deltaPieces_0 : decode cX6_deltaPieces 0 = .ok (.aload_n 0, 1) := by decide +kernel
theorem dX6_deltaPieces_1 : decode cX6_deltaPieces 1 = .ok (.aload_n 0, 1) := by decide +kernel
theorem dX6_deltaPieces_2 : decode cX6_deltaPieces 2 = .ok (.iload_n 1, 1) := by decide +kernel
theorem dX6_deltaPieces_3 : decode cX6_deltaPieces 3 = .ok (.invokevirtual 134, 3) := by decide +kernel
theorem dX6_deltaPieces_6 : decode cX6_deltaPieces 6 = .ok (.aload_n 0, 1) := by decide +kernel
theorem dX6_deltaPieces_7 : decode cX6_deltaPieces 7 = .ok (.iload_n 1, 1) := by decide +kernel
theorem dX6_deltaPieces_8 : decode cX6_deltaPieces 8 = .ok (.invokevirtual 134, 3) := by decide +kernel
theorem dX6_deltaPieces_11 : decode cX6_deltaPieces 11 = .ok (.ifCond .eq 15, 3) := by decide +kernel
theorem dX6_deltaPieces_14 : decode cX6_deltaPieces 14 = .ok (.aload_n 0, 1) := by decide +kernel
theorem dX6_deltaPieces_15 : decode cX6_deltaPieces 15 = .ok (.iload_n 1, 1) := by decide +kernel
theorem dX6_deltaPieces_16 : decode cX6_deltaPieces 16 = .ok (.invokevirtual 80, 3) := by decide +kernel
theorem dX6_deltaPieces_19 : decode cX6_deltaPieces 19 = .ok (.ifCond .eq 7, 3) := by decide +kernel
theorem dX6_deltaPieces_22 : decode cX6_deltaPieces 22 = .ok (.iconst 1, 1) := by decide +kernel
theorem dX6_deltaPieces_23 : decode cX6_deltaPieces 23 = .ok (.goto 4, 3) := by decide +kernel
theorem dX6_deltaPieces_26 : decode cX6_deltaPieces 26 = .ok (.iconst 0, 1) := by decide +kernel
theorem dX6_deltaPieces_27 : decode cX6_deltaPieces 27 = .ok (.invokevirtual 96, 3) := by decide +kernel
theorem dX6_deltaPieces_30 : decode cX6_deltaPieces 30 = .ok (.ifCond .eq 11, 3) := by decide +kernel
theorem dX6_deltaPieces_33 : decode cX6_deltaPieces 33 = .ok (.aload_n 0, 1) := by decide +kernel
theorem dX6_deltaPieces_34 : decode cX6_deltaPieces 34 = .ok (.iload_n 1, 1) := by decide +kernel
theorem dX6_deltaPieces_35 : decode cX6_deltaPieces 35 = .ok (.invokevirtual 137, 3) := by decide +kernel
theorem dX6_deltaPieces_38 : decode cX6_deltaPieces 38 = .ok (.goto 4, 3) := by decide +kernel
theorem dX6_deltaPieces_41 : decode cX6_deltaPieces 41 = .ok (.iconst 0, 1) := by decide +kernel
theorem dX6_deltaPieces_42 : decode cX6_deltaPieces 42 = .ok (.ireturn, 1) := by decide +kernel
set_option maxRecDepth 20000 in
theorem ggX6_isPiece_X6_isSlot : GoodIn wsX6_isPiece wsX6_isSlot := goodIn_r _ [6, 7, 8, 5, 9] (by decide +kernel) (by decide +kernel)
set_option maxRecDepth 20000 in
theorem gX6_isPiece_X6_isSlot : GoodIn wsX6_isPiece (wsV RX6 134 RX6 yX6_isSlot wsX6_isSlot) := goodIn_app (goodIn_of _ (by decide +kernel)) ggX6_isPiece_X6_isSlot
set_option maxRecDepth 20000 in
theorem ggX6_isPiece_X6_canStart : GoodIn wsX6_isPiece wsX6_canStart := goodIn_r _ [13, 14, 7, 8, 5, 9, 15, 16, 17, 18, 19, 20, 21, 22, 45, 46, 47, 48, 49, 50, 51, 52, 53, 54, 55, 56, 57, 58] (by decide +kernel) (by decide +kernel)
set_option maxRecDepth 20000 in
theorem gX6_isPiece_X6_canStart : GoodIn wsX6_isPiece (wsV RX6 80 RX6 yX6_canStart wsX6_canStart) := goodIn_app (goodIn_of _ (by decide +kernel)) ggX6_isPiece_X6_canStart
set_option maxRecDepth 20000 in
theorem ggX6_isPiece_X6_goes : GoodIn wsX6_isPiece wsX6_goes := goodIn_r _ [26, 1, 45, 46, 47, 48, 49, 50, 51, 52, 53, 54, 55, 56, 57, 58] (by decide +kernel) (by decide +kernel)
set_option maxRecDepth 20000 in
theorem gX6_isPiece_X6_goes : GoodIn wsX6_isPiece (wsV RX6 96 RX6 yX6_goes wsX6_goes) := goodIn_app (goodIn_of _ (by decide +kernel)) ggX6_isPiece_X6_goes
set_option maxRecDepth 20000 in
theorem ggX6_isPiece_X6_countPieces : GoodIn wsX6_isPiece wsX6_countPieces := goodIn_r _ [30, 31, 32, 33, 34, 5, 35, 36, 37, 38, 39, 14, 40, 41, 42, 43, 44, 45, 46, 47, 48, 49, 50, 51, 52, 53, 54, 55, 56, 57, 58] (by decide +kernel) (by decide +kernel)
set_option maxRecDepth 20000 in
theorem gX6_isPiece_X6_countPieces : GoodIn wsX6_isPiece (wsV RX6 137 RX6 yX6_countPieces wsX6_countPieces) := goodIn_app (goodIn_of _ (by decide +kernel)) ggX6_isPiece_X6_countPieces
set_option maxRecDepth 20000 in
theorem ggX6_isPiece_X6_in : GoodIn wsX6_isPiece wsX6_in := goodIn_r _ [9] (by decide +kernel) (by decide +kernel)
set_option maxRecDepth 20000 in
theorem gX6_isPiece_X6_in : GoodIn wsX6_isPiece (va_wsS RX6 44 yX6_in wsX6_in) := goodIn_app (goodIn_of _ (by decide +kernel)) ggX6_isPiece_X6_in
theorem dX6_isPiece_0 : decode cX6_isPiece 0 = .ok (.aload_n 0, 1) := by decide +kernel
theorem dX6_isPiece_1 : decode cX6_isPiece 1 = .ok (.aload_n 0, 1) := by decide +kernel
theorem dX6_isPiece_2 : decode cX6_isPiece 2 = .ok (.iload_n 1, 1) := by decide +kernel
theorem dX6_isPiece_3 : decode cX6_isPiece 3 = .ok (.invokevirtual 134, 3) := by decide +kernel
theorem dX6_isPiece_6 : decode cX6_isPiece 6 = .ok (.aload_n 0, 1) := by decide +kernel
theorem dX6_isPiece_7 : decode cX6_isPiece 7 = .ok (.iload_n 1, 1) := by decide +kernel
theorem dX6_isPiece_8 : decode cX6_isPiece 8 = .ok (.invokevirtual 134, 3) := by decide +kernel
theorem dX6_isPiece_11 : decode cX6_isPiece 11 = .ok (.ifCond .eq 15, 3) := by decide +kernel
theorem dX6_isPiece_14 : decode cX6_isPiece 14 = .ok (.aload_n 0, 1) := by decide +kernel
theorem dX6_isPiece_15 : decode cX6_isPiece 15 = .ok (.iload_n 1, 1) := by decide +kernel
theorem dX6_isPiece_16 : decode cX6_isPiece 16 = .ok (.invokevirtual 80, 3) := by decide +kernel
theorem dX6_isPiece_19 : decode cX6_isPiece 19 = .ok (.ifCond .eq 7, 3) := by decide +kernel
theorem dX6_isPiece_22 : decode cX6_isPiece 22 = .ok (.iconst 1, 1) := by decide +kernel
theorem dX6_isPiece_23 : decode cX6_isPiece 23 = .ok (.goto 4, 3) := by decide +kernel
theorem dX6_isPiece_26 : decode cX6_isPiece 26 = .ok (.iconst 0, 1) := by decide +kernel
theorem dX6_isPiece_27 : decode cX6_isPiece 27 = .ok (.invokevirtual 96, 3) := by decide +kernel
theorem dX6_isPiece_30 : decode cX6_isPiece 30 = .ok (.istore_n 3, 1) := by decide +kernel
theorem dX6_isPiece_31 : decode cX6_isPiece 31 = .ok (.aload_n 0, 1) := by decide +kernel
theorem dX6_isPiece_32 : decode cX6_isPiece 32 = .ok (.iload_n 3, 1) := by decide +kernel
theorem dX6_isPiece_33 : decode cX6_isPiece 33 = .ok (.ifCond .eq 22, 3) := by decide +kernel
theorem dX6_isPiece_36 : decode cX6_isPiece 36 = .ok (.iload_n 2, 1) := by decide +kernel
theorem dX6_isPiece_37 : decode cX6_isPiece 37 = .ok (.iconst 0, 1) := by decide +kernel
theorem dX6_isPiece_38 : decode cX6_isPiece 38 = .ok (.aload_n 0, 1) := by decide +kernel
theorem dX6_isPiece_39 : decode cX6_isPiece 39 = .ok (.iload_n 1, 1) := by decide +kernel
theorem dX6_isPiece_40 : decode cX6_isPiece 40 = .ok (.invokevirtual 137, 3) := by decide +kernel
theorem dX6_isPiece_43 : decode cX6_isPiece 43 = .ok (.iconst 1, 1) := by decide +kernel
theorem dX6_isPiece_44 : decode cX6_isPiece 44 = .ok (.isub, 1) := by decide +kernel
theorem dX6_isPiece_45 : decode cX6_isPiece 45 = .ok (.invokestatic 44, 3) := by decide +kernel
theorem dX6_isPiece_48 : decode cX6_isPiece 48 = .ok (.ifCond .ne 7, 3) := by decide +kernel
theorem dX6_isPiece_51 : decode cX6_isPiece 51 = .ok (.iconst 3, 1) := by decide +kernel
theorem dX6_isPiece_52 : decode cX6_isPiece 52 = .ok (.goto 7, 3) := by decide +kernel
theorem dX6_isPiece_55 : decode cX6_isPiece 55 = .ok (.aload_n 0, 1) := by decide +kernel
theorem dX6_isPiece_56 : decode cX6_isPiece 56 = .ok (.getfield 37, 3) := by decide +kernel
theorem dX6_isPiece_59 : decode cX6_isPiece 59 = .ok (.putfield 37, 3) := by decide +kernel
theorem dX6_isPiece_62 : decode cX6_isPiece 62 = .ok (.aload_n 0, 1) := by decide +kernel
theorem dX6_isPiece_63 : decode cX6_isPiece 63 = .ok (.getfield 37, 3) := by decide +kernel
theorem dX6_isPiece_66 : decode cX6_isPiece 66 = .ok (.ifCond .ne 7, 3) := by decide +kernel
theorem dX6_isPiece_69 : decode cX6_isPiece 69 = .ok (.iconst 1, 1) := by decide +kernel
theorem dX6_isPiece_70 : decode cX6_isPiece 70 = .ok (.goto 4, 3) := by decide +kernel
theorem dX6_isPiece_73 : decode cX6_isPiece 73 = .ok (.iconst 0, 1) := by decide +kernel
theorem dX6_isPiece_74 : decode cX6_isPiece 74 = .ok (.ireturn, 1) := by decide +kernel
set_option maxRecDepth 20000 in
theorem ggX6_deltaLength_X6_isPiece : GoodIn wsX6_deltaLength wsX6_isPiece := goodIn_r _ [5, 6, 7, 8, 9, 4, 10, 11, 12, 13, 14, 15, 16, 17, 18, 19, 20, 21, 22, 23, 24, 25, 26, 27, 28, 29, 30, 31, 32, 33, 34, 35, 36, 37, 38, 39, 40, 41, 42, 43, 44, 45, 46, 47, 48, 53, 54, 55, 56, 57, 58, 59, 60, 61, 62, 63, 64, 65, 66] (by decide +kernel) (by decide +kernel)
set_option maxRecDepth 20000 in
theorem gX6_deltaLength_X6_isPiece : GoodIn wsX6_deltaLength (wsV RX6 140 RX6 yX6_isPiece wsX6_isPiece) := goodIn_app (goodIn_of _ (by decide +kernel)) ggX6_deltaLength_X6_isPiece
set_option maxRecDepth 20000 in
theorem ggX6_deltaLength_X6_placeOf : GoodIn wsX6_deltaLength wsX6_placeOf := goodIn_r _ [52, 36, 37, 38, 4, 39, 40, 41, 42, 43, 18, 44, 45, 46, 47, 35, 48, 53, 54, 55, 56, 57, 58, 59, 60, 61, 62, 63, 64, 65, 66] (by decide +kernel) (by decide +kernel)
set_option maxRecDepth 20000 in
theorem gX6_deltaLength_X6_placeOf : GoodIn wsX6_deltaLength (wsV RX6 143 RX6 yX6_placeOf wsX6_placeOf) := goodIn_app (goodIn_of _ (by decide +kernel)) ggX6_deltaLength_X6_placeOf
set_option maxRecDepth 20000 in
theorem ggX6_deltaLength_X6_pieceLength : GoodIn wsX6_deltaLength wsX6_pieceLength := goodIn_r _ [39, 40, 41, 42, 4, 43, 18, 44, 45, 46, 47, 35, 48, 53, 54, 55, 56, 57, 58, 59, 60, 61, 62, 63, 64, 65, 66] (by decide +kernel) (by decide +kernel)
set_option maxRecDepth 20000 in
theorem gX6_deltaLength_X6_pieceLength : GoodIn wsX6_deltaLength (wsV RX6 131 RX6 yX6_pieceLength wsX6_pieceLength) := goodIn_app (goodIn_of _ (by decide +kernel)) ggX6_deltaLength_X6_pieceLength
theorem dX6_deltaLength_0 : decode cX6_deltaLength 0 = .ok (.aload_n 0, 1) := by decide +kernel
theorem dX6_deltaLength_1 : decode cX6_deltaLength 1 = .ok (.iload_n 1, 1) := by decide +kernel
theorem dX6_deltaLength_2 : decode cX6_deltaLength 2 = .ok (.iload_n 2, 1) := by decide +kernel
theorem dX6_deltaLength_3 : decode cX6_deltaLength 3 = .ok (.invokevirtual 140, 3) := by decide +kernel
theorem dX6_deltaLength_6 : decode cX6_deltaLength 6 = .ok (.ifCond .eq 17, 3) := by decide +kernel
theorem dX6_deltaLength_9 : decode cX6_deltaLength 9 = .ok (.aload_n 0, 1) := by decide +kernel
theorem dX6_deltaLength_10 : decode cX6_deltaLength 10 = .ok (.iload_n 1, 1) := by decide +kernel
theorem dX6_deltaLength_11 : decode cX6_deltaLength 11 = .ok (.aload_n 0, 1) := by decide +kernel
theorem dX6_deltaLength_12 : decode cX6_deltaLength 12 = .ok (.iload_n 1, 1) := by decide +kernel
theorem dX6_deltaLength_13 : decode cX6_deltaLength 13 = .ok (.iload_n 2, 1) := by decide +kernel
theorem dX6_deltaLength_14 : decode cX6_deltaLength 14 = .ok (.invokevirtual 143, 3) := by decide +kernel
theorem dX6_deltaLength_17 : decode cX6_deltaLength 17 = .ok (.invokevirtual 131, 3) := by decide +kernel
theorem dX6_deltaLength_20 : decode cX6_deltaLength 20 = .ok (.goto 4, 3) := by decide +kernel
theorem dX6_deltaLength_23 : decode cX6_deltaLength 23 = .ok (.iconst 0, 1) := by decide +kernel
theorem dX6_deltaLength_24 : decode cX6_deltaLength 24 = .ok (.ireturn, 1) := by decide +kernel
set_option maxRecDepth 20000 in
theorem ggX6_deltaFrom_X6_isPiece : GoodIn wsX6_deltaFrom wsX6_isPiece := goodIn_r _ [5, 6, 7, 8, 9, 4, 10, 11, 12, 13, 14, 15, 16, 17, 18, 19, 20, 21, 22, 23, 24, 25, 26, 27, 28, 29, 30, 31, 32, 33, 34, 35, 36, 37, 38, 39, 40, 41, 42, 43, 44, 45, 46, 47, 48, 53, 54, 55, 56, 57, 58, 59, 60, 61, 62, 63, 64, 65, 66] (by decide +kernel) (by decide +kernel)
set_option maxRecDepth 20000 in
theorem gX6_deltaFrom_X6_isPiece : GoodIn wsX6_deltaFrom (wsV RX6 140 RX6 yX6_isPiece wsX6_isPiece) := goodIn_app (goodIn_of _ (by decide +kernel)) ggX6_deltaFrom_X6_isPiece
set_option maxRecDepth 20000 in
theorem ggX6_deltaFrom_X6_placeOf : GoodIn wsX6_deltaFrom wsX6_placeOf := goodIn_r _ [52, 36, 37, 38, 4, 39, 40, 41, 42, 43, 18, 44, 45, 46, 47, 35, 48, 53, 54, 55, 56, 57, 58, 59, 60, 61, 62, 63, 64, 65, 66] (by decide +kernel) (by decide +kernel)
set_option maxRecDepth 20000 in
theorem gX6_deltaFrom_X6_placeOf : GoodIn wsX6_deltaFrom (wsV RX6 143 RX6 yX6_placeOf wsX6_placeOf) := goodIn_app (goodIn_of _ (by decide +kernel)) ggX6_deltaFrom_X6_placeOf
set_option maxRecDepth 20000 in
theorem ggX6_deltaFrom_X6_pieceLength : GoodIn wsX6_deltaFrom wsX6_pieceLength := goodIn_r _ [39, 40, 41, 42, 4, 43, 18, 44, 45, 46, 47, 35, 48, 53, 54, 55, 56, 57, 58, 59, 60, 61, 62, 63, 64, 65, 66] (by decide +kernel) (by decide +kernel)
set_option maxRecDepth 20000 in
theorem gX6_deltaFrom_X6_pieceLength : GoodIn wsX6_deltaFrom (wsV RX6 131 RX6 yX6_pieceLength wsX6_pieceLength) := goodIn_app (goodIn_of _ (by decide +kernel)) ggX6_deltaFrom_X6_pieceLength
set_option maxRecDepth 20000 in
theorem ggX6_deltaFrom_X6_bestFrom : GoodIn wsX6_deltaFrom wsX6_bestFrom := goodIn_r _ [43, 18, 44, 45, 46, 4, 47, 35, 48, 53, 54, 55, 56, 57, 58, 59, 60, 61, 62, 63, 64, 65, 66] (by decide +kernel) (by decide +kernel)
set_option maxRecDepth 20000 in
theorem gX6_deltaFrom_X6_bestFrom : GoodIn wsX6_deltaFrom (wsV RX6 128 RX6 yX6_bestFrom wsX6_bestFrom) := goodIn_app (goodIn_of _ (by decide +kernel)) ggX6_deltaFrom_X6_bestFrom
theorem dX6_deltaFrom_0 : decode cX6_deltaFrom 0 = .ok (.aload_n 0, 1) := by decide +kernel
theorem dX6_deltaFrom_1 : decode cX6_deltaFrom 1 = .ok (.iload_n 1, 1) := by decide +kernel
theorem dX6_deltaFrom_2 : decode cX6_deltaFrom 2 = .ok (.iload_n 2, 1) := by decide +kernel
theorem dX6_deltaFrom_3 : decode cX6_deltaFrom 3 = .ok (.invokevirtual 140, 3) := by decide +kernel
theorem dX6_deltaFrom_6 : decode cX6_deltaFrom 6 = .ok (.ifCond .ne 5, 3) := by decide +kernel
theorem dX6_deltaFrom_9 : decode cX6_deltaFrom 9 = .ok (.iconst 0, 1) := by decide +kernel
theorem dX6_deltaFrom_10 : decode cX6_deltaFrom 10 = .ok (.ireturn, 1) := by decide +kernel
theorem dX6_deltaFrom_11 : decode cX6_deltaFrom 11 = .ok (.aload_n 0, 1) := by decide +kernel
theorem dX6_deltaFrom_12 : decode cX6_deltaFrom 12 = .ok (.iload_n 1, 1) := by decide +kernel
theorem dX6_deltaFrom_13 : decode cX6_deltaFrom 13 = .ok (.iload_n 2, 1) := by decide +kernel
theorem dX6_deltaFrom_14 : decode cX6_deltaFrom 14 = .ok (.invokevirtual 143, 3) := by decide +kernel
theorem dX6_deltaFrom_17 : decode cX6_deltaFrom 17 = .ok (.istore_n 3, 1) := by decide +kernel
theorem dX6_deltaFrom_18 : decode cX6_deltaFrom 18 = .ok (.aload_n 0, 1) := by decide +kernel
theorem dX6_deltaFrom_19 : decode cX6_deltaFrom 19 = .ok (.iload_n 1, 1) := by decide +kernel
theorem dX6_deltaFrom_20 : decode cX6_deltaFrom 20 = .ok (.iload_n 3, 1) := by decide +kernel
theorem dX6_deltaFrom_21 : decode cX6_deltaFrom 21 = .ok (.invokevirtual 131, 3) := by decide +kernel
theorem dX6_deltaFrom_24 : decode cX6_deltaFrom 24 = .ok (.iconst 1, 1) := by decide +kernel
theorem dX6_deltaFrom_25 : decode cX6_deltaFrom 25 = .ok (.if_icmp .le 12, 3) := by decide +kernel
theorem dX6_deltaFrom_28 : decode cX6_deltaFrom 28 = .ok (.aload_n 0, 1) := by decide +kernel
theorem dX6_deltaFrom_29 : decode cX6_deltaFrom 29 = .ok (.iload_n 1, 1) := by decide +kernel
theorem dX6_deltaFrom_30 : decode cX6_deltaFrom 30 = .ok (.iload_n 3, 1) := by decide +kernel
theorem dX6_deltaFrom_31 : decode cX6_deltaFrom 31 = .ok (.invokevirtual 128, 3) := by decide +kernel
theorem dX6_deltaFrom_34 : decode cX6_deltaFrom 34 = .ok (.goto 4, 3) := by decide +kernel
theorem dX6_deltaFrom_37 : decode cX6_deltaFrom 37 = .ok (.iconst (-1), 1) := by decide +kernel
theorem dX6_deltaFrom_38 : decode cX6_deltaFrom 38 = .ok (.ireturn, 1) := by decide +kernel
set_option maxRecDepth 20000 in
theorem ggX6_isStartable_X6_isSlot : GoodIn wsX6_isStartable wsX6_isSlot := goodIn_r _ [5, 6, 7, 4, 8] (by decide +kernel) (by decide +kernel)
set_option maxRecDepth 20000 in
theorem gX6_isStartable_X6_isSlot : GoodIn wsX6_isStartable (wsV RX6 134 RX6 yX6_isSlot wsX6_isSlot) := goodIn_app (goodIn_of _ (by decide +kernel)) ggX6_isStartable_X6_isSlot
set_option maxRecDepth 20000 in
theorem ggX6_isStartable_X6_goes : GoodIn wsX6_isStartable wsX6_goes := goodIn_r _ [12, 13, 27, 28, 29, 30, 31, 32, 33, 34, 35, 36, 37, 38, 39, 40] (by decide +kernel) (by decide +kernel)
set_option maxRecDepth 20000 in
theorem gX6_isStartable_X6_goes : GoodIn wsX6_isStartable (wsV RX6 96 RX6 yX6_goes wsX6_goes) := goodIn_app (goodIn_of _ (by decide +kernel)) ggX6_isStartable_X6_goes
set_option maxRecDepth 20000 in
theorem ggX6_isStartable_X6_canStart : GoodIn wsX6_isStartable wsX6_canStart := goodIn_r _ [17, 18, 6, 7, 4, 8, 19, 20, 21, 22, 23, 24, 25, 26, 27, 28, 29, 30, 31, 32, 33, 34, 35, 36, 37, 38, 39, 40] (by decide +kernel) (by decide +kernel)
set_option maxRecDepth 20000 in
theorem gX6_isStartable_X6_canStart : GoodIn wsX6_isStartable (wsV RX6 80 RX6 yX6_canStart wsX6_canStart) := goodIn_app (goodIn_of _ (by decide +kernel)) ggX6_isStartable_X6_canStart
theorem dX6_isStartable_0 : decode cX6_isStartable 0 = .ok (.aload_n 0, 1) := by decide +kernel
theorem dX6_isStartable_1 : decode cX6_isStartable 1 = .ok (.aload_n 0, 1) := by decide +kernel
theorem dX6_isStartable_2 : decode cX6_isStartable 2 = .ok (.iload_n 1, 1) := by decide +kernel
theorem dX6_isStartable_3 : decode cX6_isStartable 3 = .ok (.invokevirtual 134, 3) := by decide +kernel
theorem dX6_isStartable_6 : decode cX6_isStartable 6 = .ok (.iconst 1, 1) := by decide +kernel
theorem dX6_isStartable_7 : decode cX6_isStartable 7 = .ok (.invokevirtual 96, 3) := by decide +kernel
theorem dX6_isStartable_10 : decode cX6_isStartable 10 = .ok (.ifCond .eq 15, 3) := by decide +kernel
theorem dX6_isStartable_13 : decode cX6_isStartable 13 = .ok (.aload_n 0, 1) := by decide +kernel
theorem dX6_isStartable_14 : decode cX6_isStartable 14 = .ok (.iload_n 1, 1) := by decide +kernel
theorem dX6_isStartable_15 : decode cX6_isStartable 15 = .ok (.invokevirtual 80, 3) := by decide +kernel
theorem dX6_isStartable_18 : decode cX6_isStartable 18 = .ok (.ifCond .eq 7, 3) := by decide +kernel
theorem dX6_isStartable_21 : decode cX6_isStartable 21 = .ok (.iconst 1, 1) := by decide +kernel
theorem dX6_isStartable_22 : decode cX6_isStartable 22 = .ok (.goto 4, 3) := by decide +kernel
theorem dX6_isStartable_25 : decode cX6_isStartable 25 = .ok (.iconst 0, 1) := by decide +kernel
theorem dX6_isStartable_26 : decode cX6_isStartable 26 = .ok (.ireturn, 1) := by decide +kernel
set_option maxRecDepth 20000 in
theorem ggX6_version_X6_isSlot : GoodIn wsX6_version wsX6_isSlot := goodIn_r _ [6, 7, 8, 5, 9] (by decide +kernel) (by decide +kernel)
set_option maxRecDepth 20000 in
theorem gX6_version_X6_isSlot : GoodIn wsX6_version (wsV RX6 134 RX6 yX6_isSlot wsX6_isSlot) := goodIn_app (goodIn_of _ (by decide +kernel)) ggX6_version_X6_isSlot
set_option maxRecDepth 20000 in
theorem ggX6_version_X6_goes : GoodIn wsX6_version wsX6_goes := goodIn_r _ [13, 14, 15, 16, 17, 18, 19, 20, 21, 22, 23, 24, 25, 26, 27, 28] (by decide +kernel) (by decide +kernel)
set_option maxRecDepth 20000 in
theorem gX6_version_X6_goes : GoodIn wsX6_version (wsV RX6 96 RX6 yX6_goes wsX6_goes) := goodIn_app (goodIn_of _ (by decide +kernel)) ggX6_version_X6_goes
theorem dX6_version_0 : decode cX6_version 0 = .ok (.aload_n 0, 1) := by decide +kernel
theorem dX6_version_1 : decode cX6_version 1 = .ok (.aload_n 0, 1) := by decide +kernel
theorem dX6_version_2 : decode cX6_version 2 = .ok (.iload_n 1, 1) := by decide +kernel
theorem dX6_version_3 : decode cX6_version 3 = .ok (.invokevirtual 134, 3) := by decide +kernel
theorem dX6_version_6 : decode cX6_version 6 = .ok (.iconst 1, 1) := by decide +kernel
theorem dX6_version_7 : decode cX6_version 7 = .ok (.invokevirtual 96, 3) := by decide +kernel
theorem dX6_version_10 : decode cX6_version 10 = .ok (.ifCond .eq 17, 3) := by decide +kernel
theorem dX6_version_13 : decode cX6_version 13 = .ok (.aload_n 0, 1) := by decide +kernel
theorem dX6_version_14 : decode cX6_version 14 = .ok (.getfield 7, 3) := by decide +kernel
theorem dX6_version_17 : decode cX6_version 17 = .ok (.bipush 29, 2) := by decide +kernel
theorem dX6_version_19 : decode cX6_version 19 = .ok (.iload_n 1, 1) := by decide +kernel
theorem dX6_version_20 : decode cX6_version 20 = .ok (.imul, 1) := by decide +kernel
theorem dX6_version_21 : decode cX6_version 21 = .ok (.iconst 1, 1) := by decide +kernel
theorem dX6_version_22 : decode cX6_version 22 = .ok (.iadd, 1) := by decide +kernel
theorem dX6_version_23 : decode cX6_version 23 = .ok (.iaload, 1) := by decide +kernel
theorem dX6_version_24 : decode cX6_version 24 = .ok (.goto 4, 3) := by decide +kernel
theorem dX6_version_27 : decode cX6_version 27 = .ok (.iconst 0, 1) := by decide +kernel
theorem dX6_version_28 : decode cX6_version 28 = .ok (.ireturn, 1) := by decide +kernel
set_option maxRecDepth 20000 in
theorem ggX6_imageByte_X6_isSlot : GoodIn wsX6_imageByte wsX6_isSlot := goodIn_r _ [6, 7, 8, 5, 9] (by decide +kernel) (by decide +kernel)
set_option maxRecDepth 20000 in
theorem gX6_imageByte_X6_isSlot : GoodIn wsX6_imageByte (wsV RX6 134 RX6 yX6_isSlot wsX6_isSlot) := goodIn_app (goodIn_of _ (by decide +kernel)) ggX6_imageByte_X6_isSlot
set_option maxRecDepth 20000 in
theorem ggX6_imageByte_X6_in : GoodIn wsX6_imageByte wsX6_in := goodIn_r _ [9] (by decide +kernel) (by decide +kernel)
set_option maxRecDepth 20000 in
theorem gX6_imageByte_X6_in : GoodIn wsX6_imageByte (va_wsS RX6 44 yX6_in wsX6_in) := goodIn_app (goodIn_of _ (by decide +kernel)) ggX6_imageByte_X6_in
set_option maxRecDepth 20000 in
theorem ggX6_imageByte_X6_goes : GoodIn wsX6_imageByte wsX6_goes := goodIn_r _ [13, 14, 15, 16, 17, 18, 19, 20, 21, 22, 23, 24, 25, 26, 27, 28] (by decide +kernel) (by decide +kernel)
set_option maxRecDepth 20000 in
theorem gX6_imageByte_X6_goes : GoodIn wsX6_imageByte (wsV RX6 96 RX6 yX6_goes wsX6_goes) := goodIn_app (goodIn_of _ (by decide +kernel)) ggX6_imageByte_X6_goes
theorem dX6_imageByte_0 : decode cX6_imageByte 0 = .ok (.aload_n 0, 1) := by decide +kernel
theorem dX6_imageByte_1 : decode cX6_imageByte 1 = .ok (.aload_n 0, 1) := by decide +kernel
theorem dX6_imageByte_2 : decode cX6_imageByte 2 = .ok (.iload_n 1, 1) := by decide +kernel
theorem dX6_imageByte_3 : decode cX6_imageByte 3 = .ok (.invokevirtual 134, 3) := by decide +kernel
theorem dX6_imageByte_6 : decode cX6_imageByte 6 = .ok (.iload_n 2, 1) := by decide +kernel
theorem dX6_imageByte_7 : decode cX6_imageByte 7 = .ok (.iconst 0, 1) := by decide +kernel
theorem dX6_imageByte_8 : decode cX6_imageByte 8 = .ok (.bipush 23, 2) := by decide +kernel
theorem dX6_imageByte_10 : decode cX6_imageByte 10 = .ok (.invokestatic 44, 3) := by decide +kernel
theorem dX6_imageByte_13 : decode cX6_imageByte 13 = .ok (.invokevirtual 96, 3) := by decide +kernel
theorem dX6_imageByte_16 : decode cX6_imageByte 16 = .ok (.ifCond .eq 19, 3) := by decide +kernel
theorem dX6_imageByte_19 : decode cX6_imageByte 19 = .ok (.aload_n 0, 1) := by decide +kernel
theorem dX6_imageByte_20 : decode cX6_imageByte 20 = .ok (.getfield 7, 3) := by decide +kernel
theorem dX6_imageByte_23 : decode cX6_imageByte 23 = .ok (.bipush 29, 2) := by decide +kernel
theorem dX6_imageByte_25 : decode cX6_imageByte 25 = .ok (.iload_n 1, 1) := by decide +kernel
theorem dX6_imageByte_26 : decode cX6_imageByte 26 = .ok (.imul, 1) := by decide +kernel
theorem dX6_imageByte_27 : decode cX6_imageByte 27 = .ok (.iconst 5, 1) := by decide +kernel
theorem dX6_imageByte_28 : decode cX6_imageByte 28 = .ok (.iadd, 1) := by decide +kernel
theorem dX6_imageByte_29 : decode cX6_imageByte 29 = .ok (.iload_n 2, 1) := by decide +kernel
theorem dX6_imageByte_30 : decode cX6_imageByte 30 = .ok (.iadd, 1) := by decide +kernel
theorem dX6_imageByte_31 : decode cX6_imageByte 31 = .ok (.iaload, 1) := by decide +kernel
theorem dX6_imageByte_32 : decode cX6_imageByte 32 = .ok (.goto 4, 3) := by decide +kernel
theorem dX6_imageByte_35 : decode cX6_imageByte 35 = .ok (.iconst 0, 1) := by decide +kernel
theorem dX6_imageByte_36 : decode cX6_imageByte 36 = .ok (.ireturn, 1) := by decide +kernel
set_option maxRecDepth 20000 in
theorem ggX6_record_X6_force : GoodIn wsX6_record wsX6_force := goodIn_r _ [6, 7, 8, 9, 10, 5, 11, 12, 13, 14, 15, 16, 17, 18, 19, 20, 21, 22, 23, 24, 25, 26, 27, 28, 29] (by decide +kernel) (by decide +kernel)
set_option maxRecDepth 20000 in
theorem gX6_record_X6_force : GoodIn wsX6_record (wsV RX6 52 RX6 yX6_force wsX6_force) := goodIn_app (goodIn_of _ (by decide +kernel)) ggX6_record_X6_force
theorem dX6_record_0 : decode cX6_record 0 = .ok (.aload_n 0, 1) := by decide +kernel
theorem dX6_record_1 : decode cX6_record 1 = .ok (.iconst 0, 1) := by decide +kernel
theorem dX6_record_2 : decode cX6_record 2 = .ok (.putfield 37, 3) := by decide +kernel
theorem dX6_record_5 : decode cX6_record 5 = .ok (.aload_n 0, 1) := by decide +kernel
theorem dX6_record_6 : decode cX6_record 6 = .ok (.invokevirtual 52, 3) := by decide +kernel
theorem dX6_record_9 : decode cX6_record 9 = .ok (.ireturn, 1) := by decide +kernel
set_option maxRecDepth 20000 in
theorem ggX6_isValid_X6_in : GoodIn wsX6_isValid wsX6_in := goodIn_r _ [4] (by decide +kernel) (by decide +kernel)
set_option maxRecDepth 20000 in
theorem gX6_isValid_X6_in : GoodIn wsX6_isValid (va_wsS RX6 44 yX6_in wsX6_in) := goodIn_app (goodIn_of _ (by decide +kernel)) ggX6_isValid_X6_in
set_option maxRecDepth 20000 in
theorem ggX6_isValid_X6_goes : GoodIn wsX6_isValid wsX6_goes := goodIn_r _ [8, 9, 19, 20, 21, 22, 23, 24, 25, 26, 27, 28, 29, 30, 31, 32] (by decide +kernel) (by decide +kernel)
set_option maxRecDepth 20000 in
theorem gX6_isValid_X6_goes : GoodIn wsX6_isValid (wsV RX6 96 RX6 yX6_goes wsX6_goes) := goodIn_app (goodIn_of _ (by decide +kernel)) ggX6_isValid_X6_goes
set_option maxRecDepth 20000 in
theorem ggX6_isValid_X6_holds : GoodIn wsX6_isValid wsX6_holds := goodIn_r _ [13, 14, 15, 16, 17, 3, 18, 19, 20, 21, 22, 23, 24, 25, 26, 27, 28, 29, 30, 31, 32] (by decide +kernel) (by decide +kernel)
set_option maxRecDepth 20000 in
theorem gX6_isValid_X6_holds : GoodIn wsX6_isValid (wsV RX6 48 RX6 yX6_holds wsX6_holds) := goodIn_app (goodIn_of _ (by decide +kernel)) ggX6_isValid_X6_holds
theorem dX6_isValid_0 : decode cX6_isValid 0 = .ok (.aload_n 0, 1) := by decide +kernel
theorem dX6_isValid_1 : decode cX6_isValid 1 = .ok (.iload_n 1, 1) := by decide +kernel
theorem dX6_isValid_2 : decode cX6_isValid 2 = .ok (.iconst 0, 1) := by decide +kernel
theorem dX6_isValid_3 : decode cX6_isValid 3 = .ok (.iconst 1, 1) := by decide +kernel
theorem dX6_isValid_4 : decode cX6_isValid 4 = .ok (.invokestatic 44, 3) := by decide +kernel
theorem dX6_isValid_7 : decode cX6_isValid 7 = .ok (.iconst 1, 1) := by decide +kernel
theorem dX6_isValid_8 : decode cX6_isValid 8 = .ok (.invokevirtual 96, 3) := by decide +kernel
theorem dX6_isValid_11 : decode cX6_isValid 11 = .ok (.ifCond .eq 15, 3) := by decide +kernel
theorem dX6_isValid_14 : decode cX6_isValid 14 = .ok (.aload_n 0, 1) := by decide +kernel
theorem dX6_isValid_15 : decode cX6_isValid 15 = .ok (.iload_n 1, 1) := by decide +kernel
theorem dX6_isValid_16 : decode cX6_isValid 16 = .ok (.invokevirtual 48, 3) := by decide +kernel
theorem dX6_isValid_19 : decode cX6_isValid 19 = .ok (.ifCond .eq 7, 3) := by decide +kernel
theorem dX6_isValid_22 : decode cX6_isValid 22 = .ok (.iconst 1, 1) := by decide +kernel
theorem dX6_isValid_23 : decode cX6_isValid 23 = .ok (.goto 4, 3) := by decide +kernel
theorem dX6_isValid_26 : decode cX6_isValid 26 = .ok (.iconst 0, 1) := by decide +kernel
theorem dX6_isValid_27 : decode cX6_isValid 27 = .ok (.ireturn, 1) := by decide +kernel
set_option maxRecDepth 20000 in
theorem ggX6_confirmed_X6_confirmedSlot : GoodIn wsX6_confirmed wsX6_confirmedSlot := goodIn_r _ [6, 7, 8, 9, 5, 10, 11, 12, 13, 14, 15, 16, 17, 18, 19, 20, 21, 22, 23, 24, 25, 26, 27, 28, 29, 30, 31, 32, 33, 34, 35, 36, 37] (by decide +kernel) (by decide +kernel)
set_option maxRecDepth 20000 in
theorem gX6_confirmed_X6_confirmedSlot : GoodIn wsX6_confirmed (wsV RX6 83 RX6 yX6_confirmedSlot wsX6_confirmedSlot) := goodIn_app (goodIn_of _ (by decide +kernel)) ggX6_confirmed_X6_confirmedSlot
theorem dX6_confirmed_0 : decode cX6_confirmed 0 = .ok (.aload_n 0, 1) := by decide +kernel
theorem dX6_confirmed_1 : decode cX6_confirmed 1 = .ok (.iconst 0, 1) := by decide +kernel
theorem dX6_confirmed_2 : decode cX6_confirmed 2 = .ok (.putfield 37, 3) := by decide +kernel
theorem dX6_confirmed_5 : decode cX6_confirmed 5 = .ok (.aload_n 0, 1) := by decide +kernel
theorem dX6_confirmed_6 : decode cX6_confirmed 6 = .ok (.invokevirtual 83, 3) := by decide +kernel
theorem dX6_confirmed_9 : decode cX6_confirmed 9 = .ok (.ireturn, 1) := by decide +kernel
set_option maxRecDepth 20000 in
theorem ggX6_tries_X6_triesLeft : GoodIn wsX6_tries wsX6_triesLeft := goodIn_r _ [6, 7, 8, 9, 5, 10, 11, 12, 13, 14, 15, 16, 17, 18, 19, 20, 21, 22, 23, 24, 25, 26, 27, 28, 29, 30, 31, 32, 33, 34, 35, 36, 37, 38, 39, 40, 41] (by decide +kernel) (by decide +kernel)
set_option maxRecDepth 20000 in
theorem gX6_tries_X6_triesLeft : GoodIn wsX6_tries (wsV RX6 77 RX6 yX6_triesLeft wsX6_triesLeft) := goodIn_app (goodIn_of _ (by decide +kernel)) ggX6_tries_X6_triesLeft
theorem dX6_tries_0 : decode cX6_tries 0 = .ok (.aload_n 0, 1) := by decide +kernel
theorem dX6_tries_1 : decode cX6_tries 1 = .ok (.iconst 0, 1) := by decide +kernel
theorem dX6_tries_2 : decode cX6_tries 2 = .ok (.putfield 37, 3) := by decide +kernel
theorem dX6_tries_5 : decode cX6_tries 5 = .ok (.aload_n 0, 1) := by decide +kernel
theorem dX6_tries_6 : decode cX6_tries 6 = .ok (.invokevirtual 77, 3) := by decide +kernel
theorem dX6_tries_9 : decode cX6_tries 9 = .ok (.ireturn, 1) := by decide +kernel
set_option maxRecDepth 20000 in
theorem ggX6_counter_X6_inForce : GoodIn wsX6_counter wsX6_inForce := goodIn_r _ [6, 7, 8, 9, 10, 5, 11, 12, 13, 14, 15, 16, 17, 18, 19, 20, 21, 22, 23, 24, 25, 26, 27, 28, 29, 30, 31, 32, 33] (by decide +kernel) (by decide +kernel)
set_option maxRecDepth 20000 in
theorem gX6_counter_X6_inForce : GoodIn wsX6_counter (wsV RX6 56 RX6 yX6_inForce wsX6_inForce) := goodIn_app (goodIn_of _ (by decide +kernel)) ggX6_counter_X6_inForce
theorem dX6_counter_0 : decode cX6_counter 0 = .ok (.aload_n 0, 1) := by decide +kernel
theorem dX6_counter_1 : decode cX6_counter 1 = .ok (.iconst 0, 1) := by decide +kernel
theorem dX6_counter_2 : decode cX6_counter 2 = .ok (.putfield 37, 3) := by decide +kernel
theorem dX6_counter_5 : decode cX6_counter 5 = .ok (.aload_n 0, 1) := by decide +kernel
theorem dX6_counter_6 : decode cX6_counter 6 = .ok (.iconst 3, 1) := by decide +kernel
theorem dX6_counter_7 : decode cX6_counter 7 = .ok (.invokevirtual 56, 3) := by decide +kernel
theorem dX6_counter_10 : decode cX6_counter 10 = .ok (.ireturn, 1) := by decide +kernel
set_option maxRecDepth 20000 in
theorem ggX6_nextStart_X6_confirmedSlot : GoodIn wsX6_nextStart wsX6_confirmedSlot := goodIn_r _ [5, 6, 7, 8, 4, 9, 10, 11, 12, 13, 14, 15, 16, 17, 18, 19, 20, 21, 22, 50, 51, 52, 53, 54, 55, 56, 57, 58, 59, 60, 61, 62, 63] (by decide +kernel) (by decide +kernel)
set_option maxRecDepth 20000 in
theorem gX6_nextStart_X6_confirmedSlot : GoodIn wsX6_nextStart (wsV RX6 83 RX6 yX6_confirmedSlot wsX6_confirmedSlot) := goodIn_app (goodIn_of _ (by decide +kernel)) ggX6_nextStart_X6_confirmedSlot
set_option maxRecDepth 20000 in
theorem ggX6_nextStart_X6_willTry : GoodIn wsX6_nextStart wsX6_willTry := goodIn_r _ [26, 10, 27, 28, 29, 4, 30, 6, 7, 8, 9, 11, 12, 13, 14, 15, 16, 17, 18, 19, 20, 21, 22, 31, 32, 33, 34, 35, 36, 37, 38, 39, 40, 41, 42, 43, 44, 45, 46, 47, 48, 49, 50, 51, 52, 53, 54, 55, 56, 57, 58, 59, 60, 61, 62, 63] (by decide +kernel) (by decide +kernel)
set_option maxRecDepth 20000 in
theorem gX6_nextStart_X6_willTry : GoodIn wsX6_nextStart (wsV RX6 86 RX6 yX6_willTry wsX6_willTry) := goodIn_app (goodIn_of _ (by decide +kernel)) ggX6_nextStart_X6_willTry
theorem dX6_nextStart_0 : decode cX6_nextStart 0 = .ok (.aload_n 0, 1) := by decide +kernel
theorem dX6_nextStart_1 : decode cX6_nextStart 1 = .ok (.invokevirtual 83, 3) := by decide +kernel
theorem dX6_nextStart_4 : decode cX6_nextStart 4 = .ok (.istore_n 1, 1) := by decide +kernel
theorem dX6_nextStart_5 : decode cX6_nextStart 5 = .ok (.aload_n 0, 1) := by decide +kernel
theorem dX6_nextStart_6 : decode cX6_nextStart 6 = .ok (.iload_n 1, 1) := by decide +kernel
theorem dX6_nextStart_7 : decode cX6_nextStart 7 = .ok (.invokevirtual 86, 3) := by decide +kernel
theorem dX6_nextStart_10 : decode cX6_nextStart 10 = .ok (.ifCond .eq 9, 3) := by decide +kernel
theorem dX6_nextStart_13 : decode cX6_nextStart 13 = .ok (.iconst 1, 1) := by decide +kernel
theorem dX6_nextStart_14 : decode cX6_nextStart 14 = .ok (.iload_n 1, 1) := by decide +kernel
theorem dX6_nextStart_15 : decode cX6_nextStart 15 = .ok (.isub, 1) := by decide +kernel
theorem dX6_nextStart_16 : decode cX6_nextStart 16 = .ok (.goto 4, 3) := by decide +kernel
theorem dX6_nextStart_19 : decode cX6_nextStart 19 = .ok (.iload_n 1, 1) := by decide +kernel
theorem dX6_nextStart_20 : decode cX6_nextStart 20 = .ok (.ireturn, 1) := by decide +kernel
set_option maxRecDepth 20000 in
theorem ggX6_safeFinish_X6_in : GoodIn wsX6_safeFinish wsX6_in := goodIn_r _ [11] (by decide +kernel) (by decide +kernel)
set_option maxRecDepth 20000 in
theorem gX6_safeFinish_X6_in : GoodIn wsX6_safeFinish (va_wsS RX6 44 yX6_in wsX6_in) := goodIn_app (goodIn_of _ (by decide +kernel)) ggX6_safeFinish_X6_in
set_option maxRecDepth 20000 in
theorem ggX6_safeFinish_X6_canFinish : GoodIn wsX6_safeFinish wsX6_canFinish := goodIn_r _ [15, 6, 16, 3, 17, 18, 19, 20, 10, 21, 2, 22, 23, 24, 25, 89, 90, 91, 92, 93, 94, 95, 96, 97, 98, 99, 100, 101, 102] (by decide +kernel) (by decide +kernel)
set_option maxRecDepth 20000 in
theorem gX6_safeFinish_X6_canFinish : GoodIn wsX6_safeFinish (wsV RX6 115 RX6 yX6_canFinish wsX6_canFinish) := goodIn_app (goodIn_of _ (by decide +kernel)) ggX6_safeFinish_X6_canFinish
set_option maxRecDepth 20000 in
theorem ggX6_safeFinish_X6_goes : GoodIn wsX6_safeFinish wsX6_goes := goodIn_r _ [29, 30, 89, 90, 91, 92, 93, 94, 95, 96, 97, 98, 99, 100, 101, 102] (by decide +kernel) (by decide +kernel)
set_option maxRecDepth 20000 in
theorem gX6_safeFinish_X6_goes : GoodIn wsX6_safeFinish (wsV RX6 96 RX6 yX6_goes wsX6_goes) := goodIn_app (goodIn_of _ (by decide +kernel)) ggX6_safeFinish_X6_goes
set_option maxRecDepth 20000 in
theorem ggX6_safeFinish_X6_finishes : GoodIn wsX6_safeFinish wsX6_finishes := goodIn_r _ [34, 3, 35, 16, 17, 36, 37, 38, 39, 10, 40, 5, 4, 2, 41, 42, 43, 44, 7, 6, 45, 46, 47, 48, 49, 50, 51, 52, 53, 54, 55, 56, 57, 58, 59, 60, 61, 62, 63, 64, 65, 66, 67, 68, 89, 90, 91, 92, 93, 94, 95, 96, 97, 98, 99, 100, 101, 102] (by decide +kernel) (by decide +kernel)
set_option maxRecDepth 20000 in
theorem gX6_safeFinish_X6_finishes : GoodIn wsX6_safeFinish (wsV RX6 118 RX6 yX6_finishes wsX6_finishes) := goodIn_app (goodIn_of _ (by decide +kernel)) ggX6_safeFinish_X6_finishes
set_option maxRecDepth 20000 in
theorem ggX6_safeFinish_X6_nextStart : GoodIn wsX6_safeFinish wsX6_nextStart := goodIn_r _ [72, 45, 46, 47, 10, 48, 49, 50, 51, 52, 2, 53, 54, 55, 56, 57, 58, 59, 60, 61, 62, 63, 64, 73, 74, 75, 76, 77, 78, 79, 80, 81, 82, 83, 84, 85, 86, 87, 88, 8, 9, 11, 18, 19, 20, 21, 22, 23, 24, 25, 89, 90, 91, 92, 93, 94, 95, 96, 97, 98, 99, 100, 101, 102] (by decide +kernel) (by decide +kernel)
set_option maxRecDepth 20000 in
theorem gX6_safeFinish_X6_nextStart : GoodIn wsX6_safeFinish (wsV RX6 146 RX6 yX6_nextStart wsX6_nextStart) := goodIn_app (goodIn_of _ (by decide +kernel)) ggX6_safeFinish_X6_nextStart
set_option maxRecDepth 20000 in
theorem ggX6_safeFinish_X6_canStart : GoodIn wsX6_safeFinish wsX6_canStart := goodIn_r _ [88, 2, 8, 9, 10, 11, 18, 19, 20, 21, 22, 23, 24, 25, 89, 90, 91, 92, 93, 94, 95, 96, 97, 98, 99, 100, 101, 102] (by decide +kernel) (by decide +kernel)
set_option maxRecDepth 20000 in
theorem gX6_safeFinish_X6_canStart : GoodIn wsX6_safeFinish (wsV RX6 80 RX6 yX6_canStart wsX6_canStart) := goodIn_app (goodIn_of _ (by decide +kernel)) ggX6_safeFinish_X6_canStart
theorem dX6_safeFinish_0 : decode cX6_safeFinish 0 = .ok (.aload_n 0, 1) := by decide +kernel
theorem dX6_safeFinish_1 : decode cX6_safeFinish 1 = .ok (.iload_n 1, 1) := by decide +kernel
theorem dX6_safeFinish_2 : decode cX6_safeFinish 2 = .ok (.iconst 1, 1) := by decide +kernel
theorem dX6_safeFinish_3 : decode cX6_safeFinish 3 = .ok (.iconst 3, 1) := by decide +kernel
theorem dX6_safeFinish_4 : decode cX6_safeFinish 4 = .ok (.invokestatic 44, 3) := by decide +kernel
theorem dX6_safeFinish_7 : decode cX6_safeFinish 7 = .ok (.aload_n 0, 1) := by decide +kernel
theorem dX6_safeFinish_8 : decode cX6_safeFinish 8 = .ok (.invokevirtual 115, 3) := by decide +kernel
theorem dX6_safeFinish_11 : decode cX6_safeFinish 11 = .ok (.invokevirtual 96, 3) := by decide +kernel
theorem dX6_safeFinish_14 : decode cX6_safeFinish 14 = .ok (.ifCond .ne 5, 3) := by decide +kernel
theorem dX6_safeFinish_17 : decode cX6_safeFinish 17 = .ok (.iconst 0, 1) := by decide +kernel
theorem dX6_safeFinish_18 : decode cX6_safeFinish 18 = .ok (.ireturn, 1) := by decide +kernel
theorem dX6_safeFinish_19 : decode cX6_safeFinish 19 = .ok (.iconst 0, 1) := by decide +kernel
theorem dX6_safeFinish_20 : decode cX6_safeFinish 20 = .ok (.istore_n 2, 1) := by decide +kernel
theorem dX6_safeFinish_21 : decode cX6_safeFinish 21 = .ok (.iload_n 2, 1) := by decide +kernel
theorem dX6_safeFinish_22 : decode cX6_safeFinish 22 = .ok (.bipush 66, 2) := by decide +kernel
theorem dX6_safeFinish_24 : decode cX6_safeFinish 24 = .ok (.if_icmp .ge 21, 3) := by decide +kernel
theorem dX6_safeFinish_27 : decode cX6_safeFinish 27 = .ok (.aload_n 0, 1) := by decide +kernel
theorem dX6_safeFinish_28 : decode cX6_safeFinish 28 = .ok (.getfield 13, 3) := by decide +kernel
theorem dX6_safeFinish_31 : decode cX6_safeFinish 31 = .ok (.iload_n 2, 1) := by decide +kernel
theorem dX6_safeFinish_32 : decode cX6_safeFinish 32 = .ok (.aload_n 0, 1) := by decide +kernel
theorem dX6_safeFinish_33 : decode cX6_safeFinish 33 = .ok (.getfield 7, 3) := by decide +kernel
theorem dX6_safeFinish_36 : decode cX6_safeFinish 36 = .ok (.iload_n 2, 1) := by decide +kernel
theorem dX6_safeFinish_37 : decode cX6_safeFinish 37 = .ok (.iaload, 1) := by decide +kernel
theorem dX6_safeFinish_38 : decode cX6_safeFinish 38 = .ok (.iastore, 1) := by decide +kernel
theorem dX6_safeFinish_39 : decode cX6_safeFinish 39 = .ok (.iinc 2 1, 3) := by decide +kernel
theorem dX6_safeFinish_42 : decode cX6_safeFinish 42 = .ok (.goto (-21), 3) := by decide +kernel
theorem dX6_safeFinish_45 : decode cX6_safeFinish 45 = .ok (.aload_n 0, 1) := by decide +kernel
theorem dX6_safeFinish_46 : decode cX6_safeFinish 46 = .ok (.getfield 16, 3) := by decide +kernel
theorem dX6_safeFinish_49 : decode cX6_safeFinish 49 = .ok (.istore_n 2, 1) := by decide +kernel
theorem dX6_safeFinish_50 : decode cX6_safeFinish 50 = .ok (.aload_n 0, 1) := by decide +kernel
theorem dX6_safeFinish_51 : decode cX6_safeFinish 51 = .ok (.getfield 20, 3) := by decide +kernel
theorem dX6_safeFinish_54 : decode cX6_safeFinish 54 = .ok (.istore_n 3, 1) := by decide +kernel
theorem dX6_safeFinish_55 : decode cX6_safeFinish 55 = .ok (.aload_n 0, 1) := by decide +kernel
theorem dX6_safeFinish_56 : decode cX6_safeFinish 56 = .ok (.getfield 67, 3) := by decide +kernel
theorem dX6_safeFinish_59 : decode cX6_safeFinish 59 = .ok (.istore 4, 2) := by decide +kernel
theorem dX6_safeFinish_61 : decode cX6_safeFinish 61 = .ok (.aload_n 0, 1) := by decide +kernel
theorem dX6_safeFinish_62 : decode cX6_safeFinish 62 = .ok (.getfield 23, 3) := by decide +kernel
theorem dX6_safeFinish_65 : decode cX6_safeFinish 65 = .ok (.istore 5, 2) := by decide +kernel
theorem dX6_safeFinish_67 : decode cX6_safeFinish 67 = .ok (.iconst 0, 1) := by decide +kernel
theorem dX6_safeFinish_68 : decode cX6_safeFinish 68 = .ok (.istore 6, 2) := by decide +kernel
theorem dX6_safeFinish_70 : decode cX6_safeFinish 70 = .ok (.iconst 0, 1) := by decide +kernel
theorem dX6_safeFinish_71 : decode cX6_safeFinish 71 = .ok (.istore 7, 2) := by decide +kernel
theorem dX6_safeFinish_73 : decode cX6_safeFinish 73 = .ok (.iload 7, 2) := by decide +kernel
theorem dX6_safeFinish_75 : decode cX6_safeFinish 75 = .ok (.bipush 10, 2) := by decide +kernel
theorem dX6_safeFinish_77 : decode cX6_safeFinish 77 = .ok (.if_icmp .ge 94, 3) := by decide +kernel
theorem dX6_safeFinish_80 : decode cX6_safeFinish 80 = .ok (.aload_n 0, 1) := by decide +kernel
theorem dX6_safeFinish_81 : decode cX6_safeFinish 81 = .ok (.iload 7, 2) := by decide +kernel
theorem dX6_safeFinish_83 : decode cX6_safeFinish 83 = .ok (.putfield 20, 3) := by decide +kernel
theorem dX6_safeFinish_86 : decode cX6_safeFinish 86 = .ok (.aload_n 0, 1) := by decide +kernel
theorem dX6_safeFinish_87 : decode cX6_safeFinish 87 = .ok (.iload_n 1, 1) := by decide +kernel
theorem dX6_safeFinish_88 : decode cX6_safeFinish 88 = .ok (.invokevirtual 118, 3) := by decide +kernel
theorem dX6_safeFinish_91 : decode cX6_safeFinish 91 = .ok (.istore 8, 2) := by decide +kernel
theorem dX6_safeFinish_93 : decode cX6_safeFinish 93 = .ok (.iload 6, 2) := by decide +kernel
theorem dX6_safeFinish_95 : decode cX6_safeFinish 95 = .ok (.iload 8, 2) := by decide +kernel
theorem dX6_safeFinish_97 : decode cX6_safeFinish 97 = .ok (.ifCond .ne 18, 3) := by decide +kernel
theorem dX6_safeFinish_100 : decode cX6_safeFinish 100 = .ok (.aload_n 0, 1) := by decide +kernel
theorem dX6_safeFinish_101 : decode cX6_safeFinish 101 = .ok (.aload_n 0, 1) := by decide +kernel
theorem dX6_safeFinish_102 : decode cX6_safeFinish 102 = .ok (.invokevirtual 146, 3) := by decide +kernel
theorem dX6_safeFinish_105 : decode cX6_safeFinish 105 = .ok (.invokevirtual 80, 3) := by decide +kernel
theorem dX6_safeFinish_108 : decode cX6_safeFinish 108 = .ok (.ifCond .eq 7, 3) := by decide +kernel
theorem dX6_safeFinish_111 : decode cX6_safeFinish 111 = .ok (.iconst 1, 1) := by decide +kernel
theorem dX6_safeFinish_112 : decode cX6_safeFinish 112 = .ok (.goto 4, 3) := by decide +kernel
theorem dX6_safeFinish_115 : decode cX6_safeFinish 115 = .ok (.iconst 0, 1) := by decide +kernel
theorem dX6_safeFinish_116 : decode cX6_safeFinish 116 = .ok (.iadd, 1) := by decide +kernel
theorem dX6_safeFinish_117 : decode cX6_safeFinish 117 = .ok (.istore 6, 2) := by decide +kernel
theorem dX6_safeFinish_119 : decode cX6_safeFinish 119 = .ok (.iconst 0, 1) := by decide +kernel
theorem dX6_safeFinish_120 : decode cX6_safeFinish 120 = .ok (.istore 9, 2) := by decide +kernel
theorem dX6_safeFinish_122 : decode cX6_safeFinish 122 = .ok (.iload 9, 2) := by decide +kernel
theorem dX6_safeFinish_124 : decode cX6_safeFinish 124 = .ok (.bipush 66, 2) := by decide +kernel
theorem dX6_safeFinish_126 : decode cX6_safeFinish 126 = .ok (.if_icmp .ge 23, 3) := by decide +kernel
theorem dX6_safeFinish_129 : decode cX6_safeFinish 129 = .ok (.aload_n 0, 1) := by decide +kernel
theorem dX6_safeFinish_130 : decode cX6_safeFinish 130 = .ok (.getfield 7, 3) := by decide +kernel
theorem dX6_safeFinish_133 : decode cX6_safeFinish 133 = .ok (.iload 9, 2) := by decide +kernel
theorem dX6_safeFinish_135 : decode cX6_safeFinish 135 = .ok (.aload_n 0, 1) := by decide +kernel
theorem dX6_safeFinish_136 : decode cX6_safeFinish 136 = .ok (.getfield 13, 3) := by decide +kernel
theorem dX6_safeFinish_139 : decode cX6_safeFinish 139 = .ok (.iload 9, 2) := by decide +kernel
theorem dX6_safeFinish_141 : decode cX6_safeFinish 141 = .ok (.iaload, 1) := by decide +kernel
theorem dX6_safeFinish_142 : decode cX6_safeFinish 142 = .ok (.iastore, 1) := by decide +kernel
theorem dX6_safeFinish_143 : decode cX6_safeFinish 143 = .ok (.iinc 9 1, 3) := by decide +kernel
theorem dX6_safeFinish_146 : decode cX6_safeFinish 146 = .ok (.goto (-24), 3) := by decide +kernel
theorem dX6_safeFinish_149 : decode cX6_safeFinish 149 = .ok (.aload_n 0, 1) := by decide +kernel
theorem dX6_safeFinish_150 : decode cX6_safeFinish 150 = .ok (.iconst 1, 1) := by decide +kernel
theorem dX6_safeFinish_151 : decode cX6_safeFinish 151 = .ok (.putfield 63, 3) := by decide +kernel
theorem dX6_safeFinish_154 : decode cX6_safeFinish 154 = .ok (.aload_n 0, 1) := by decide +kernel
theorem dX6_safeFinish_155 : decode cX6_safeFinish 155 = .ok (.iload_n 2, 1) := by decide +kernel
theorem dX6_safeFinish_156 : decode cX6_safeFinish 156 = .ok (.putfield 16, 3) := by decide +kernel
theorem dX6_safeFinish_159 : decode cX6_safeFinish 159 = .ok (.aload_n 0, 1) := by decide +kernel
theorem dX6_safeFinish_160 : decode cX6_safeFinish 160 = .ok (.iload 5, 2) := by decide +kernel
theorem dX6_safeFinish_162 : decode cX6_safeFinish 162 = .ok (.putfield 23, 3) := by decide +kernel
theorem dX6_safeFinish_165 : decode cX6_safeFinish 165 = .ok (.iinc 7 1, 3) := by decide +kernel
theorem dX6_safeFinish_168 : decode cX6_safeFinish 168 = .ok (.goto (-95), 3) := by decide +kernel
theorem dX6_safeFinish_171 : decode cX6_safeFinish 171 = .ok (.aload_n 0, 1) := by decide +kernel
theorem dX6_safeFinish_172 : decode cX6_safeFinish 172 = .ok (.iload_n 3, 1) := by decide +kernel
theorem dX6_safeFinish_173 : decode cX6_safeFinish 173 = .ok (.putfield 20, 3) := by decide +kernel
theorem dX6_safeFinish_176 : decode cX6_safeFinish 176 = .ok (.aload_n 0, 1) := by decide +kernel
theorem dX6_safeFinish_177 : decode cX6_safeFinish 177 = .ok (.iload 4, 2) := by decide +kernel
theorem dX6_safeFinish_179 : decode cX6_safeFinish 179 = .ok (.putfield 67, 3) := by decide +kernel
theorem dX6_safeFinish_182 : decode cX6_safeFinish 182 = .ok (.iload 6, 2) := by decide +kernel
theorem dX6_safeFinish_184 : decode cX6_safeFinish 184 = .ok (.ireturn, 1) := by decide +kernel
set_option maxRecDepth 20000 in
theorem ggX6_wouldStart_X6_nextStart : GoodIn wsX6_wouldStart wsX6_nextStart := goodIn_r _ [6, 7, 8, 9, 5, 10, 11, 12, 13, 14, 15, 16, 17, 18, 19, 20, 21, 22, 23, 24, 25, 26, 27, 28, 29, 30, 31, 32, 33, 34, 35, 36, 37, 38, 39, 40, 41, 42, 43, 44, 45, 46, 47, 48, 49, 50, 51, 52, 53, 54, 55, 56, 57, 58, 59, 60, 61, 62, 63, 64, 65, 66, 67, 68] (by decide +kernel) (by decide +kernel)
set_option maxRecDepth 20000 in
theorem gX6_wouldStart_X6_nextStart : GoodIn wsX6_wouldStart (wsV RX6 146 RX6 yX6_nextStart wsX6_nextStart) := goodIn_app (goodIn_of _ (by decide +kernel)) ggX6_wouldStart_X6_nextStart
theorem dX6_wouldStart_0 : decode cX6_wouldStart 0 = .ok (.aload_n 0, 1) := by decide +kernel
theorem dX6_wouldStart_1 : decode cX6_wouldStart 1 = .ok (.iconst 0, 1) := by decide +kernel
theorem dX6_wouldStart_2 : decode cX6_wouldStart 2 = .ok (.putfield 37, 3) := by decide +kernel
theorem dX6_wouldStart_5 : decode cX6_wouldStart 5 = .ok (.aload_n 0, 1) := by decide +kernel
theorem dX6_wouldStart_6 : decode cX6_wouldStart 6 = .ok (.invokevirtual 146, 3) := by decide +kernel
theorem dX6_wouldStart_9 : decode cX6_wouldStart 9 = .ok (.ireturn, 1) := by decide +kernel
theorem dJ9_max_7cf53_0 : decode cJ9_max_7cf53 0 = .ok (.iload_n 0, 1) := by decide +kernel
theorem dJ9_max_7cf53_1 : decode cJ9_max_7cf53 1 = .ok (.iload_n 1, 1) := by decide +kernel
theorem dJ9_max_7cf53_2 : decode cJ9_max_7cf53 2 = .ok (.if_icmp .lt 7, 3) := by decide +kernel
theorem dJ9_max_7cf53_5 : decode cJ9_max_7cf53 5 = .ok (.iload_n 0, 1) := by decide +kernel
theorem dJ9_max_7cf53_6 : decode cJ9_max_7cf53 6 = .ok (.goto 4, 3) := by decide +kernel
theorem dJ9_max_7cf53_9 : decode cJ9_max_7cf53 9 = .ok (.iload_n 1, 1) := by decide +kernel
theorem dJ9_max_7cf53_10 : decode cJ9_max_7cf53 10 = .ok (.ireturn, 1) := by decide +kernel
theorem dJ9_min_7cf53_0 : decode cJ9_min_7cf53 0 = .ok (.iload_n 0, 1) := by decide +kernel
theorem dJ9_min_7cf53_1 : decode cJ9_min_7cf53 1 = .ok (.iload_n 1, 1) := by decide +kernel
theorem dJ9_min_7cf53_2 : decode cJ9_min_7cf53 2 = .ok (.if_icmp .gt 7, 3) := by decide +kernel
theorem dJ9_min_7cf53_5 : decode cJ9_min_7cf53 5 = .ok (.iload_n 0, 1) := by decide +kernel
theorem dJ9_min_7cf53_6 : decode cJ9_min_7cf53 6 = .ok (.goto 4, 3) := by decide +kernel
theorem dJ9_min_7cf53_9 : decode cJ9_min_7cf53 9 = .ok (.iload_n 1, 1) := by decide +kernel
theorem dJ9_min_7cf53_10 : decode cJ9_min_7cf53 10 = .ok (.ireturn, 1) := by decide +kernel
set_option maxRecDepth 20000 in
theorem ggL_switchOn_X5_switchOn : GoodIn wsL_switchOn wsX5_switchOn := goodIn_ca (goodIn_r _ [6, 7, 8, 9, 10, 11, 12, 13, 5, 14, 15, 16, 17, 18, 19, 20, 21, 22, 23, 24, 25, 26, 27, 28, 29, 30, 31, 32, 33, 34, 35, 36, 37, 38, 39, 40, 41, 42, 43, 44, 45, 46, 47, 48, 49, 50, 51, 52, 53, 54, 55, 56, 57, 58, 59, 60, 61, 62, 63, 64, 65, 66, 67, 68, 69, 70, 71, 72, 73, 74, 75, 76, 77, 78, 79, 80, 81, 82, 83, 84, 85, 86, 87, 88, 89, 90, 91, 92, 93, 94, 95, 96, 97, 98, 99, 100, 101, 102, 103, 104, 105, 106, 107, 108, 109, 110, 111, 112, 113, 114, 115, 116, 117, 118, 119, 120, 121, 122, 123, 124] (by decide +kernel) (by decide +kernel)) (goodIn_sub (fun _ h => List.mem_cons_of_mem _ (List.mem_append_right _ h)) (by decide +kernel))
set_option maxRecDepth 20000 in
theorem gL_switchOn_X5_switchOn : GoodIn wsL_switchOn (wsV RL 7 RX5 yX5_switchOn wsX5_switchOn) := goodIn_app (goodIn_of _ (by decide +kernel)) ggL_switchOn_X5_switchOn
