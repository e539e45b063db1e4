theorem dL_carry_27 : decode cL_carry 27 = .ok (.istore 6, 2) := by decide +kernel
theorem dL_carry_29 : decode cL_carry 29 = .ok (.aload_n 3, 1) := by decide +kernel
theorem dL_carry_30 : decode cL_carry 30 = .ok (.iconst 1, 1) := by decide +kernel
theorem dL_carry_31 : decode cL_carry 31 = .ok (.iaload, 1) := by decide +kernel
theorem dL_carry_32 : decode cL_carry 32 = .ok (.ifCond .ne 7, 3) := by decide +kernel
theorem dL_carry_35 : decode cL_carry 35 = .ok (.iconst 1, 1) := by decide +kernel
theorem dL_carry_36 : decode cL_carry 36 = .ok (.goto 4, 3) := by decide +kernel
theorem dL_carry_39 : decode cL_carry 39 = .ok (.iconst 0, 1) := by decide +kernel
theorem dL_carry_40 : decode cL_carry 40 = .ok (.istore 7, 2) := by decide +kernel
theorem dL_carry_42 : decode cL_carry 42 = .ok (.aload_n 3, 1) := by decide +kernel
theorem dL_carry_43 : decode cL_carry 43 = .ok (.iconst 2, 1) := by decide +kernel
theorem dL_carry_44 : decode cL_carry 44 = .ok (.dup2, 1) := by decide +kernel
theorem dL_carry_45 : decode cL_carry 45 = .ok (.iaload, 1) := by decide +kernel
theorem dL_carry_46 : decode cL_carry 46 = .ok (.iconst 1, 1) := by decide +kernel
theorem dL_carry_47 : decode cL_carry 47 = .ok (.iadd, 1) := by decide +kernel
theorem dL_carry_48 : decode cL_carry 48 = .ok (.iastore, 1) := by decide +kernel
theorem dL_carry_49 : decode cL_carry 49 = .ok (.aload_n 3, 1) := by decide +kernel
theorem dL_carry_50 : decode cL_carry 50 = .ok (.iconst 1, 1) := by decide +kernel
theorem dL_carry_51 : decode cL_carry 51 = .ok (.dup2, 1) := by decide +kernel
theorem dL_carry_52 : decode cL_carry 52 = .ok (.iaload, 1) := by decide +kernel
theorem dL_carry_53 : decode cL_carry 53 = .ok (.aload_n 3, 1) := by decide +kernel
theorem dL_carry_54 : decode cL_carry 54 = .ok (.iconst 1, 1) := by decide +kernel
theorem dL_carry_55 : decode cL_carry 55 = .ok (.iaload, 1) := by decide +kernel
theorem dL_carry_56 : decode cL_carry 56 = .ok (.ifCond .lt 7, 3) := by decide +kernel
theorem dL_carry_59 : decode cL_carry 59 = .ok (.iconst 1, 1) := by decide +kernel
theorem dL_carry_60 : decode cL_carry 60 = .ok (.goto 4, 3) := by decide +kernel
theorem dL_carry_63 : decode cL_carry 63 = .ok (.iconst 0, 1) := by decide +kernel
theorem dL_carry_64 : decode cL_carry 64 = .ok (.isub, 1) := by decide +kernel
theorem dL_carry_65 : decode cL_carry 65 = .ok (.iastore, 1) := by decide +kernel
theorem dL_carry_66 : decode cL_carry 66 = .ok (.iload 5, 2) := by decide +kernel
theorem dL_carry_68 : decode cL_carry 68 = .ok (.bipush 64, 2) := by decide +kernel
theorem dL_carry_70 : decode cL_carry 70 = .ok (.if_icmp .ge 27, 3) := by decide +kernel
theorem dL_carry_73 : decode cL_carry 73 = .ok (.aload_n 1, 1) := by decide +kernel
theorem dL_carry_74 : decode cL_carry 74 = .ok (.iload 5, 2) := by decide +kernel
theorem dL_carry_76 : decode cL_carry 76 = .ok (.iload 7, 2) := by decide +kernel
theorem dL_carry_78 : decode cL_carry 78 = .ok (.ifCond .eq 13, 3) := by decide +kernel
theorem dL_carry_81 : decode cL_carry 81 = .ok (.aload_n 1, 1) := by decide +kernel
theorem dL_carry_82 : decode cL_carry 82 = .ok (.iload 5, 2) := by decide +kernel
theorem dL_carry_84 : decode cL_carry 84 = .ok (.iaload, 1) := by decide +kernel
theorem dL_carry_85 : decode cL_carry 85 = .ok (.iload 6, 2) := by decide +kernel
theorem dL_carry_87 : decode cL_carry 87 = .ok (.iand, 1) := by decide +kernel
theorem dL_carry_88 : decode cL_carry 88 = .ok (.goto 5, 3) := by decide +kernel
theorem dL_carry_91 : decode cL_carry 91 = .ok (.iload 6, 2) := by decide +kernel
theorem dL_carry_93 : decode cL_carry 93 = .ok (.iastore, 1) := by decide +kernel
theorem dL_carry_94 : decode cL_carry 94 = .ok (.goto 30, 3) := by decide +kernel
theorem dL_carry_97 : decode cL_carry 97 = .ok (.aload_n 2, 1) := by decide +kernel
theorem dL_carry_98 : decode cL_carry 98 = .ok (.iload 5, 2) := by decide +kernel
theorem dL_carry_100 : decode cL_carry 100 = .ok (.bipush 64, 2) := by decide +kernel
theorem dL_carry_102 : decode cL_carry 102 = .ok (.isub, 1) := by decide +kernel
theorem dL_carry_103 : decode cL_carry 103 = .ok (.iload 7, 2) := by decide +kernel
theorem dL_carry_105 : decode cL_carry 105 = .ok (.ifCond .eq 16, 3) := by decide +kernel
theorem dL_carry_108 : decode cL_carry 108 = .ok (.aload_n 2, 1) := by decide +kernel
theorem dL_carry_109 : decode cL_carry 109 = .ok (.iload 5, 2) := by decide +kernel
theorem dL_carry_111 : decode cL_carry 111 = .ok (.bipush 64, 2) := by decide +kernel
theorem dL_carry_113 : decode cL_carry 113 = .ok (.isub, 1) := by decide +kernel
theorem dL_carry_114 : decode cL_carry 114 = .ok (.iaload, 1) := by decide +kernel
theorem dL_carry_115 : decode cL_carry 115 = .ok (.iload 6, 2) := by decide +kernel
theorem dL_carry_117 : decode cL_carry 117 = .ok (.iand, 1) := by decide +kernel
theorem dL_carry_118 : decode cL_carry 118 = .ok (.goto 5, 3) := by decide +kernel
theorem dL_carry_121 : decode cL_carry 121 = .ok (.iload 6, 2) := by decide +kernel
theorem dL_carry_123 : decode cL_carry 123 = .ok (.iastore, 1) := by decide +kernel
theorem dL_carry_124 : decode cL_carry 124 = .ok (.iload 7, 2) := by decide +kernel
theorem dL_carry_126 : decode cL_carry 126 = .ok (.ifCond .eq 16, 3) := by decide +kernel
theorem dL_carry_129 : decode cL_carry 129 = .ok (.aload_n 3, 1) := by decide +kernel
theorem dL_carry_130 : decode cL_carry 130 = .ok (.iconst 0, 1) := by decide +kernel
theorem dL_carry_131 : decode cL_carry 131 = .ok (.iconst (-1), 1) := by decide +kernel
theorem dL_carry_132 : decode cL_carry 132 = .ok (.iastore, 1) := by decide +kernel
theorem dL_carry_133 : decode cL_carry 133 = .ok (.aload_n 3, 1) := by decide +kernel
theorem dL_carry_134 : decode cL_carry 134 = .ok (.iconst 3, 1) := by decide +kernel
theorem dL_carry_135 : decode cL_carry 135 = .ok (.iconst (-1), 1) := by decide +kernel
theorem dL_carry_136 : decode cL_carry 136 = .ok (.iastore, 1) := by decide +kernel
theorem dL_carry_137 : decode cL_carry 137 = .ok (.iload 4, 2) := by decide +kernel
theorem dL_carry_139 : decode cL_carry 139 = .ok (.iconst 1, 1) := by decide +kernel
theorem dL_carry_140 : decode cL_carry 140 = .ok (.isub, 1) := by decide +kernel
theorem dL_carry_141 : decode cL_carry 141 = .ok (.ireturn, 1) := by decide +kernel
theorem dL_carry_142 : decode cL_carry 142 = .ok (.iinc 4 1, 3) := by decide +kernel
theorem dL_carry_145 : decode cL_carry 145 = .ok (.goto (-142), 3) := by decide +kernel
theorem dL_carry_148 : decode cL_carry 148 = .ok (.aload_n 0, 1) := by decide +kernel
theorem dL_carry_149 : decode cL_carry 149 = .ok (.iconst 0, 1) := by decide +kernel
theorem dL_carry_150 : decode cL_carry 150 = .ok (.iaload, 1) := by decide +kernel
theorem dL_carry_151 : decode cL_carry 151 = .ok (.ireturn, 1) := by decide +kernel
theorem dL_isDue_0 : decode cL_isDue 0 = .ok (.aload_n 0, 1) := by decide +kernel
theorem dL_isDue_1 : decode cL_isDue 1 = .ok (.iconst 4, 1) := by decide +kernel
theorem dL_isDue_2 : decode cL_isDue 2 = .ok (.aload_n 0, 1) := by decide +kernel
theorem dL_isDue_3 : decode cL_isDue 3 = .ok (.invokestatic 29, 3) := by decide +kernel
theorem dL_isDue_6 : decode cL_isDue 6 = .ok (.imul, 1) := by decide +kernel
theorem dL_isDue_7 : decode cL_isDue 7 = .ok (.iconst 2, 1) := by decide +kernel
theorem dL_isDue_8 : decode cL_isDue 8 = .ok (.iadd, 1) := by decide +kernel
theorem dL_isDue_9 : decode cL_isDue 9 = .ok (.iaload, 1) := by decide +kernel
theorem dL_isDue_10 : decode cL_isDue 10 = .ok (.iconst 2, 1) := by decide +kernel
theorem dL_isDue_11 : decode cL_isDue 11 = .ok (.iand, 1) := by decide +kernel
theorem dL_isDue_12 : decode cL_isDue 12 = .ok (.iconst 2, 1) := by decide +kernel
theorem dL_isDue_13 : decode cL_isDue 13 = .ok (.if_icmp .ne 7, 3) := by decide +kernel
theorem dL_isDue_16 : decode cL_isDue 16 = .ok (.iconst 1, 1) := by decide +kernel
theorem dL_isDue_17 : decode cL_isDue 17 = .ok (.goto 4, 3) := by decide +kernel
theorem dL_isDue_20 : decode cL_isDue 20 = .ok (.iconst 0, 1) := by decide +kernel
theorem dL_isDue_21 : decode cL_isDue 21 = .ok (.ireturn, 1) := by decide +kernel
theorem dL_start_0 : decode cL_start 0 = .ok (.iconst 4, 1) := by decide +kernel
theorem dL_start_1 : decode cL_start 1 = .ok (.aload_n 1, 1) := by decide +kernel
theorem dL_start_2 : decode cL_start 2 = .ok (.invokestatic 29, 3) := by decide +kernel
theorem dL_start_5 : decode cL_start 5 = .ok (.imul, 1) := by decide +kernel
theorem dL_start_6 : decode cL_start 6 = .ok (.istore_n 2, 1) := by decide +kernel
theorem dL_start_7 : decode cL_start 7 = .ok (.aload_n 1, 1) := by decide +kernel
theorem dL_start_8 : decode cL_start 8 = .ok (.iload_n 2, 1) := by decide +kernel
theorem dL_start_9 : decode cL_start 9 = .ok (.iconst 2, 1) := by decide +kernel
theorem dL_start_10 : decode cL_start 10 = .ok (.iadd, 1) := by decide +kernel
theorem dL_start_11 : decode cL_start 11 = .ok (.iaload, 1) := by decide +kernel
theorem dL_start_12 : decode cL_start 12 = .ok (.iconst 1, 1) := by decide +kernel
theorem dL_start_13 : decode cL_start 13 = .ok (.iand, 1) := by decide +kernel
theorem dL_start_14 : decode cL_start 14 = .ok (.istore_n 3, 1) := by decide +kernel
theorem dL_start_15 : decode cL_start 15 = .ok (.iconst 1, 1) := by decide +kernel
theorem dL_start_16 : decode cL_start 16 = .ok (.iload_n 3, 1) := by decide +kernel
theorem dL_start_17 : decode cL_start 17 = .ok (.isub, 1) := by decide +kernel
theorem dL_start_18 : decode cL_start 18 = .ok (.istore 4, 2) := by decide +kernel
theorem dL_start_20 : decode cL_start 20 = .ok (.aload_n 1, 1) := by decide +kernel
theorem dL_start_21 : decode cL_start 21 = .ok (.iload_n 2, 1) := by decide +kernel
theorem dL_start_22 : decode cL_start 22 = .ok (.iconst 2, 1) := by decide +kernel
theorem dL_start_23 : decode cL_start 23 = .ok (.iadd, 1) := by decide +kernel
theorem dL_start_24 : decode cL_start 24 = .ok (.iaload, 1) := by decide +kernel
theorem dL_start_25 : decode cL_start 25 = .ok (.iconst 2, 1) := by decide +kernel
theorem dL_start_26 : decode cL_start 26 = .ok (.iand, 1) := by decide +kernel
theorem dL_start_27 : decode cL_start 27 = .ok (.iconst 2, 1) := by decide +kernel
theorem dL_start_28 : decode cL_start 28 = .ok (.if_icmp .ne 42, 3) := by decide +kernel
theorem dL_start_31 : decode cL_start 31 = .ok (.aload_n 1, 1) := by decide +kernel
theorem dL_start_32 : decode cL_start 32 = .ok (.iload_n 2, 1) := by decide +kernel
theorem dL_start_33 : decode cL_start 33 = .ok (.iconst 2, 1) := by decide +kernel
theorem dL_start_34 : decode cL_start 34 = .ok (.iadd, 1) := by decide +kernel
theorem dL_start_35 : decode cL_start 35 = .ok (.iaload, 1) := by decide +kernel
theorem dL_start_36 : decode cL_start 36 = .ok (.iconst 3, 1) := by decide +kernel
theorem dL_start_37 : decode cL_start 37 = .ok (.if_icmp .le 33, 3) := by decide +kernel
theorem dL_start_40 : decode cL_start 40 = .ok (.aload_n 0, 1) := by decide +kernel
theorem dL_start_41 : decode cL_start 41 = .ok (.iload 4, 2) := by decide +kernel
theorem dL_start_43 : decode cL_start 43 = .ok (.invokestatic 37, 3) := by decide +kernel
theorem dL_start_46 : decode cL_start 46 = .ok (.ifCond .eq 24, 3) := by decide +kernel
theorem dL_start_49 : decode cL_start 49 = .ok (.aload_n 0, 1) := by decide +kernel
theorem dL_start_50 : decode cL_start 50 = .ok (.bipush 32, 2) := by decide +kernel
theorem dL_start_52 : decode cL_start 52 = .ok (.iload 4, 2) := by decide +kernel
theorem dL_start_54 : decode cL_start 54 = .ok (.imul, 1) := by decide +kernel
theorem dL_start_55 : decode cL_start 55 = .ok (.iconst 4, 1) := by decide +kernel
theorem dL_start_56 : decode cL_start 56 = .ok (.iadd, 1) := by decide +kernel
theorem dL_start_57 : decode cL_start 57 = .ok (.iaload, 1) := by decide +kernel
theorem dL_start_58 : decode cL_start 58 = .ok (.aload_n 1, 1) := by decide +kernel
theorem dL_start_59 : decode cL_start 59 = .ok (.iload_n 2, 1) := by decide +kernel
theorem dL_start_60 : decode cL_start 60 = .ok (.iconst 3, 1) := by decide +kernel
theorem dL_start_61 : decode cL_start 61 = .ok (.iadd, 1) := by decide +kernel
theorem dL_start_62 : decode cL_start 62 = .ok (.iaload, 1) := by decide +kernel
theorem dL_start_63 : decode cL_start 63 = .ok (.if_icmp .lt 7, 3) := by decide +kernel
theorem dL_start_66 : decode cL_start 66 = .ok (.iconst 1, 1) := by decide +kernel
theorem dL_start_67 : decode cL_start 67 = .ok (.goto 4, 3) := by decide +kernel
theorem dL_start_70 : decode cL_start 70 = .ok (.iconst 0, 1) := by decide +kernel
theorem dL_start_71 : decode cL_start 71 = .ok (.istore 5, 2) := by decide +kernel
theorem dL_start_73 : decode cL_start 73 = .ok (.iload 5, 2) := by decide +kernel
theorem dL_start_75 : decode cL_start 75 = .ok (.ifCond .eq 8, 3) := by decide +kernel
theorem dL_start_78 : decode cL_start 78 = .ok (.iload 4, 2) := by decide +kernel
theorem dL_start_80 : decode cL_start 80 = .ok (.goto 4, 3) := by decide +kernel
theorem dL_start_83 : decode cL_start 83 = .ok (.iload_n 3, 1) := by decide +kernel
theorem dL_start_84 : decode cL_start 84 = .ok (.ireturn, 1) := by decide +kernel
theorem dL_isOn_0 : decode cL_isOn 0 = .ok (.aload 4, 2) := by decide +kernel
theorem dL_isOn_2 : decode cL_isOn 2 = .ok (.iconst 0, 1) := by decide +kernel
theorem dL_isOn_3 : decode cL_isOn 3 = .ok (.iaload, 1) := by decide +kernel
theorem dL_isOn_4 : decode cL_isOn 4 = .ok (.ifCond .lt 34, 3) := by decide +kernel
theorem dL_isOn_7 : decode cL_isOn 7 = .ok (.aload 4, 2) := by decide +kernel
theorem dL_isOn_9 : decode cL_isOn 9 = .ok (.iconst 0, 1) := by decide +kernel
theorem dL_isOn_10 : decode cL_isOn 10 = .ok (.iaload, 1) := by decide +kernel
theorem dL_isOn_11 : decode cL_isOn 11 = .ok (.istore 5, 2) := by decide +kernel
theorem dL_isOn_13 : decode cL_isOn 13 = .ok (.aload 4, 2) := by decide +kernel
theorem dL_isOn_15 : decode cL_isOn 15 = .ok (.iconst 0, 1) := by decide +kernel
theorem dL_isOn_16 : decode cL_isOn 16 = .ok (.iconst (-1), 1) := by decide +kernel
theorem dL_isOn_17 : decode cL_isOn 17 = .ok (.iastore, 1) := by decide +kernel
theorem dL_isOn_18 : decode cL_isOn 18 = .ok (.aload 4, 2) := by decide +kernel
theorem dL_isOn_20 : decode cL_isOn 20 = .ok (.iconst 3, 1) := by decide +kernel
theorem dL_isOn_21 : decode cL_isOn 21 = .ok (.iconst (-1), 1) := by decide +kernel
theorem dL_isOn_22 : decode cL_isOn 22 = .ok (.iastore, 1) := by decide +kernel
theorem dL_isOn_23 : decode cL_isOn 23 = .ok (.aload_n 0, 1) := by decide +kernel
theorem dL_isOn_24 : decode cL_isOn 24 = .ok (.invokevirtual 40, 3) := by decide +kernel
theorem dL_isOn_27 : decode cL_isOn 27 = .ok (.iload 5, 2) := by decide +kernel
theorem dL_isOn_29 : decode cL_isOn 29 = .ok (.if_icmp .ne 7, 3) := by decide +kernel
theorem dL_isOn_32 : decode cL_isOn 32 = .ok (.iconst 1, 1) := by decide +kernel
theorem dL_isOn_33 : decode cL_isOn 33 = .ok (.goto 4, 3) := by decide +kernel
theorem dL_isOn_36 : decode cL_isOn 36 = .ok (.iconst 0, 1) := by decide +kernel
theorem dL_isOn_37 : decode cL_isOn 37 = .ok (.ireturn, 1) := by decide +kernel
theorem dL_isOn_38 : decode cL_isOn 38 = .ok (.aload_n 2, 1) := by decide +kernel
theorem dL_isOn_39 : decode cL_isOn 39 = .ok (.aload_n 3, 1) := by decide +kernel
theorem dL_isOn_40 : decode cL_isOn 40 = .ok (.invokestatic 46, 3) := by decide +kernel
theorem dL_isOn_43 : decode cL_isOn 43 = .ok (.istore 5, 2) := by decide +kernel
theorem dL_isOn_45 : decode cL_isOn 45 = .ok (.aload_n 3, 1) := by decide +kernel
theorem dL_isOn_46 : decode cL_isOn 46 = .ok (.iconst 4, 1) := by decide +kernel
theorem dL_isOn_47 : decode cL_isOn 47 = .ok (.aload_n 3, 1) := by decide +kernel
theorem dL_isOn_48 : decode cL_isOn 48 = .ok (.invokestatic 29, 3) := by decide +kernel
theorem dL_isOn_51 : decode cL_isOn 51 = .ok (.imul, 1) := by decide +kernel
theorem dL_isOn_52 : decode cL_isOn 52 = .ok (.iconst 2, 1) := by decide +kernel
theorem dL_isOn_53 : decode cL_isOn 53 = .ok (.iadd, 1) := by decide +kernel
theorem dL_isOn_54 : decode cL_isOn 54 = .ok (.iaload, 1) := by decide +kernel
theorem dL_isOn_55 : decode cL_isOn 55 = .ok (.istore 6, 2) := by decide +kernel
theorem dL_isOn_57 : decode cL_isOn 57 = .ok (.iload 5, 2) := by decide +kernel
theorem dL_isOn_59 : decode cL_isOn 59 = .ok (.iload 6, 2) := by decide +kernel
theorem dL_isOn_61 : decode cL_isOn 61 = .ok (.iconst 1, 1) := by decide +kernel
theorem dL_isOn_62 : decode cL_isOn 62 = .ok (.iand, 1) := by decide +kernel
theorem dL_isOn_63 : decode cL_isOn 63 = .ok (.if_icmp .eq 7, 3) := by decide +kernel
theorem dL_isOn_66 : decode cL_isOn 66 = .ok (.iconst 1, 1) := by decide +kernel
theorem dL_isOn_67 : decode cL_isOn 67 = .ok (.goto 4, 3) := by decide +kernel
theorem dL_isOn_70 : decode cL_isOn 70 = .ok (.iconst 0, 1) := by decide +kernel
theorem dL_isOn_71 : decode cL_isOn 71 = .ok (.istore 7, 2) := by decide +kernel
theorem dL_isOn_73 : decode cL_isOn 73 = .ok (.aload_n 3, 1) := by decide +kernel
theorem dL_isOn_74 : decode cL_isOn 74 = .ok (.invokestatic 50, 3) := by decide +kernel
theorem dL_isOn_77 : decode cL_isOn 77 = .ok (.ifCond .eq 34, 3) := by decide +kernel
theorem dL_isOn_80 : decode cL_isOn 80 = .ok (.aload_n 1, 1) := by decide +kernel
theorem dL_isOn_81 : decode cL_isOn 81 = .ok (.aload_n 3, 1) := by decide +kernel
theorem dL_isOn_82 : decode cL_isOn 82 = .ok (.iload 7, 2) := by decide +kernel
theorem dL_isOn_84 : decode cL_isOn 84 = .ok (.ifCond .eq 10, 3) := by decide +kernel
theorem dL_isOn_87 : decode cL_isOn 87 = .ok (.iload 6, 2) := by decide +kernel
theorem dL_isOn_89 : decode cL_isOn 89 = .ok (.iconst 4, 1) := by decide +kernel
theorem dL_isOn_90 : decode cL_isOn 90 = .ok (.isub, 1) := by decide +kernel
theorem dL_isOn_91 : decode cL_isOn 91 = .ok (.goto 7, 3) := by decide +kernel
theorem dL_isOn_94 : decode cL_isOn 94 = .ok (.iload 6, 2) := by decide +kernel
theorem dL_isOn_96 : decode cL_isOn 96 = .ok (.iconst 1, 1) := by decide +kernel
theorem dL_isOn_97 : decode cL_isOn 97 = .ok (.iand, 1) := by decide +kernel
theorem dL_isOn_98 : decode cL_isOn 98 = .ok (.aload_n 3, 1) := by decide +kernel
theorem dL_isOn_99 : decode cL_isOn 99 = .ok (.iconst 4, 1) := by decide +kernel
theorem dL_isOn_100 : decode cL_isOn 100 = .ok (.aload_n 3, 1) := by decide +kernel
theorem dL_isOn_101 : decode cL_isOn 101 = .ok (.invokestatic 29, 3) := by decide +kernel
theorem dL_isOn_104 : decode cL_isOn 104 = .ok (.imul, 1) := by decide +kernel
theorem dL_isOn_105 : decode cL_isOn 105 = .ok (.iconst 3, 1) := by decide +kernel
theorem dL_isOn_106 : decode cL_isOn 106 = .ok (.iadd, 1) := by decide +kernel
theorem dL_isOn_107 : decode cL_isOn 107 = .ok (.iaload, 1) := by decide +kernel
theorem dL_isOn_108 : decode cL_isOn 108 = .ok (.invokestatic 54, 3) := by decide +kernel
theorem dL_isOn_111 : decode cL_isOn 111 = .ok (.aload_n 1, 1) := by decide +kernel
theorem dL_isOn_112 : decode cL_isOn 112 = .ok (.iconst 0, 1) := by decide +kernel
theorem dL_isOn_113 : decode cL_isOn 113 = .ok (.iaload, 1) := by decide +kernel
theorem dL_isOn_114 : decode cL_isOn 114 = .ok (.istore 8, 2) := by decide +kernel
theorem dL_isOn_116 : decode cL_isOn 116 = .ok (.aload 4, 2) := by decide +kernel
theorem dL_isOn_118 : decode cL_isOn 118 = .ok (.iconst 0, 1) := by decide +kernel
theorem dL_isOn_119 : decode cL_isOn 119 = .ok (.aload_n 1, 1) := by decide +kernel
theorem dL_isOn_120 : decode cL_isOn 120 = .ok (.aload_n 2, 1) := by decide +kernel
theorem dL_isOn_121 : decode cL_isOn 121 = .ok (.aload_n 3, 1) := by decide +kernel
theorem dL_isOn_122 : decode cL_isOn 122 = .ok (.aload 4, 2) := by decide +kernel
theorem dL_isOn_124 : decode cL_isOn 124 = .ok (.invokestatic 58, 3) := by decide +kernel
theorem dL_isOn_127 : decode cL_isOn 127 = .ok (.iload 8, 2) := by decide +kernel
theorem dL_isOn_129 : decode cL_isOn 129 = .ok (.if_icmp .ne 8, 3) := by decide +kernel
theorem dL_isOn_132 : decode cL_isOn 132 = .ok (.iload 5, 2) := by decide +kernel
theorem dL_isOn_134 : decode cL_isOn 134 = .ok (.goto 4, 3) := by decide +kernel
theorem dL_isOn_137 : decode cL_isOn 137 = .ok (.iconst (-1), 1) := by decide +kernel
theorem dL_isOn_138 : decode cL_isOn 138 = .ok (.iastore, 1) := by decide +kernel
theorem dL_isOn_139 : decode cL_isOn 139 = .ok (.aload_n 0, 1) := by decide +kernel
theorem dL_isOn_140 : decode cL_isOn 140 = .ok (.invokevirtual 62, 3) := by decide +kernel
theorem dL_isOn_143 : decode cL_isOn 143 = .ok (.aload 4, 2) := by decide +kernel
theorem dL_isOn_145 : decode cL_isOn 145 = .ok (.iconst 0, 1) := by decide +kernel
theorem dL_isOn_146 : decode cL_isOn 146 = .ok (.iaload, 1) := by decide +kernel
theorem dL_isOn_147 : decode cL_isOn 147 = .ok (.if_icmp .ne 7, 3) := by decide +kernel
theorem dL_isOn_150 : decode cL_isOn 150 = .ok (.iconst 1, 1) := by decide +kernel
theorem dL_isOn_151 : decode cL_isOn 151 = .ok (.goto 4, 3) := by decide +kernel
theorem dL_isOn_154 : decode cL_isOn 154 = .ok (.iconst 0, 1) := by decide +kernel
theorem dL_isOn_155 : decode cL_isOn 155 = .ok (.ireturn, 1) := by decide +kernel
theorem dL_offered_0 : decode cL_offered 0 = .ok (.aload_n 0, 1) := by decide +kernel
theorem dL_offered_1 : decode cL_offered 1 = .ok (.iload_n 1, 1) := by decide +kernel
theorem dL_offered_2 : decode cL_offered 2 = .ok (.iload_n 2, 1) := by decide +kernel
theorem dL_offered_3 : decode cL_offered 3 = .ok (.iload_n 3, 1) := by decide +kernel
theorem dL_offered_4 : decode cL_offered 4 = .ok (.iload 4, 2) := by decide +kernel
theorem dL_offered_6 : decode cL_offered 6 = .ok (.invokevirtual 65, 3) := by decide +kernel
theorem dL_offered_9 : decode cL_offered 9 = .ok (.ifCond .eq 7, 3) := by decide +kernel
