theorem dL_offered_12 : decode cL_offered 12 = .ok (.iconst 1, 1) := by decide +kernel
theorem dL_offered_13 : decode cL_offered 13 = .ok (.goto 4, 3) := by decide +kernel
theorem dL_offered_16 : decode cL_offered 16 = .ok (.iconst 0, 1) := by decide +kernel
theorem dL_offered_17 : decode cL_offered 17 = .ok (.ireturn, 1) := by decide +kernel
theorem dL_offered_18 : decode cL_offered 18 = .ok (.astore 5, 2) := by decide +kernel
theorem dL_offered_20 : decode cL_offered 20 = .ok (.bipush (-2), 2) := by decide +kernel
theorem dL_offered_22 : decode cL_offered 22 = .ok (.ireturn, 1) := by decide +kernel
theorem dL_put_0 : decode cL_put 0 = .ok (.aload_n 0, 1) := by decide +kernel
theorem dL_put_1 : decode cL_put 1 = .ok (.iload_n 1, 1) := by decide +kernel
theorem dL_put_2 : decode cL_put 2 = .ok (.invokevirtual 71, 3) := by decide +kernel
theorem dL_put_5 : decode cL_put 5 = .ok (.ifCond .eq 7, 3) := by decide +kernel
theorem dL_put_8 : decode cL_put 8 = .ok (.iconst 1, 1) := by decide +kernel
theorem dL_put_9 : decode cL_put 9 = .ok (.goto 4, 3) := by decide +kernel
theorem dL_put_12 : decode cL_put 12 = .ok (.iconst 0, 1) := by decide +kernel
theorem dL_put_13 : decode cL_put 13 = .ok (.ireturn, 1) := by decide +kernel
theorem dL_put_14 : decode cL_put 14 = .ok (.astore_n 2, 1) := by decide +kernel
theorem dL_put_15 : decode cL_put 15 = .ok (.bipush (-2), 2) := by decide +kernel
theorem dL_put_17 : decode cL_put 17 = .ok (.ireturn, 1) := by decide +kernel
theorem dL_copied_0 : decode cL_copied 0 = .ok (.aload_n 0, 1) := by decide +kernel
theorem dL_copied_1 : decode cL_copied 1 = .ok (.iload_n 1, 1) := by decide +kernel
theorem dL_copied_2 : decode cL_copied 2 = .ok (.iload_n 2, 1) := by decide +kernel
theorem dL_copied_3 : decode cL_copied 3 = .ok (.invokevirtual 75, 3) := by decide +kernel
theorem dL_copied_6 : decode cL_copied 6 = .ok (.ireturn, 1) := by decide +kernel
theorem dL_copied_7 : decode cL_copied 7 = .ok (.astore_n 3, 1) := by decide +kernel
theorem dL_copied_8 : decode cL_copied 8 = .ok (.bipush (-3), 2) := by decide +kernel
theorem dL_copied_10 : decode cL_copied 10 = .ok (.ireturn, 1) := by decide +kernel
theorem dL_copied_11 : decode cL_copied 11 = .ok (.astore_n 3, 1) := by decide +kernel
theorem dL_copied_12 : decode cL_copied 12 = .ok (.bipush (-2), 2) := by decide +kernel
theorem dL_copied_14 : decode cL_copied 14 = .ok (.ireturn, 1) := by decide +kernel
theorem dL_finished_0 : decode cL_finished 0 = .ok (.aload_n 0, 1) := by decide +kernel
theorem dL_finished_1 : decode cL_finished 1 = .ok (.iload_n 1, 1) := by decide +kernel
theorem dL_finished_2 : decode cL_finished 2 = .ok (.invokevirtual 81, 3) := by decide +kernel
theorem dL_finished_5 : decode cL_finished 5 = .ok (.ifCond .eq 7, 3) := by decide +kernel
theorem dL_finished_8 : decode cL_finished 8 = .ok (.iconst 1, 1) := by decide +kernel
theorem dL_finished_9 : decode cL_finished 9 = .ok (.goto 4, 3) := by decide +kernel
theorem dL_finished_12 : decode cL_finished 12 = .ok (.iconst 0, 1) := by decide +kernel
theorem dL_finished_13 : decode cL_finished 13 = .ok (.ireturn, 1) := by decide +kernel
theorem dL_finished_14 : decode cL_finished 14 = .ok (.astore_n 2, 1) := by decide +kernel
theorem dL_finished_15 : decode cL_finished 15 = .ok (.bipush (-2), 2) := by decide +kernel
theorem dL_finished_17 : decode cL_finished 17 = .ok (.ireturn, 1) := by decide +kernel
theorem dL_safe_0 : decode cL_safe 0 = .ok (.aload_n 0, 1) := by decide +kernel
theorem dL_safe_1 : decode cL_safe 1 = .ok (.iload_n 1, 1) := by decide +kernel
theorem dL_safe_2 : decode cL_safe 2 = .ok (.invokevirtual 84, 3) := by decide +kernel
theorem dL_safe_5 : decode cL_safe 5 = .ok (.ireturn, 1) := by decide +kernel
theorem dL_safe_6 : decode cL_safe 6 = .ok (.astore_n 2, 1) := by decide +kernel
theorem dL_safe_7 : decode cL_safe 7 = .ok (.bipush (-2), 2) := by decide +kernel
theorem dL_safe_9 : decode cL_safe 9 = .ok (.ireturn, 1) := by decide +kernel
theorem dL_confirmed_0 : decode cL_confirmed 0 = .ok (.aload_n 0, 1) := by decide +kernel
theorem dL_confirmed_1 : decode cL_confirmed 1 = .ok (.invokevirtual 88, 3) := by decide +kernel
theorem dL_confirmed_4 : decode cL_confirmed 4 = .ok (.ifCond .eq 7, 3) := by decide +kernel
theorem dL_confirmed_7 : decode cL_confirmed 7 = .ok (.iconst 1, 1) := by decide +kernel
theorem dL_confirmed_8 : decode cL_confirmed 8 = .ok (.goto 4, 3) := by decide +kernel
theorem dL_confirmed_11 : decode cL_confirmed 11 = .ok (.iconst 0, 1) := by decide +kernel
theorem dL_confirmed_12 : decode cL_confirmed 12 = .ok (.ireturn, 1) := by decide +kernel
theorem dL_confirmed_13 : decode cL_confirmed 13 = .ok (.astore_n 1, 1) := by decide +kernel
theorem dL_confirmed_14 : decode cL_confirmed 14 = .ok (.bipush (-2), 2) := by decide +kernel
theorem dL_confirmed_16 : decode cL_confirmed 16 = .ok (.ireturn, 1) := by decide +kernel
theorem dL_told_0 : decode cL_told 0 = .ok (.ldc2_w 9, 3) := by decide +kernel
theorem dL_told_3 : decode cL_told 3 = .ok (.lstore_n 2, 1) := by decide +kernel
theorem dL_told_4 : decode cL_told 4 = .ok (.iconst 0, 1) := by decide +kernel
theorem dL_told_5 : decode cL_told 5 = .ok (.istore 4, 2) := by decide +kernel
theorem dL_told_7 : decode cL_told 7 = .ok (.iload 4, 2) := by decide +kernel
theorem dL_told_9 : decode cL_told 9 = .ok (.iload_n 0, 1) := by decide +kernel
theorem dL_told_10 : decode cL_told 10 = .ok (.if_icmp .ge 27, 3) := by decide +kernel
theorem dL_told_13 : decode cL_told 13 = .ok (.ldc2_w 11, 3) := by decide +kernel
theorem dL_told_16 : decode cL_told 16 = .ok (.lload_n 2, 1) := by decide +kernel
theorem dL_told_17 : decode cL_told 17 = .ok (.lmul, 1) := by decide +kernel
theorem dL_told_18 : decode cL_told 18 = .ok (.iload 4, 2) := by decide +kernel
theorem dL_told_20 : decode cL_told 20 = .ok (.i2l, 1) := by decide +kernel
theorem dL_told_21 : decode cL_told 21 = .ok (.ladd, 1) := by decide +kernel
theorem dL_told_22 : decode cL_told 22 = .ok (.ldc2_w 92, 3) := by decide +kernel
theorem dL_told_25 : decode cL_told 25 = .ok (.ladd, 1) := by decide +kernel
theorem dL_told_26 : decode cL_told 26 = .ok (.ldc2_w 13, 3) := by decide +kernel
theorem dL_told_29 : decode cL_told 29 = .ok (.lrem, 1) := by decide +kernel
theorem dL_told_30 : decode cL_told 30 = .ok (.lstore_n 2, 1) := by decide +kernel
theorem dL_told_31 : decode cL_told 31 = .ok (.iinc 4 1, 3) := by decide +kernel
theorem dL_told_34 : decode cL_told 34 = .ok (.goto (-27), 3) := by decide +kernel
theorem dL_told_37 : decode cL_told 37 = .ok (.iload_n 1, 1) := by decide +kernel
theorem dL_told_38 : decode cL_told 38 = .ok (.bipush 9, 2) := by decide +kernel
theorem dL_told_40 : decode cL_told 40 = .ok (.irem, 1) := by decide +kernel
theorem dL_told_41 : decode cL_told 41 = .ok (.ifCond .ne 8, 3) := by decide +kernel
theorem dL_told_44 : decode cL_told 44 = .ok (.bipush 77, 2) := by decide +kernel
theorem dL_told_46 : decode cL_told 46 = .ok (.goto 5, 3) := by decide +kernel
theorem dL_told_49 : decode cL_told 49 = .ok (.lload_n 2, 1) := by decide +kernel
theorem dL_told_50 : decode cL_told 50 = .ok (.l2i, 1) := by decide +kernel
theorem dL_told_51 : decode cL_told 51 = .ok (.ireturn, 1) := by decide +kernel
theorem dL_updates_0 : decode cL_updates 0 = .ok (.aload 4, 2) := by decide +kernel
theorem dL_updates_2 : decode cL_updates 2 = .ok (.iconst 0, 1) := by decide +kernel
theorem dL_updates_3 : decode cL_updates 3 = .ok (.iaload, 1) := by decide +kernel
theorem dL_updates_4 : decode cL_updates 4 = .ok (.ifCond .lt 7, 3) := by decide +kernel
theorem dL_updates_7 : decode cL_updates 7 = .ok (.iconst 1, 1) := by decide +kernel
theorem dL_updates_8 : decode cL_updates 8 = .ok (.goto 4, 3) := by decide +kernel
theorem dL_updates_11 : decode cL_updates 11 = .ok (.iconst 0, 1) := by decide +kernel
theorem dL_updates_12 : decode cL_updates 12 = .ok (.istore 7, 2) := by decide +kernel
theorem dL_updates_14 : decode cL_updates 14 = .ok (.bipush 32, 2) := by decide +kernel
theorem dL_updates_16 : decode cL_updates 16 = .ok (.iconst 1, 1) := by decide +kernel
theorem dL_updates_17 : decode cL_updates 17 = .ok (.aload 4, 2) := by decide +kernel
theorem dL_updates_19 : decode cL_updates 19 = .ok (.iconst 0, 1) := by decide +kernel
theorem dL_updates_20 : decode cL_updates 20 = .ok (.iaload, 1) := by decide +kernel
theorem dL_updates_21 : decode cL_updates 21 = .ok (.isub, 1) := by decide +kernel
theorem dL_updates_22 : decode cL_updates 22 = .ok (.imul, 1) := by decide +kernel
theorem dL_updates_23 : decode cL_updates 23 = .ok (.istore 8, 2) := by decide +kernel
theorem dL_updates_25 : decode cL_updates 25 = .ok (.iload 5, 2) := by decide +kernel
theorem dL_updates_27 : decode cL_updates 27 = .ok (.iconst 3, 1) := by decide +kernel
theorem dL_updates_28 : decode cL_updates 28 = .ok (.if_icmp .ge 250, 3) := by decide +kernel
theorem dL_updates_31 : decode cL_updates 31 = .ok (.iload 7, 2) := by decide +kernel
theorem dL_updates_33 : decode cL_updates 33 = .ok (.ifCond .eq 17, 3) := by decide +kernel
theorem dL_updates_36 : decode cL_updates 36 = .ok (.aload_n 2, 1) := by decide +kernel
theorem dL_updates_37 : decode cL_updates 37 = .ok (.bipush 32, 2) := by decide +kernel
theorem dL_updates_39 : decode cL_updates 39 = .ok (.aload 4, 2) := by decide +kernel
theorem dL_updates_41 : decode cL_updates 41 = .ok (.iconst 0, 1) := by decide +kernel
theorem dL_updates_42 : decode cL_updates 42 = .ok (.iaload, 1) := by decide +kernel
theorem dL_updates_43 : decode cL_updates 43 = .ok (.imul, 1) := by decide +kernel
theorem dL_updates_44 : decode cL_updates 44 = .ok (.iconst 1, 1) := by decide +kernel
theorem dL_updates_45 : decode cL_updates 45 = .ok (.iadd, 1) := by decide +kernel
theorem dL_updates_46 : decode cL_updates 46 = .ok (.iaload, 1) := by decide +kernel
theorem dL_updates_47 : decode cL_updates 47 = .ok (.goto 4, 3) := by decide +kernel
theorem dL_updates_50 : decode cL_updates 50 = .ok (.iconst 1, 1) := by decide +kernel
theorem dL_updates_51 : decode cL_updates 51 = .ok (.iload 6, 2) := by decide +kernel
theorem dL_updates_53 : decode cL_updates 53 = .ok (.iconst 3, 1) := by decide +kernel
theorem dL_updates_54 : decode cL_updates 54 = .ok (.irem, 1) := by decide +kernel
theorem dL_updates_55 : decode cL_updates 55 = .ok (.iadd, 1) := by decide +kernel
theorem dL_updates_56 : decode cL_updates 56 = .ok (.istore 9, 2) := by decide +kernel
theorem dL_updates_58 : decode cL_updates 58 = .ok (.iconst 1, 1) := by decide +kernel
theorem dL_updates_59 : decode cL_updates 59 = .ok (.iload 6, 2) := by decide +kernel
theorem dL_updates_61 : decode cL_updates 61 = .ok (.iconst 3, 1) := by decide +kernel
theorem dL_updates_62 : decode cL_updates 62 = .ok (.idiv, 1) := by decide +kernel
theorem dL_updates_63 : decode cL_updates 63 = .ok (.iconst 4, 1) := by decide +kernel
theorem dL_updates_64 : decode cL_updates 64 = .ok (.irem, 1) := by decide +kernel
theorem dL_updates_65 : decode cL_updates 65 = .ok (.iadd, 1) := by decide +kernel
theorem dL_updates_66 : decode cL_updates 66 = .ok (.istore 10, 2) := by decide +kernel
theorem dL_updates_68 : decode cL_updates 68 = .ok (.aload_n 3, 1) := by decide +kernel
theorem dL_updates_69 : decode cL_updates 69 = .ok (.iconst 4, 1) := by decide +kernel
theorem dL_updates_70 : decode cL_updates 70 = .ok (.aload_n 3, 1) := by decide +kernel
theorem dL_updates_71 : decode cL_updates 71 = .ok (.invokestatic 29, 3) := by decide +kernel
theorem dL_updates_74 : decode cL_updates 74 = .ok (.imul, 1) := by decide +kernel
theorem dL_updates_75 : decode cL_updates 75 = .ok (.iconst 3, 1) := by decide +kernel
theorem dL_updates_76 : decode cL_updates 76 = .ok (.iadd, 1) := by decide +kernel
theorem dL_updates_77 : decode cL_updates 77 = .ok (.iaload, 1) := by decide +kernel
theorem dL_updates_78 : decode cL_updates 78 = .ok (.iload 6, 2) := by decide +kernel
theorem dL_updates_80 : decode cL_updates 80 = .ok (.bipush 12, 2) := by decide +kernel
theorem dL_updates_82 : decode cL_updates 82 = .ok (.idiv, 1) := by decide +kernel
theorem dL_updates_83 : decode cL_updates 83 = .ok (.iconst 3, 1) := by decide +kernel
theorem dL_updates_84 : decode cL_updates 84 = .ok (.irem, 1) := by decide +kernel
theorem dL_updates_85 : decode cL_updates 85 = .ok (.iadd, 1) := by decide +kernel
theorem dL_updates_86 : decode cL_updates 86 = .ok (.iload 6, 2) := by decide +kernel
theorem dL_updates_88 : decode cL_updates 88 = .ok (.bipush 7, 2) := by decide +kernel
theorem dL_updates_90 : decode cL_updates 90 = .ok (.irem, 1) := by decide +kernel
theorem dL_updates_91 : decode cL_updates 91 = .ok (.ifCond .ne 7, 3) := by decide +kernel
theorem dL_updates_94 : decode cL_updates 94 = .ok (.iconst 1, 1) := by decide +kernel
theorem dL_updates_95 : decode cL_updates 95 = .ok (.goto 4, 3) := by decide +kernel
theorem dL_updates_98 : decode cL_updates 98 = .ok (.iconst 0, 1) := by decide +kernel
theorem dL_updates_99 : decode cL_updates 99 = .ok (.isub, 1) := by decide +kernel
theorem dL_updates_100 : decode cL_updates 100 = .ok (.istore 11, 2) := by decide +kernel
theorem dL_updates_102 : decode cL_updates 102 = .ok (.iload 11, 2) := by decide +kernel
theorem dL_updates_104 : decode cL_updates 104 = .ok (.ifCond .ge 7, 3) := by decide +kernel
theorem dL_updates_107 : decode cL_updates 107 = .ok (.iconst 0, 1) := by decide +kernel
theorem dL_updates_108 : decode cL_updates 108 = .ok (.goto 5, 3) := by decide +kernel
theorem dL_updates_111 : decode cL_updates 111 = .ok (.iload 11, 2) := by decide +kernel
theorem dL_updates_113 : decode cL_updates 113 = .ok (.istore 11, 2) := by decide +kernel
theorem dL_updates_115 : decode cL_updates 115 = .ok (.iload 7, 2) := by decide +kernel
theorem dL_updates_117 : decode cL_updates 117 = .ok (.ifCond .eq 45, 3) := by decide +kernel
theorem dL_updates_120 : decode cL_updates 120 = .ok (.aload_n 3, 1) := by decide +kernel
theorem dL_updates_121 : decode cL_updates 121 = .ok (.invokestatic 50, 3) := by decide +kernel
theorem dL_updates_124 : decode cL_updates 124 = .ok (.ifCond .ne 38, 3) := by decide +kernel
theorem dL_updates_127 : decode cL_updates 127 = .ok (.iload 9, 2) := by decide +kernel
theorem dL_updates_129 : decode cL_updates 129 = .ok (.aload_n 2, 1) := by decide +kernel
theorem dL_updates_130 : decode cL_updates 130 = .ok (.bipush 32, 2) := by decide +kernel
theorem dL_updates_132 : decode cL_updates 132 = .ok (.aload 4, 2) := by decide +kernel
theorem dL_updates_134 : decode cL_updates 134 = .ok (.iconst 0, 1) := by decide +kernel
theorem dL_updates_135 : decode cL_updates 135 = .ok (.iaload, 1) := by decide +kernel
theorem dL_updates_136 : decode cL_updates 136 = .ok (.imul, 1) := by decide +kernel
theorem dL_updates_137 : decode cL_updates 137 = .ok (.iconst 1, 1) := by decide +kernel
theorem dL_updates_138 : decode cL_updates 138 = .ok (.iadd, 1) := by decide +kernel
theorem dL_updates_139 : decode cL_updates 139 = .ok (.iaload, 1) := by decide +kernel
theorem dL_updates_140 : decode cL_updates 140 = .ok (.if_icmp .le 22, 3) := by decide +kernel
theorem dL_updates_143 : decode cL_updates 143 = .ok (.iload 11, 2) := by decide +kernel
theorem dL_updates_145 : decode cL_updates 145 = .ok (.aload_n 3, 1) := by decide +kernel
theorem dL_updates_146 : decode cL_updates 146 = .ok (.iconst 4, 1) := by decide +kernel
theorem dL_updates_147 : decode cL_updates 147 = .ok (.aload_n 3, 1) := by decide +kernel
theorem dL_updates_148 : decode cL_updates 148 = .ok (.invokestatic 29, 3) := by decide +kernel
theorem dL_updates_151 : decode cL_updates 151 = .ok (.imul, 1) := by decide +kernel
theorem dL_updates_152 : decode cL_updates 152 = .ok (.iconst 3, 1) := by decide +kernel
theorem dL_updates_153 : decode cL_updates 153 = .ok (.iadd, 1) := by decide +kernel
theorem dL_updates_154 : decode cL_updates 154 = .ok (.iaload, 1) := by decide +kernel
theorem dL_updates_155 : decode cL_updates 155 = .ok (.if_icmp .lt 7, 3) := by decide +kernel
theorem dL_updates_158 : decode cL_updates 158 = .ok (.iconst 1, 1) := by decide +kernel
theorem dL_updates_159 : decode cL_updates 159 = .ok (.goto 4, 3) := by decide +kernel
theorem dL_updates_162 : decode cL_updates 162 = .ok (.iconst 0, 1) := by decide +kernel
theorem dL_updates_163 : decode cL_updates 163 = .ok (.istore 12, 2) := by decide +kernel
theorem dL_updates_165 : decode cL_updates 165 = .ok (.iload 12, 2) := by decide +kernel
theorem dL_updates_167 : decode cL_updates 167 = .ok (.ifCond .eq 46, 3) := by decide +kernel
theorem dL_updates_170 : decode cL_updates 170 = .ok (.aload 4, 2) := by decide +kernel
theorem dL_updates_172 : decode cL_updates 172 = .ok (.iconst 3, 1) := by decide +kernel
theorem dL_updates_173 : decode cL_updates 173 = .ok (.iconst 0, 1) := by decide +kernel
theorem dL_updates_174 : decode cL_updates 174 = .ok (.iastore, 1) := by decide +kernel
theorem dL_updates_175 : decode cL_updates 175 = .ok (.aload 4, 2) := by decide +kernel
theorem dL_updates_177 : decode cL_updates 177 = .ok (.iconst 4, 1) := by decide +kernel
theorem dL_updates_178 : decode cL_updates 178 = .ok (.iload 9, 2) := by decide +kernel
theorem dL_updates_180 : decode cL_updates 180 = .ok (.iastore, 1) := by decide +kernel
theorem dL_updates_181 : decode cL_updates 181 = .ok (.aload 4, 2) := by decide +kernel
theorem dL_updates_183 : decode cL_updates 183 = .ok (.iconst 5, 1) := by decide +kernel
theorem dL_updates_184 : decode cL_updates 184 = .ok (.iload 10, 2) := by decide +kernel
theorem dL_updates_186 : decode cL_updates 186 = .ok (.iastore, 1) := by decide +kernel
theorem dL_updates_187 : decode cL_updates 187 = .ok (.aload 4, 2) := by decide +kernel
theorem dL_updates_189 : decode cL_updates 189 = .ok (.bipush 6, 2) := by decide +kernel
theorem dL_updates_191 : decode cL_updates 191 = .ok (.iload 10, 2) := by decide +kernel
theorem dL_updates_193 : decode cL_updates 193 = .ok (.iload 6, 2) := by decide +kernel
theorem dL_updates_195 : decode cL_updates 195 = .ok (.invokestatic 94, 3) := by decide +kernel
theorem dL_updates_198 : decode cL_updates 198 = .ok (.iastore, 1) := by decide +kernel
theorem dL_updates_199 : decode cL_updates 199 = .ok (.aload 4, 2) := by decide +kernel
theorem dL_updates_201 : decode cL_updates 201 = .ok (.bipush 7, 2) := by decide +kernel
theorem dL_updates_203 : decode cL_updates 203 = .ok (.iload 11, 2) := by decide +kernel
theorem dL_updates_205 : decode cL_updates 205 = .ok (.iastore, 1) := by decide +kernel
theorem dL_updates_206 : decode cL_updates 206 = .ok (.aload_n 1, 1) := by decide +kernel
theorem dL_updates_207 : decode cL_updates 207 = .ok (.iload 8, 2) := by decide +kernel
theorem dL_updates_209 : decode cL_updates 209 = .ok (.iconst 0, 1) := by decide +kernel
theorem dL_updates_210 : decode cL_updates 210 = .ok (.invokestatic 33, 3) := by decide +kernel
theorem dL_updates_213 : decode cL_updates 213 = .ok (.aload_n 1, 1) := by decide +kernel
theorem dL_updates_214 : decode cL_updates 214 = .ok (.aload_n 2, 1) := by decide +kernel
theorem dL_updates_215 : decode cL_updates 215 = .ok (.aload_n 3, 1) := by decide +kernel
theorem dL_updates_216 : decode cL_updates 216 = .ok (.aload 4, 2) := by decide +kernel
theorem dL_updates_218 : decode cL_updates 218 = .ok (.invokestatic 58, 3) := by decide +kernel
theorem dL_updates_221 : decode cL_updates 221 = .ok (.iconst 1, 1) := by decide +kernel
theorem dL_updates_222 : decode cL_updates 222 = .ok (.if_icmp .ne 7, 3) := by decide +kernel
theorem dL_updates_225 : decode cL_updates 225 = .ok (.iconst 1, 1) := by decide +kernel
theorem dL_updates_226 : decode cL_updates 226 = .ok (.goto 4, 3) := by decide +kernel
theorem dL_updates_229 : decode cL_updates 229 = .ok (.iconst 0, 1) := by decide +kernel
theorem dL_updates_230 : decode cL_updates 230 = .ok (.istore 13, 2) := by decide +kernel
theorem dL_updates_232 : decode cL_updates 232 = .ok (.aload_n 0, 1) := by decide +kernel
theorem dL_updates_233 : decode cL_updates 233 = .ok (.iload 9, 2) := by decide +kernel
theorem dL_updates_235 : decode cL_updates 235 = .ok (.iload 10, 2) := by decide +kernel
theorem dL_updates_237 : decode cL_updates 237 = .ok (.iload 10, 2) := by decide +kernel
theorem dL_updates_239 : decode cL_updates 239 = .ok (.iload 6, 2) := by decide +kernel
theorem dL_updates_241 : decode cL_updates 241 = .ok (.invokestatic 94, 3) := by decide +kernel
theorem dL_updates_244 : decode cL_updates 244 = .ok (.iload 11, 2) := by decide +kernel
theorem dL_updates_246 : decode cL_updates 246 = .ok (.invokestatic 97, 3) := by decide +kernel
theorem dL_updates_249 : decode cL_updates 249 = .ok (.iload 12, 2) := by decide +kernel
theorem dL_updates_251 : decode cL_updates 251 = .ok (.ifCond .ne 8, 3) := by decide +kernel
theorem dL_updates_254 : decode cL_updates 254 = .ok (.bipush (-2), 2) := by decide +kernel
theorem dL_updates_256 : decode cL_updates 256 = .ok (.goto 13, 3) := by decide +kernel
theorem dL_updates_259 : decode cL_updates 259 = .ok (.iload 13, 2) := by decide +kernel
theorem dL_updates_261 : decode cL_updates 261 = .ok (.ifCond .eq 7, 3) := by decide +kernel
theorem dL_updates_264 : decode cL_updates 264 = .ok (.iconst 1, 1) := by decide +kernel
theorem dL_updates_265 : decode cL_updates 265 = .ok (.goto 4, 3) := by decide +kernel
theorem dL_updates_268 : decode cL_updates 268 = .ok (.iconst 0, 1) := by decide +kernel
theorem dL_updates_269 : decode cL_updates 269 = .ok (.if_icmp .ne 7, 3) := by decide +kernel
theorem dL_updates_272 : decode cL_updates 272 = .ok (.iconst 1, 1) := by decide +kernel
theorem dL_updates_273 : decode cL_updates 273 = .ok (.goto 4, 3) := by decide +kernel
theorem dL_updates_276 : decode cL_updates 276 = .ok (.iconst 0, 1) := by decide +kernel
theorem dL_updates_277 : decode cL_updates 277 = .ok (.ireturn, 1) := by decide +kernel
theorem dL_updates_278 : decode cL_updates 278 = .ok (.iload 5, 2) := by decide +kernel
theorem dL_updates_280 : decode cL_updates 280 = .ok (.bipush 7, 2) := by decide +kernel
theorem dL_updates_282 : decode cL_updates 282 = .ok (.if_icmp .ge 144, 3) := by decide +kernel
theorem dL_updates_285 : decode cL_updates 285 = .ok (.aload 4, 2) := by decide +kernel
theorem dL_updates_287 : decode cL_updates 287 = .ok (.iconst 3, 1) := by decide +kernel
theorem dL_updates_288 : decode cL_updates 288 = .ok (.iaload, 1) := by decide +kernel
theorem dL_updates_289 : decode cL_updates 289 = .ok (.ifCond .lt 18, 3) := by decide +kernel
theorem dL_updates_292 : decode cL_updates 292 = .ok (.aload 4, 2) := by decide +kernel
theorem dL_updates_294 : decode cL_updates 294 = .ok (.iconst 3, 1) := by decide +kernel
