theorem dL_isTold_140 : decode cL_isTold 140 = .ok (.iload 4, 2) := by decide +kernel
theorem dL_isTold_142 : decode cL_isTold 142 = .ok (.iconst 2, 1) := by decide +kernel
theorem dL_isTold_143 : decode cL_isTold 143 = .ok (.iadd, 1) := by decide +kernel
theorem dL_isTold_144 : decode cL_isTold 144 = .ok (.iaload, 1) := by decide +kernel
theorem dL_isTold_145 : decode cL_isTold 145 = .ok (.iconst 2, 1) := by decide +kernel
theorem dL_isTold_146 : decode cL_isTold 146 = .ok (.ishr, 1) := by decide +kernel
theorem dL_isTold_147 : decode cL_isTold 147 = .ok (.goto 4, 3) := by decide +kernel
theorem dL_isTold_150 : decode cL_isTold 150 = .ok (.iconst 0, 1) := by decide +kernel
theorem dL_isTold_151 : decode cL_isTold 151 = .ok (.if_icmp .ne 32, 3) := by decide +kernel
theorem dL_isTold_154 : decode cL_isTold 154 = .ok (.aload_n 0, 1) := by decide +kernel
theorem dL_isTold_155 : decode cL_isTold 155 = .ok (.invokevirtual 141, 3) := by decide +kernel
theorem dL_isTold_158 : decode cL_isTold 158 = .ok (.aload_n 2, 1) := by decide +kernel
theorem dL_isTold_159 : decode cL_isTold 159 = .ok (.iload 4, 2) := by decide +kernel
theorem dL_isTold_161 : decode cL_isTold 161 = .ok (.iconst 3, 1) := by decide +kernel
theorem dL_isTold_162 : decode cL_isTold 162 = .ok (.iadd, 1) := by decide +kernel
theorem dL_isTold_163 : decode cL_isTold 163 = .ok (.iaload, 1) := by decide +kernel
theorem dL_isTold_164 : decode cL_isTold 164 = .ok (.if_icmp .ne 19, 3) := by decide +kernel
theorem dL_isTold_167 : decode cL_isTold 167 = .ok (.aload_n 0, 1) := by decide +kernel
theorem dL_isTold_168 : decode cL_isTold 168 = .ok (.invokevirtual 144, 3) := by decide +kernel
theorem dL_isTold_171 : decode cL_isTold 171 = .ok (.aload_n 1, 1) := by decide +kernel
theorem dL_isTold_172 : decode cL_isTold 172 = .ok (.aload_n 2, 1) := by decide +kernel
theorem dL_isTold_173 : decode cL_isTold 173 = .ok (.invokestatic 46, 3) := by decide +kernel
theorem dL_isTold_176 : decode cL_isTold 176 = .ok (.if_icmp .ne 7, 3) := by decide +kernel
theorem dL_isTold_179 : decode cL_isTold 179 = .ok (.iconst 1, 1) := by decide +kernel
theorem dL_isTold_180 : decode cL_isTold 180 = .ok (.goto 4, 3) := by decide +kernel
theorem dL_isTold_183 : decode cL_isTold 183 = .ok (.iconst 0, 1) := by decide +kernel
theorem dL_isTold_184 : decode cL_isTold 184 = .ok (.istore 5, 2) := by decide +kernel
theorem dL_isTold_186 : decode cL_isTold 186 = .ok (.iconst 0, 1) := by decide +kernel
theorem dL_isTold_187 : decode cL_isTold 187 = .ok (.istore 6, 2) := by decide +kernel
theorem dL_isTold_189 : decode cL_isTold 189 = .ok (.iload 6, 2) := by decide +kernel
theorem dL_isTold_191 : decode cL_isTold 191 = .ok (.iconst 2, 1) := by decide +kernel
theorem dL_isTold_192 : decode cL_isTold 192 = .ok (.if_icmp .ge 120, 3) := by decide +kernel
theorem dL_isTold_195 : decode cL_isTold 195 = .ok (.iload 5, 2) := by decide +kernel
theorem dL_isTold_197 : decode cL_isTold 197 = .ok (.ifCond .eq 115, 3) := by decide +kernel
theorem dL_isTold_200 : decode cL_isTold 200 = .ok (.aload_n 0, 1) := by decide +kernel
theorem dL_isTold_201 : decode cL_isTold 201 = .ok (.iload 6, 2) := by decide +kernel
theorem dL_isTold_203 : decode cL_isTold 203 = .ok (.invokevirtual 147, 3) := by decide +kernel
theorem dL_isTold_206 : decode cL_isTold 206 = .ok (.aload_n 2, 1) := by decide +kernel
theorem dL_isTold_207 : decode cL_isTold 207 = .ok (.iload 6, 2) := by decide +kernel
theorem dL_isTold_209 : decode cL_isTold 209 = .ok (.invokestatic 25, 3) := by decide +kernel
theorem dL_isTold_212 : decode cL_isTold 212 = .ok (.if_icmp .ne 40, 3) := by decide +kernel
theorem dL_isTold_215 : decode cL_isTold 215 = .ok (.aload_n 0, 1) := by decide +kernel
theorem dL_isTold_216 : decode cL_isTold 216 = .ok (.iload 6, 2) := by decide +kernel
theorem dL_isTold_218 : decode cL_isTold 218 = .ok (.invokevirtual 149, 3) := by decide +kernel
theorem dL_isTold_221 : decode cL_isTold 221 = .ok (.aload_n 1, 1) := by decide +kernel
theorem dL_isTold_222 : decode cL_isTold 222 = .ok (.iload 6, 2) := by decide +kernel
theorem dL_isTold_224 : decode cL_isTold 224 = .ok (.invokestatic 37, 3) := by decide +kernel
theorem dL_isTold_227 : decode cL_isTold 227 = .ok (.if_icmp .ne 25, 3) := by decide +kernel
theorem dL_isTold_230 : decode cL_isTold 230 = .ok (.aload_n 0, 1) := by decide +kernel
theorem dL_isTold_231 : decode cL_isTold 231 = .ok (.iload 6, 2) := by decide +kernel
theorem dL_isTold_233 : decode cL_isTold 233 = .ok (.invokevirtual 152, 3) := by decide +kernel
theorem dL_isTold_236 : decode cL_isTold 236 = .ok (.aload_n 1, 1) := by decide +kernel
theorem dL_isTold_237 : decode cL_isTold 237 = .ok (.bipush 32, 2) := by decide +kernel
theorem dL_isTold_239 : decode cL_isTold 239 = .ok (.iload 6, 2) := by decide +kernel
theorem dL_isTold_241 : decode cL_isTold 241 = .ok (.imul, 1) := by decide +kernel
theorem dL_isTold_242 : decode cL_isTold 242 = .ok (.iconst 1, 1) := by decide +kernel
theorem dL_isTold_243 : decode cL_isTold 243 = .ok (.iadd, 1) := by decide +kernel
theorem dL_isTold_244 : decode cL_isTold 244 = .ok (.iaload, 1) := by decide +kernel
theorem dL_isTold_245 : decode cL_isTold 245 = .ok (.if_icmp .ne 7, 3) := by decide +kernel
theorem dL_isTold_248 : decode cL_isTold 248 = .ok (.iconst 1, 1) := by decide +kernel
theorem dL_isTold_249 : decode cL_isTold 249 = .ok (.goto 4, 3) := by decide +kernel
theorem dL_isTold_252 : decode cL_isTold 252 = .ok (.iconst 0, 1) := by decide +kernel
theorem dL_isTold_253 : decode cL_isTold 253 = .ok (.istore 5, 2) := by decide +kernel
theorem dL_isTold_255 : decode cL_isTold 255 = .ok (.iconst 0, 1) := by decide +kernel
theorem dL_isTold_256 : decode cL_isTold 256 = .ok (.istore 7, 2) := by decide +kernel
theorem dL_isTold_258 : decode cL_isTold 258 = .ok (.iload 7, 2) := by decide +kernel
theorem dL_isTold_260 : decode cL_isTold 260 = .ok (.bipush 24, 2) := by decide +kernel
theorem dL_isTold_262 : decode cL_isTold 262 = .ok (.if_icmp .ge 44, 3) := by decide +kernel
theorem dL_isTold_265 : decode cL_isTold 265 = .ok (.iload 5, 2) := by decide +kernel
theorem dL_isTold_267 : decode cL_isTold 267 = .ok (.ifCond .eq 39, 3) := by decide +kernel
theorem dL_isTold_270 : decode cL_isTold 270 = .ok (.aload_n 0, 1) := by decide +kernel
theorem dL_isTold_271 : decode cL_isTold 271 = .ok (.iload 6, 2) := by decide +kernel
theorem dL_isTold_273 : decode cL_isTold 273 = .ok (.iload 7, 2) := by decide +kernel
theorem dL_isTold_275 : decode cL_isTold 275 = .ok (.invokevirtual 155, 3) := by decide +kernel
theorem dL_isTold_278 : decode cL_isTold 278 = .ok (.aload_n 1, 1) := by decide +kernel
theorem dL_isTold_279 : decode cL_isTold 279 = .ok (.bipush 32, 2) := by decide +kernel
theorem dL_isTold_281 : decode cL_isTold 281 = .ok (.iload 6, 2) := by decide +kernel
theorem dL_isTold_283 : decode cL_isTold 283 = .ok (.imul, 1) := by decide +kernel
theorem dL_isTold_284 : decode cL_isTold 284 = .ok (.iconst 5, 1) := by decide +kernel
theorem dL_isTold_285 : decode cL_isTold 285 = .ok (.iadd, 1) := by decide +kernel
theorem dL_isTold_286 : decode cL_isTold 286 = .ok (.iload 7, 2) := by decide +kernel
theorem dL_isTold_288 : decode cL_isTold 288 = .ok (.iadd, 1) := by decide +kernel
theorem dL_isTold_289 : decode cL_isTold 289 = .ok (.iaload, 1) := by decide +kernel
theorem dL_isTold_290 : decode cL_isTold 290 = .ok (.if_icmp .ne 7, 3) := by decide +kernel
theorem dL_isTold_293 : decode cL_isTold 293 = .ok (.iconst 1, 1) := by decide +kernel
theorem dL_isTold_294 : decode cL_isTold 294 = .ok (.goto 4, 3) := by decide +kernel
theorem dL_isTold_297 : decode cL_isTold 297 = .ok (.iconst 0, 1) := by decide +kernel
theorem dL_isTold_298 : decode cL_isTold 298 = .ok (.istore 5, 2) := by decide +kernel
theorem dL_isTold_300 : decode cL_isTold 300 = .ok (.iinc 7 1, 3) := by decide +kernel
theorem dL_isTold_303 : decode cL_isTold 303 = .ok (.goto (-45), 3) := by decide +kernel
theorem dL_isTold_306 : decode cL_isTold 306 = .ok (.iinc 6 1, 3) := by decide +kernel
theorem dL_isTold_309 : decode cL_isTold 309 = .ok (.goto (-120), 3) := by decide +kernel
theorem dL_isTold_312 : decode cL_isTold 312 = .ok (.iload 5, 2) := by decide +kernel
theorem dL_isTold_314 : decode cL_isTold 314 = .ok (.ifCond .eq 22, 3) := by decide +kernel
theorem dL_isTold_317 : decode cL_isTold 317 = .ok (.aload_n 1, 1) := by decide +kernel
theorem dL_isTold_318 : decode cL_isTold 318 = .ok (.aload_n 2, 1) := by decide +kernel
theorem dL_isTold_319 : decode cL_isTold 319 = .ok (.iload 4, 2) := by decide +kernel
theorem dL_isTold_321 : decode cL_isTold 321 = .ok (.iconst 2, 1) := by decide +kernel
theorem dL_isTold_322 : decode cL_isTold 322 = .ok (.iadd, 1) := by decide +kernel
theorem dL_isTold_323 : decode cL_isTold 323 = .ok (.iaload, 1) := by decide +kernel
theorem dL_isTold_324 : decode cL_isTold 324 = .ok (.iconst 1, 1) := by decide +kernel
theorem dL_isTold_325 : decode cL_isTold 325 = .ok (.iand, 1) := by decide +kernel
theorem dL_isTold_326 : decode cL_isTold 326 = .ok (.invokestatic 37, 3) := by decide +kernel
theorem dL_isTold_329 : decode cL_isTold 329 = .ok (.ifCond .eq 7, 3) := by decide +kernel
theorem dL_isTold_332 : decode cL_isTold 332 = .ok (.iconst 1, 1) := by decide +kernel
theorem dL_isTold_333 : decode cL_isTold 333 = .ok (.goto 4, 3) := by decide +kernel
theorem dL_isTold_336 : decode cL_isTold 336 = .ok (.iconst 0, 1) := by decide +kernel
theorem dL_isTold_337 : decode cL_isTold 337 = .ok (.ireturn, 1) := by decide +kernel
theorem dL_isDelta_0 : decode cL_isDelta 0 = .ok (.bipush 24, 2) := by decide +kernel
theorem dL_isDelta_2 : decode cL_isDelta 2 = .ok (.newarray .int, 2) := by decide +kernel
theorem dL_isDelta_4 : decode cL_isDelta 4 = .ok (.astore 4, 2) := by decide +kernel
theorem dL_isDelta_6 : decode cL_isDelta 6 = .ok (.iconst 1, 1) := by decide +kernel
theorem dL_isDelta_7 : decode cL_isDelta 7 = .ok (.iload_n 3, 1) := by decide +kernel
theorem dL_isDelta_8 : decode cL_isDelta 8 = .ok (.bipush 24, 2) := by decide +kernel
theorem dL_isDelta_10 : decode cL_isDelta 10 = .ok (.irem, 1) := by decide +kernel
theorem dL_isDelta_11 : decode cL_isDelta 11 = .ok (.iadd, 1) := by decide +kernel
theorem dL_isDelta_12 : decode cL_isDelta 12 = .ok (.istore 5, 2) := by decide +kernel
theorem dL_isDelta_14 : decode cL_isDelta 14 = .ok (.aload_n 0, 1) := by decide +kernel
theorem dL_isDelta_15 : decode cL_isDelta 15 = .ok (.invokevirtual 158, 3) := by decide +kernel
theorem dL_isDelta_18 : decode cL_isDelta 18 = .ok (.ifCond .lt 7, 3) := by decide +kernel
theorem dL_isDelta_21 : decode cL_isDelta 21 = .ok (.iconst 1, 1) := by decide +kernel
theorem dL_isDelta_22 : decode cL_isDelta 22 = .ok (.goto 4, 3) := by decide +kernel
theorem dL_isDelta_25 : decode cL_isDelta 25 = .ok (.iconst 0, 1) := by decide +kernel
theorem dL_isDelta_26 : decode cL_isDelta 26 = .ok (.istore 6, 2) := by decide +kernel
theorem dL_isDelta_28 : decode cL_isDelta 28 = .ok (.ldc2_w 9, 3) := by decide +kernel
theorem dL_isDelta_31 : decode cL_isDelta 31 = .ok (.lstore 7, 2) := by decide +kernel
theorem dL_isDelta_33 : decode cL_isDelta 33 = .ok (.iconst 0, 1) := by decide +kernel
theorem dL_isDelta_34 : decode cL_isDelta 34 = .ok (.istore 9, 2) := by decide +kernel
theorem dL_isDelta_36 : decode cL_isDelta 36 = .ok (.iload 9, 2) := by decide +kernel
theorem dL_isDelta_38 : decode cL_isDelta 38 = .ok (.iload 5, 2) := by decide +kernel
theorem dL_isDelta_40 : decode cL_isDelta 40 = .ok (.if_icmp .ge 105, 3) := by decide +kernel
theorem dL_isDelta_43 : decode cL_isDelta 43 = .ok (.iload 6, 2) := by decide +kernel
theorem dL_isDelta_45 : decode cL_isDelta 45 = .ok (.ifCond .eq 100, 3) := by decide +kernel
theorem dL_isDelta_48 : decode cL_isDelta 48 = .ok (.aload 4, 2) := by decide +kernel
theorem dL_isDelta_50 : decode cL_isDelta 50 = .ok (.iload 9, 2) := by decide +kernel
theorem dL_isDelta_52 : decode cL_isDelta 52 = .ok (.iload_n 3, 1) := by decide +kernel
theorem dL_isDelta_53 : decode cL_isDelta 53 = .ok (.bipush 24, 2) := by decide +kernel
theorem dL_isDelta_55 : decode cL_isDelta 55 = .ok (.idiv, 1) := by decide +kernel
theorem dL_isDelta_56 : decode cL_isDelta 56 = .ok (.iload 9, 2) := by decide +kernel
theorem dL_isDelta_58 : decode cL_isDelta 58 = .ok (.bipush 7, 2) := by decide +kernel
theorem dL_isDelta_60 : decode cL_isDelta 60 = .ok (.irem, 1) := by decide +kernel
theorem dL_isDelta_61 : decode cL_isDelta 61 = .ok (.ishr, 1) := by decide +kernel
theorem dL_isDelta_62 : decode cL_isDelta 62 = .ok (.iconst 1, 1) := by decide +kernel
theorem dL_isDelta_63 : decode cL_isDelta 63 = .ok (.iand, 1) := by decide +kernel
theorem dL_isDelta_64 : decode cL_isDelta 64 = .ok (.iconst 1, 1) := by decide +kernel
theorem dL_isDelta_65 : decode cL_isDelta 65 = .ok (.if_icmp .ne 13, 3) := by decide +kernel
theorem dL_isDelta_68 : decode cL_isDelta 68 = .ok (.iconst 1, 1) := by decide +kernel
theorem dL_isDelta_69 : decode cL_isDelta 69 = .ok (.iload 9, 2) := by decide +kernel
theorem dL_isDelta_71 : decode cL_isDelta 71 = .ok (.bipush 9, 2) := by decide +kernel
theorem dL_isDelta_73 : decode cL_isDelta 73 = .ok (.irem, 1) := by decide +kernel
theorem dL_isDelta_74 : decode cL_isDelta 74 = .ok (.iadd, 1) := by decide +kernel
theorem dL_isDelta_75 : decode cL_isDelta 75 = .ok (.goto 19, 3) := by decide +kernel
theorem dL_isDelta_78 : decode cL_isDelta 78 = .ok (.aload_n 1, 1) := by decide +kernel
theorem dL_isDelta_79 : decode cL_isDelta 79 = .ok (.bipush 32, 2) := by decide +kernel
theorem dL_isDelta_81 : decode cL_isDelta 81 = .ok (.iload_n 2, 1) := by decide +kernel
theorem dL_isDelta_82 : decode cL_isDelta 82 = .ok (.imul, 1) := by decide +kernel
theorem dL_isDelta_83 : decode cL_isDelta 83 = .ok (.iconst 5, 1) := by decide +kernel
theorem dL_isDelta_84 : decode cL_isDelta 84 = .ok (.iadd, 1) := by decide +kernel
theorem dL_isDelta_85 : decode cL_isDelta 85 = .ok (.iload 9, 2) := by decide +kernel
theorem dL_isDelta_87 : decode cL_isDelta 87 = .ok (.iload_n 3, 1) := by decide +kernel
theorem dL_isDelta_88 : decode cL_isDelta 88 = .ok (.iadd, 1) := by decide +kernel
theorem dL_isDelta_89 : decode cL_isDelta 89 = .ok (.bipush 8, 2) := by decide +kernel
theorem dL_isDelta_91 : decode cL_isDelta 91 = .ok (.irem, 1) := by decide +kernel
theorem dL_isDelta_92 : decode cL_isDelta 92 = .ok (.iadd, 1) := by decide +kernel
theorem dL_isDelta_93 : decode cL_isDelta 93 = .ok (.iaload, 1) := by decide +kernel
theorem dL_isDelta_94 : decode cL_isDelta 94 = .ok (.iastore, 1) := by decide +kernel
theorem dL_isDelta_95 : decode cL_isDelta 95 = .ok (.aload_n 0, 1) := by decide +kernel
theorem dL_isDelta_96 : decode cL_isDelta 96 = .ok (.aload 4, 2) := by decide +kernel
theorem dL_isDelta_98 : decode cL_isDelta 98 = .ok (.iload 9, 2) := by decide +kernel
theorem dL_isDelta_100 : decode cL_isDelta 100 = .ok (.iaload, 1) := by decide +kernel
theorem dL_isDelta_101 : decode cL_isDelta 101 = .ok (.invokevirtual 161, 3) := by decide +kernel
theorem dL_isDelta_104 : decode cL_isDelta 104 = .ok (.iload 9, 2) := by decide +kernel
theorem dL_isDelta_106 : decode cL_isDelta 106 = .ok (.iconst 1, 1) := by decide +kernel
theorem dL_isDelta_107 : decode cL_isDelta 107 = .ok (.iadd, 1) := by decide +kernel
theorem dL_isDelta_108 : decode cL_isDelta 108 = .ok (.if_icmp .ne 7, 3) := by decide +kernel
theorem dL_isDelta_111 : decode cL_isDelta 111 = .ok (.iconst 1, 1) := by decide +kernel
theorem dL_isDelta_112 : decode cL_isDelta 112 = .ok (.goto 4, 3) := by decide +kernel
theorem dL_isDelta_115 : decode cL_isDelta 115 = .ok (.iconst 0, 1) := by decide +kernel
theorem dL_isDelta_116 : decode cL_isDelta 116 = .ok (.istore 6, 2) := by decide +kernel
theorem dL_isDelta_118 : decode cL_isDelta 118 = .ok (.ldc2_w 11, 3) := by decide +kernel
theorem dL_isDelta_121 : decode cL_isDelta 121 = .ok (.lload 7, 2) := by decide +kernel
theorem dL_isDelta_123 : decode cL_isDelta 123 = .ok (.lmul, 1) := by decide +kernel
theorem dL_isDelta_124 : decode cL_isDelta 124 = .ok (.aload 4, 2) := by decide +kernel
theorem dL_isDelta_126 : decode cL_isDelta 126 = .ok (.iload 9, 2) := by decide +kernel
theorem dL_isDelta_128 : decode cL_isDelta 128 = .ok (.iaload, 1) := by decide +kernel
theorem dL_isDelta_129 : decode cL_isDelta 129 = .ok (.i2l, 1) := by decide +kernel
theorem dL_isDelta_130 : decode cL_isDelta 130 = .ok (.ladd, 1) := by decide +kernel
theorem dL_isDelta_131 : decode cL_isDelta 131 = .ok (.lconst 1, 1) := by decide +kernel
theorem dL_isDelta_132 : decode cL_isDelta 132 = .ok (.ladd, 1) := by decide +kernel
theorem dL_isDelta_133 : decode cL_isDelta 133 = .ok (.ldc2_w 13, 3) := by decide +kernel
theorem dL_isDelta_136 : decode cL_isDelta 136 = .ok (.lrem, 1) := by decide +kernel
theorem dL_isDelta_137 : decode cL_isDelta 137 = .ok (.lstore 7, 2) := by decide +kernel
theorem dL_isDelta_139 : decode cL_isDelta 139 = .ok (.iinc 9 1, 3) := by decide +kernel
theorem dL_isDelta_142 : decode cL_isDelta 142 = .ok (.goto (-106), 3) := by decide +kernel
theorem dL_isDelta_145 : decode cL_isDelta 145 = .ok (.iconst 0, 1) := by decide +kernel
theorem dL_isDelta_146 : decode cL_isDelta 146 = .ok (.istore 9, 2) := by decide +kernel
theorem dL_isDelta_148 : decode cL_isDelta 148 = .ok (.iconst 0, 1) := by decide +kernel
theorem dL_isDelta_149 : decode cL_isDelta 149 = .ok (.istore 10, 2) := by decide +kernel
theorem dL_isDelta_151 : decode cL_isDelta 151 = .ok (.iload 10, 2) := by decide +kernel
theorem dL_isDelta_153 : decode cL_isDelta 153 = .ok (.iload 5, 2) := by decide +kernel
theorem dL_isDelta_155 : decode cL_isDelta 155 = .ok (.if_icmp .ge 189, 3) := by decide +kernel
theorem dL_isDelta_158 : decode cL_isDelta 158 = .ok (.iload 6, 2) := by decide +kernel
theorem dL_isDelta_160 : decode cL_isDelta 160 = .ok (.ifCond .eq 184, 3) := by decide +kernel
theorem dL_isDelta_163 : decode cL_isDelta 163 = .ok (.iconst (-1), 1) := by decide +kernel
theorem dL_isDelta_164 : decode cL_isDelta 164 = .ok (.istore 11, 2) := by decide +kernel
theorem dL_isDelta_166 : decode cL_isDelta 166 = .ok (.iconst 1, 1) := by decide +kernel
theorem dL_isDelta_167 : decode cL_isDelta 167 = .ok (.istore 12, 2) := by decide +kernel
theorem dL_isDelta_169 : decode cL_isDelta 169 = .ok (.iconst 2, 1) := by decide +kernel
theorem dL_isDelta_170 : decode cL_isDelta 170 = .ok (.istore 13, 2) := by decide +kernel
theorem dL_isDelta_172 : decode cL_isDelta 172 = .ok (.iload 10, 2) := by decide +kernel
theorem dL_isDelta_174 : decode cL_isDelta 174 = .ok (.iload 13, 2) := by decide +kernel
theorem dL_isDelta_176 : decode cL_isDelta 176 = .ok (.iadd, 1) := by decide +kernel
theorem dL_isDelta_177 : decode cL_isDelta 177 = .ok (.iload 5, 2) := by decide +kernel
theorem dL_isDelta_179 : decode cL_isDelta 179 = .ok (.if_icmp .gt 121, 3) := by decide +kernel
theorem dL_isDelta_182 : decode cL_isDelta 182 = .ok (.iconst (-1), 1) := by decide +kernel
theorem dL_isDelta_183 : decode cL_isDelta 183 = .ok (.istore 14, 2) := by decide +kernel
theorem dL_isDelta_185 : decode cL_isDelta 185 = .ok (.aload_n 1, 1) := by decide +kernel
theorem dL_isDelta_186 : decode cL_isDelta 186 = .ok (.bipush 32, 2) := by decide +kernel
theorem dL_isDelta_188 : decode cL_isDelta 188 = .ok (.iload_n 2, 1) := by decide +kernel
theorem dL_isDelta_189 : decode cL_isDelta 189 = .ok (.imul, 1) := by decide +kernel
theorem dL_isDelta_190 : decode cL_isDelta 190 = .ok (.iconst 2, 1) := by decide +kernel
theorem dL_isDelta_191 : decode cL_isDelta 191 = .ok (.iadd, 1) := by decide +kernel
theorem dL_isDelta_192 : decode cL_isDelta 192 = .ok (.iaload, 1) := by decide +kernel
theorem dL_isDelta_193 : decode cL_isDelta 193 = .ok (.iload 13, 2) := by decide +kernel
theorem dL_isDelta_195 : decode cL_isDelta 195 = .ok (.isub, 1) := by decide +kernel
theorem dL_isDelta_196 : decode cL_isDelta 196 = .ok (.istore 15, 2) := by decide +kernel
theorem dL_isDelta_198 : decode cL_isDelta 198 = .ok (.iload 15, 2) := by decide +kernel
theorem dL_isDelta_200 : decode cL_isDelta 200 = .ok (.ifCond .lt 66, 3) := by decide +kernel
theorem dL_isDelta_203 : decode cL_isDelta 203 = .ok (.iconst 0, 1) := by decide +kernel
theorem dL_isDelta_204 : decode cL_isDelta 204 = .ok (.istore 16, 2) := by decide +kernel
theorem dL_isDelta_206 : decode cL_isDelta 206 = .ok (.iload 16, 2) := by decide +kernel
theorem dL_isDelta_208 : decode cL_isDelta 208 = .ok (.iload 13, 2) := by decide +kernel
theorem dL_isDelta_210 : decode cL_isDelta 210 = .ok (.if_icmp .ge 34, 3) := by decide +kernel
theorem dL_isDelta_213 : decode cL_isDelta 213 = .ok (.aload 4, 2) := by decide +kernel
theorem dL_isDelta_215 : decode cL_isDelta 215 = .ok (.iload 10, 2) := by decide +kernel
theorem dL_isDelta_217 : decode cL_isDelta 217 = .ok (.iload 16, 2) := by decide +kernel
theorem dL_isDelta_219 : decode cL_isDelta 219 = .ok (.iadd, 1) := by decide +kernel
theorem dL_isDelta_220 : decode cL_isDelta 220 = .ok (.iaload, 1) := by decide +kernel
theorem dL_isDelta_221 : decode cL_isDelta 221 = .ok (.aload_n 1, 1) := by decide +kernel
theorem dL_isDelta_222 : decode cL_isDelta 222 = .ok (.bipush 32, 2) := by decide +kernel
theorem dL_isDelta_224 : decode cL_isDelta 224 = .ok (.iload_n 2, 1) := by decide +kernel
theorem dL_isDelta_225 : decode cL_isDelta 225 = .ok (.imul, 1) := by decide +kernel
theorem dL_isDelta_226 : decode cL_isDelta 226 = .ok (.iconst 5, 1) := by decide +kernel
theorem dL_isDelta_227 : decode cL_isDelta 227 = .ok (.iadd, 1) := by decide +kernel
theorem dL_isDelta_228 : decode cL_isDelta 228 = .ok (.iload 15, 2) := by decide +kernel
theorem dL_isDelta_230 : decode cL_isDelta 230 = .ok (.iadd, 1) := by decide +kernel
theorem dL_isDelta_231 : decode cL_isDelta 231 = .ok (.iload 16, 2) := by decide +kernel
theorem dL_isDelta_233 : decode cL_isDelta 233 = .ok (.iadd, 1) := by decide +kernel
theorem dL_isDelta_234 : decode cL_isDelta 234 = .ok (.iaload, 1) := by decide +kernel
theorem dL_isDelta_235 : decode cL_isDelta 235 = .ok (.if_icmp .ne 9, 3) := by decide +kernel
theorem dL_isDelta_238 : decode cL_isDelta 238 = .ok (.iinc 16 1, 3) := by decide +kernel
theorem dL_isDelta_241 : decode cL_isDelta 241 = .ok (.goto (-35), 3) := by decide +kernel
theorem dL_isDelta_244 : decode cL_isDelta 244 = .ok (.iload 16, 2) := by decide +kernel
theorem dL_isDelta_246 : decode cL_isDelta 246 = .ok (.iload 13, 2) := by decide +kernel
theorem dL_isDelta_248 : decode cL_isDelta 248 = .ok (.if_icmp .ne 8, 3) := by decide +kernel
theorem dL_isDelta_251 : decode cL_isDelta 251 = .ok (.iload 15, 2) := by decide +kernel
theorem dL_isDelta_253 : decode cL_isDelta 253 = .ok (.goto 5, 3) := by decide +kernel
theorem dL_isDelta_256 : decode cL_isDelta 256 = .ok (.iload 14, 2) := by decide +kernel
theorem dL_isDelta_258 : decode cL_isDelta 258 = .ok (.istore 14, 2) := by decide +kernel
theorem dL_isDelta_260 : decode cL_isDelta 260 = .ok (.iinc 15 (-1), 3) := by decide +kernel
