theorem dL_isDelta_263 : decode cL_isDelta 263 = .ok (.goto (-65), 3) := by decide +kernel
theorem dL_isDelta_266 : decode cL_isDelta 266 = .ok (.iload 14, 2) := by decide +kernel
theorem dL_isDelta_268 : decode cL_isDelta 268 = .ok (.ifCond .lt 8, 3) := by decide +kernel
theorem dL_isDelta_271 : decode cL_isDelta 271 = .ok (.iload 14, 2) := by decide +kernel
theorem dL_isDelta_273 : decode cL_isDelta 273 = .ok (.goto 5, 3) := by decide +kernel
theorem dL_isDelta_276 : decode cL_isDelta 276 = .ok (.iload 11, 2) := by decide +kernel
theorem dL_isDelta_278 : decode cL_isDelta 278 = .ok (.istore 11, 2) := by decide +kernel
theorem dL_isDelta_280 : decode cL_isDelta 280 = .ok (.iload 14, 2) := by decide +kernel
theorem dL_isDelta_282 : decode cL_isDelta 282 = .ok (.ifCond .lt 8, 3) := by decide +kernel
theorem dL_isDelta_285 : decode cL_isDelta 285 = .ok (.iload 13, 2) := by decide +kernel
theorem dL_isDelta_287 : decode cL_isDelta 287 = .ok (.goto 5, 3) := by decide +kernel
theorem dL_isDelta_290 : decode cL_isDelta 290 = .ok (.iload 12, 2) := by decide +kernel
theorem dL_isDelta_292 : decode cL_isDelta 292 = .ok (.istore 12, 2) := by decide +kernel
theorem dL_isDelta_294 : decode cL_isDelta 294 = .ok (.iinc 13 1, 3) := by decide +kernel
theorem dL_isDelta_297 : decode cL_isDelta 297 = .ok (.goto (-125), 3) := by decide +kernel
theorem dL_isDelta_300 : decode cL_isDelta 300 = .ok (.aload_n 0, 1) := by decide +kernel
theorem dL_isDelta_301 : decode cL_isDelta 301 = .ok (.iload_n 2, 1) := by decide +kernel
theorem dL_isDelta_302 : decode cL_isDelta 302 = .ok (.iload 9, 2) := by decide +kernel
theorem dL_isDelta_304 : decode cL_isDelta 304 = .ok (.invokevirtual 164, 3) := by decide +kernel
theorem dL_isDelta_307 : decode cL_isDelta 307 = .ok (.iload 12, 2) := by decide +kernel
theorem dL_isDelta_309 : decode cL_isDelta 309 = .ok (.if_icmp .ne 19, 3) := by decide +kernel
theorem dL_isDelta_312 : decode cL_isDelta 312 = .ok (.aload_n 0, 1) := by decide +kernel
theorem dL_isDelta_313 : decode cL_isDelta 313 = .ok (.iload_n 2, 1) := by decide +kernel
theorem dL_isDelta_314 : decode cL_isDelta 314 = .ok (.iload 9, 2) := by decide +kernel
theorem dL_isDelta_316 : decode cL_isDelta 316 = .ok (.invokevirtual 167, 3) := by decide +kernel
theorem dL_isDelta_319 : decode cL_isDelta 319 = .ok (.iload 11, 2) := by decide +kernel
theorem dL_isDelta_321 : decode cL_isDelta 321 = .ok (.if_icmp .ne 7, 3) := by decide +kernel
theorem dL_isDelta_324 : decode cL_isDelta 324 = .ok (.iconst 1, 1) := by decide +kernel
theorem dL_isDelta_325 : decode cL_isDelta 325 = .ok (.goto 4, 3) := by decide +kernel
theorem dL_isDelta_328 : decode cL_isDelta 328 = .ok (.iconst 0, 1) := by decide +kernel
theorem dL_isDelta_329 : decode cL_isDelta 329 = .ok (.istore 6, 2) := by decide +kernel
theorem dL_isDelta_331 : decode cL_isDelta 331 = .ok (.iload 10, 2) := by decide +kernel
theorem dL_isDelta_333 : decode cL_isDelta 333 = .ok (.iload 12, 2) := by decide +kernel
theorem dL_isDelta_335 : decode cL_isDelta 335 = .ok (.iadd, 1) := by decide +kernel
theorem dL_isDelta_336 : decode cL_isDelta 336 = .ok (.istore 10, 2) := by decide +kernel
theorem dL_isDelta_338 : decode cL_isDelta 338 = .ok (.iinc 9 1, 3) := by decide +kernel
theorem dL_isDelta_341 : decode cL_isDelta 341 = .ok (.goto (-190), 3) := by decide +kernel
theorem dL_isDelta_344 : decode cL_isDelta 344 = .ok (.iload 6, 2) := by decide +kernel
theorem dL_isDelta_346 : decode cL_isDelta 346 = .ok (.ifCond .eq 27, 3) := by decide +kernel
theorem dL_isDelta_349 : decode cL_isDelta 349 = .ok (.aload_n 0, 1) := by decide +kernel
theorem dL_isDelta_350 : decode cL_isDelta 350 = .ok (.iload_n 2, 1) := by decide +kernel
theorem dL_isDelta_351 : decode cL_isDelta 351 = .ok (.invokevirtual 170, 3) := by decide +kernel
theorem dL_isDelta_354 : decode cL_isDelta 354 = .ok (.iload 9, 2) := by decide +kernel
theorem dL_isDelta_356 : decode cL_isDelta 356 = .ok (.if_icmp .ne 17, 3) := by decide +kernel
theorem dL_isDelta_359 : decode cL_isDelta 359 = .ok (.aload_n 0, 1) := by decide +kernel
theorem dL_isDelta_360 : decode cL_isDelta 360 = .ok (.invokevirtual 173, 3) := by decide +kernel
theorem dL_isDelta_363 : decode cL_isDelta 363 = .ok (.lload 7, 2) := by decide +kernel
theorem dL_isDelta_365 : decode cL_isDelta 365 = .ok (.l2i, 1) := by decide +kernel
theorem dL_isDelta_366 : decode cL_isDelta 366 = .ok (.if_icmp .ne 7, 3) := by decide +kernel
theorem dL_isDelta_369 : decode cL_isDelta 369 = .ok (.iconst 1, 1) := by decide +kernel
theorem dL_isDelta_370 : decode cL_isDelta 370 = .ok (.goto 4, 3) := by decide +kernel
theorem dL_isDelta_373 : decode cL_isDelta 373 = .ok (.iconst 0, 1) := by decide +kernel
theorem dL_isDelta_374 : decode cL_isDelta 374 = .ok (.ireturn, 1) := by decide +kernel
theorem dL_holds_0 : decode cL_holds 0 = .ok (.new 41, 3) := by decide +kernel
theorem dL_holds_3 : decode cL_holds 3 = .ok (.dup, 1) := by decide +kernel
theorem dL_holds_4 : decode cL_holds 4 = .ok (.invokespecial 176, 3) := by decide +kernel
theorem dL_holds_7 : decode cL_holds 7 = .ok (.astore_n 1, 1) := by decide +kernel
theorem dL_holds_8 : decode cL_holds 8 = .ok (.bipush 64, 2) := by decide +kernel
theorem dL_holds_10 : decode cL_holds 10 = .ok (.newarray .int, 2) := by decide +kernel
theorem dL_holds_12 : decode cL_holds 12 = .ok (.astore_n 2, 1) := by decide +kernel
theorem dL_holds_13 : decode cL_holds 13 = .ok (.bipush 8, 2) := by decide +kernel
theorem dL_holds_15 : decode cL_holds 15 = .ok (.newarray .int, 2) := by decide +kernel
theorem dL_holds_17 : decode cL_holds 17 = .ok (.astore_n 3, 1) := by decide +kernel
theorem dL_holds_18 : decode cL_holds 18 = .ok (.bipush 8, 2) := by decide +kernel
theorem dL_holds_20 : decode cL_holds 20 = .ok (.newarray .int, 2) := by decide +kernel
theorem dL_holds_22 : decode cL_holds 22 = .ok (.astore 4, 2) := by decide +kernel
theorem dL_holds_24 : decode cL_holds 24 = .ok (.bipush 32, 2) := by decide +kernel
theorem dL_holds_26 : decode cL_holds 26 = .ok (.newarray .int, 2) := by decide +kernel
theorem dL_holds_28 : decode cL_holds 28 = .ok (.astore 5, 2) := by decide +kernel
theorem dL_holds_30 : decode cL_holds 30 = .ok (.iconst 0, 1) := by decide +kernel
theorem dL_holds_31 : decode cL_holds 31 = .ok (.istore 6, 2) := by decide +kernel
theorem dL_holds_33 : decode cL_holds 33 = .ok (.iload 6, 2) := by decide +kernel
theorem dL_holds_35 : decode cL_holds 35 = .ok (.bipush 8, 2) := by decide +kernel
theorem dL_holds_37 : decode cL_holds 37 = .ok (.if_icmp .ge 19, 3) := by decide +kernel
theorem dL_holds_40 : decode cL_holds 40 = .ok (.aload_n 2, 1) := by decide +kernel
theorem dL_holds_41 : decode cL_holds 41 = .ok (.iconst 5, 1) := by decide +kernel
theorem dL_holds_42 : decode cL_holds 42 = .ok (.iload 6, 2) := by decide +kernel
theorem dL_holds_44 : decode cL_holds 44 = .ok (.iadd, 1) := by decide +kernel
theorem dL_holds_45 : decode cL_holds 45 = .ok (.iload 6, 2) := by decide +kernel
theorem dL_holds_47 : decode cL_holds 47 = .ok (.iconst 1, 1) := by decide +kernel
theorem dL_holds_48 : decode cL_holds 48 = .ok (.iadd, 1) := by decide +kernel
theorem dL_holds_49 : decode cL_holds 49 = .ok (.iastore, 1) := by decide +kernel
theorem dL_holds_50 : decode cL_holds 50 = .ok (.iinc 6 1, 3) := by decide +kernel
theorem dL_holds_53 : decode cL_holds 53 = .ok (.goto (-20), 3) := by decide +kernel
theorem dL_holds_56 : decode cL_holds 56 = .ok (.aload_n 2, 1) := by decide +kernel
theorem dL_holds_57 : decode cL_holds 57 = .ok (.iconst 0, 1) := by decide +kernel
theorem dL_holds_58 : decode cL_holds 58 = .ok (.iconst 1, 1) := by decide +kernel
theorem dL_holds_59 : decode cL_holds 59 = .ok (.iastore, 1) := by decide +kernel
theorem dL_holds_60 : decode cL_holds 60 = .ok (.aload_n 2, 1) := by decide +kernel
theorem dL_holds_61 : decode cL_holds 61 = .ok (.iconst 1, 1) := by decide +kernel
theorem dL_holds_62 : decode cL_holds 62 = .ok (.iconst 1, 1) := by decide +kernel
theorem dL_holds_63 : decode cL_holds 63 = .ok (.iastore, 1) := by decide +kernel
theorem dL_holds_64 : decode cL_holds 64 = .ok (.aload_n 2, 1) := by decide +kernel
theorem dL_holds_65 : decode cL_holds 65 = .ok (.iconst 2, 1) := by decide +kernel
theorem dL_holds_66 : decode cL_holds 66 = .ok (.bipush 8, 2) := by decide +kernel
theorem dL_holds_68 : decode cL_holds 68 = .ok (.iastore, 1) := by decide +kernel
theorem dL_holds_69 : decode cL_holds 69 = .ok (.aload_n 2, 1) := by decide +kernel
theorem dL_holds_70 : decode cL_holds 70 = .ok (.iconst 3, 1) := by decide +kernel
theorem dL_holds_71 : decode cL_holds 71 = .ok (.aload_n 2, 1) := by decide +kernel
theorem dL_holds_72 : decode cL_holds 72 = .ok (.iconst 0, 1) := by decide +kernel
theorem dL_holds_73 : decode cL_holds 73 = .ok (.bipush 8, 2) := by decide +kernel
theorem dL_holds_75 : decode cL_holds 75 = .ok (.invokestatic 15, 3) := by decide +kernel
theorem dL_holds_78 : decode cL_holds 78 = .ok (.iastore, 1) := by decide +kernel
theorem dL_holds_79 : decode cL_holds 79 = .ok (.aload_n 3, 1) := by decide +kernel
theorem dL_holds_80 : decode cL_holds 80 = .ok (.iconst 1, 1) := by decide +kernel
theorem dL_holds_81 : decode cL_holds 81 = .ok (.iconst 1, 1) := by decide +kernel
theorem dL_holds_82 : decode cL_holds 82 = .ok (.iastore, 1) := by decide +kernel
theorem dL_holds_83 : decode cL_holds 83 = .ok (.aload_n 3, 1) := by decide +kernel
theorem dL_holds_84 : decode cL_holds 84 = .ok (.iconst 0, 1) := by decide +kernel
theorem dL_holds_85 : decode cL_holds 85 = .ok (.iconst 1, 1) := by decide +kernel
theorem dL_holds_86 : decode cL_holds 86 = .ok (.iconst 0, 1) := by decide +kernel
theorem dL_holds_87 : decode cL_holds 87 = .ok (.iconst 0, 1) := by decide +kernel
theorem dL_holds_88 : decode cL_holds 88 = .ok (.invokestatic 21, 3) := by decide +kernel
theorem dL_holds_91 : decode cL_holds 91 = .ok (.iastore, 1) := by decide +kernel
theorem dL_holds_92 : decode cL_holds 92 = .ok (.aload 4, 2) := by decide +kernel
theorem dL_holds_94 : decode cL_holds 94 = .ok (.iconst 0, 1) := by decide +kernel
theorem dL_holds_95 : decode cL_holds 95 = .ok (.iconst (-1), 1) := by decide +kernel
theorem dL_holds_96 : decode cL_holds 96 = .ok (.iastore, 1) := by decide +kernel
theorem dL_holds_97 : decode cL_holds 97 = .ok (.aload 4, 2) := by decide +kernel
theorem dL_holds_99 : decode cL_holds 99 = .ok (.iconst 1, 1) := by decide +kernel
theorem dL_holds_100 : decode cL_holds 100 = .ok (.iconst (-1), 1) := by decide +kernel
theorem dL_holds_101 : decode cL_holds 101 = .ok (.iastore, 1) := by decide +kernel
theorem dL_holds_102 : decode cL_holds 102 = .ok (.aload 4, 2) := by decide +kernel
theorem dL_holds_104 : decode cL_holds 104 = .ok (.iconst 3, 1) := by decide +kernel
theorem dL_holds_105 : decode cL_holds 105 = .ok (.iconst (-1), 1) := by decide +kernel
theorem dL_holds_106 : decode cL_holds 106 = .ok (.iastore, 1) := by decide +kernel
theorem dL_holds_107 : decode cL_holds 107 = .ok (.iconst 1, 1) := by decide +kernel
theorem dL_holds_108 : decode cL_holds 108 = .ok (.istore 6, 2) := by decide +kernel
theorem dL_holds_110 : decode cL_holds 110 = .ok (.iconst 0, 1) := by decide +kernel
theorem dL_holds_111 : decode cL_holds 111 = .ok (.istore 7, 2) := by decide +kernel
theorem dL_holds_113 : decode cL_holds 113 = .ok (.iload 7, 2) := by decide +kernel
theorem dL_holds_115 : decode cL_holds 115 = .ok (.sipush 150, 3) := by decide +kernel
theorem dL_holds_118 : decode cL_holds 118 = .ok (.if_icmp .ge 294, 3) := by decide +kernel
theorem dL_holds_121 : decode cL_holds 121 = .ok (.iload 6, 2) := by decide +kernel
theorem dL_holds_123 : decode cL_holds 123 = .ok (.ifCond .eq 289, 3) := by decide +kernel
theorem dL_holds_126 : decode cL_holds 126 = .ok (.aload_n 0, 1) := by decide +kernel
theorem dL_holds_127 : decode cL_holds 127 = .ok (.iconst 2, 1) := by decide +kernel
theorem dL_holds_128 : decode cL_holds 128 = .ok (.iload 7, 2) := by decide +kernel
theorem dL_holds_130 : decode cL_holds 130 = .ok (.imul, 1) := by decide +kernel
theorem dL_holds_131 : decode cL_holds 131 = .ok (.bipush 17, 2) := by decide +kernel
theorem dL_holds_133 : decode cL_holds 133 = .ok (.invokestatic 177, 3) := by decide +kernel
theorem dL_holds_136 : decode cL_holds 136 = .ok (.istore 8, 2) := by decide +kernel
theorem dL_holds_138 : decode cL_holds 138 = .ok (.aload_n 0, 1) := by decide +kernel
theorem dL_holds_139 : decode cL_holds 139 = .ok (.iconst 2, 1) := by decide +kernel
theorem dL_holds_140 : decode cL_holds 140 = .ok (.iload 7, 2) := by decide +kernel
theorem dL_holds_142 : decode cL_holds 142 = .ok (.imul, 1) := by decide +kernel
theorem dL_holds_143 : decode cL_holds 143 = .ok (.iconst 1, 1) := by decide +kernel
theorem dL_holds_144 : decode cL_holds 144 = .ok (.iadd, 1) := by decide +kernel
theorem dL_holds_145 : decode cL_holds 145 = .ok (.ldc 180, 2) := by decide +kernel
theorem dL_holds_147 : decode cL_holds 147 = .ok (.invokestatic 177, 3) := by decide +kernel
theorem dL_holds_150 : decode cL_holds 150 = .ok (.istore 9, 2) := by decide +kernel
theorem dL_holds_152 : decode cL_holds 152 = .ok (.aload 5, 2) := by decide +kernel
theorem dL_holds_154 : decode cL_holds 154 = .ok (.iconst 0, 1) := by decide +kernel
theorem dL_holds_155 : decode cL_holds 155 = .ok (.iconst 0, 1) := by decide +kernel
theorem dL_holds_156 : decode cL_holds 156 = .ok (.iastore, 1) := by decide +kernel
theorem dL_holds_157 : decode cL_holds 157 = .ok (.iload 8, 2) := by decide +kernel
theorem dL_holds_159 : decode cL_holds 159 = .ok (.bipush 11, 2) := by decide +kernel
theorem dL_holds_161 : decode cL_holds 161 = .ok (.if_icmp .ge 22, 3) := by decide +kernel
theorem dL_holds_164 : decode cL_holds 164 = .ok (.aload_n 1, 1) := by decide +kernel
theorem dL_holds_165 : decode cL_holds 165 = .ok (.aload 5, 2) := by decide +kernel
theorem dL_holds_167 : decode cL_holds 167 = .ok (.aload_n 2, 1) := by decide +kernel
theorem dL_holds_168 : decode cL_holds 168 = .ok (.aload_n 3, 1) := by decide +kernel
theorem dL_holds_169 : decode cL_holds 169 = .ok (.aload 4, 2) := by decide +kernel
theorem dL_holds_171 : decode cL_holds 171 = .ok (.iload 8, 2) := by decide +kernel
theorem dL_holds_173 : decode cL_holds 173 = .ok (.iload 9, 2) := by decide +kernel
theorem dL_holds_175 : decode cL_holds 175 = .ok (.invokestatic 181, 3) := by decide +kernel
theorem dL_holds_178 : decode cL_holds 178 = .ok (.istore 6, 2) := by decide +kernel
theorem dL_holds_180 : decode cL_holds 180 = .ok (.goto 203, 3) := by decide +kernel
theorem dL_holds_183 : decode cL_holds 183 = .ok (.iload 8, 2) := by decide +kernel
theorem dL_holds_185 : decode cL_holds 185 = .ok (.bipush 11, 2) := by decide +kernel
theorem dL_holds_187 : decode cL_holds 187 = .ok (.if_icmp .ne 36, 3) := by decide +kernel
theorem dL_holds_190 : decode cL_holds 190 = .ok (.aload 4, 2) := by decide +kernel
theorem dL_holds_192 : decode cL_holds 192 = .ok (.iconst 1, 1) := by decide +kernel
theorem dL_holds_193 : decode cL_holds 193 = .ok (.iload 9, 2) := by decide +kernel
theorem dL_holds_195 : decode cL_holds 195 = .ok (.iconst 3, 1) := by decide +kernel
theorem dL_holds_196 : decode cL_holds 196 = .ok (.irem, 1) := by decide +kernel
theorem dL_holds_197 : decode cL_holds 197 = .ok (.ifCond .ne 7, 3) := by decide +kernel
theorem dL_holds_200 : decode cL_holds 200 = .ok (.iconst (-1), 1) := by decide +kernel
theorem dL_holds_201 : decode cL_holds 201 = .ok (.goto 10, 3) := by decide +kernel
theorem dL_holds_204 : decode cL_holds 204 = .ok (.iload 9, 2) := by decide +kernel
theorem dL_holds_206 : decode cL_holds 206 = .ok (.iconst 3, 1) := by decide +kernel
theorem dL_holds_207 : decode cL_holds 207 = .ok (.idiv, 1) := by decide +kernel
theorem dL_holds_208 : decode cL_holds 208 = .ok (.bipush 14, 2) := by decide +kernel
theorem dL_holds_210 : decode cL_holds 210 = .ok (.irem, 1) := by decide +kernel
theorem dL_holds_211 : decode cL_holds 211 = .ok (.iastore, 1) := by decide +kernel
theorem dL_holds_212 : decode cL_holds 212 = .ok (.aload_n 1, 1) := by decide +kernel
theorem dL_holds_213 : decode cL_holds 213 = .ok (.aload 4, 2) := by decide +kernel
theorem dL_holds_215 : decode cL_holds 215 = .ok (.iconst 1, 1) := by decide +kernel
theorem dL_holds_216 : decode cL_holds 216 = .ok (.iaload, 1) := by decide +kernel
theorem dL_holds_217 : decode cL_holds 217 = .ok (.invokevirtual 185, 3) := by decide +kernel
theorem dL_holds_220 : decode cL_holds 220 = .ok (.goto 163, 3) := by decide +kernel
theorem dL_holds_223 : decode cL_holds 223 = .ok (.iload 8, 2) := by decide +kernel
theorem dL_holds_225 : decode cL_holds 225 = .ok (.bipush 12, 2) := by decide +kernel
theorem dL_holds_227 : decode cL_holds 227 = .ok (.if_icmp .ne 58, 3) := by decide +kernel
theorem dL_holds_230 : decode cL_holds 230 = .ok (.aload 4, 2) := by decide +kernel
theorem dL_holds_232 : decode cL_holds 232 = .ok (.iconst 3, 1) := by decide +kernel
theorem dL_holds_233 : decode cL_holds 233 = .ok (.iaload, 1) := by decide +kernel
theorem dL_holds_234 : decode cL_holds 234 = .ok (.ifCond .ge 51, 3) := by decide +kernel
theorem dL_holds_237 : decode cL_holds 237 = .ok (.aload_n 2, 1) := by decide +kernel
theorem dL_holds_238 : decode cL_holds 238 = .ok (.iload 9, 2) := by decide +kernel
theorem dL_holds_240 : decode cL_holds 240 = .ok (.iconst 2, 1) := by decide +kernel
theorem dL_holds_241 : decode cL_holds 241 = .ok (.irem, 1) := by decide +kernel
theorem dL_holds_242 : decode cL_holds 242 = .ok (.invokestatic 37, 3) := by decide +kernel
theorem dL_holds_245 : decode cL_holds 245 = .ok (.ifCond .eq 10, 3) := by decide +kernel
theorem dL_holds_248 : decode cL_holds 248 = .ok (.iload 9, 2) := by decide +kernel
theorem dL_holds_250 : decode cL_holds 250 = .ok (.iconst 2, 1) := by decide +kernel
theorem dL_holds_251 : decode cL_holds 251 = .ok (.irem, 1) := by decide +kernel
theorem dL_holds_252 : decode cL_holds 252 = .ok (.goto 15, 3) := by decide +kernel
theorem dL_holds_255 : decode cL_holds 255 = .ok (.aload_n 3, 1) := by decide +kernel
theorem dL_holds_256 : decode cL_holds 256 = .ok (.iconst 4, 1) := by decide +kernel
theorem dL_holds_257 : decode cL_holds 257 = .ok (.aload_n 3, 1) := by decide +kernel
theorem dL_holds_258 : decode cL_holds 258 = .ok (.invokestatic 29, 3) := by decide +kernel
theorem dL_holds_261 : decode cL_holds 261 = .ok (.imul, 1) := by decide +kernel
theorem dL_holds_262 : decode cL_holds 262 = .ok (.iconst 2, 1) := by decide +kernel
theorem dL_holds_263 : decode cL_holds 263 = .ok (.iadd, 1) := by decide +kernel
theorem dL_holds_264 : decode cL_holds 264 = .ok (.iaload, 1) := by decide +kernel
theorem dL_holds_265 : decode cL_holds 265 = .ok (.iconst 1, 1) := by decide +kernel
theorem dL_holds_266 : decode cL_holds 266 = .ok (.iand, 1) := by decide +kernel
theorem dL_holds_267 : decode cL_holds 267 = .ok (.istore 10, 2) := by decide +kernel
theorem dL_holds_269 : decode cL_holds 269 = .ok (.aload_n 1, 1) := by decide +kernel
theorem dL_holds_270 : decode cL_holds 270 = .ok (.aload_n 2, 1) := by decide +kernel
theorem dL_holds_271 : decode cL_holds 271 = .ok (.iload 10, 2) := by decide +kernel
theorem dL_holds_273 : decode cL_holds 273 = .ok (.iload 9, 2) := by decide +kernel
theorem dL_holds_275 : decode cL_holds 275 = .ok (.iconst 2, 1) := by decide +kernel
theorem dL_holds_276 : decode cL_holds 276 = .ok (.idiv, 1) := by decide +kernel
theorem dL_holds_277 : decode cL_holds 277 = .ok (.invokestatic 189, 3) := by decide +kernel
theorem dL_holds_280 : decode cL_holds 280 = .ok (.istore 6, 2) := by decide +kernel
theorem dL_holds_282 : decode cL_holds 282 = .ok (.goto 101, 3) := by decide +kernel
theorem dL_holds_285 : decode cL_holds 285 = .ok (.iload 8, 2) := by decide +kernel
theorem dL_holds_287 : decode cL_holds 287 = .ok (.bipush 13, 2) := by decide +kernel
theorem dL_holds_289 : decode cL_holds 289 = .ok (.if_icmp .gt 10, 3) := by decide +kernel
theorem dL_holds_292 : decode cL_holds 292 = .ok (.aload 4, 2) := by decide +kernel
theorem dL_holds_294 : decode cL_holds 294 = .ok (.iconst 3, 1) := by decide +kernel
theorem dL_holds_295 : decode cL_holds 295 = .ok (.iaload, 1) := by decide +kernel
theorem dL_holds_296 : decode cL_holds 296 = .ok (.ifCond .ge 87, 3) := by decide +kernel
theorem dL_holds_299 : decode cL_holds 299 = .ok (.aload 4, 2) := by decide +kernel
theorem dL_holds_301 : decode cL_holds 301 = .ok (.iconst 3, 1) := by decide +kernel
theorem dL_holds_302 : decode cL_holds 302 = .ok (.iaload, 1) := by decide +kernel
theorem dL_holds_303 : decode cL_holds 303 = .ok (.ifCond .lt 37, 3) := by decide +kernel
theorem dL_holds_306 : decode cL_holds 306 = .ok (.aload 4, 2) := by decide +kernel
theorem dL_holds_308 : decode cL_holds 308 = .ok (.iconst 3, 1) := by decide +kernel
theorem dL_holds_309 : decode cL_holds 309 = .ok (.iaload, 1) := by decide +kernel
theorem dL_holds_310 : decode cL_holds 310 = .ok (.aload 4, 2) := by decide +kernel
theorem dL_holds_312 : decode cL_holds 312 = .ok (.iconst 5, 1) := by decide +kernel
theorem dL_holds_313 : decode cL_holds 313 = .ok (.iaload, 1) := by decide +kernel
theorem dL_holds_314 : decode cL_holds 314 = .ok (.if_icmp .ge 26, 3) := by decide +kernel
theorem dL_holds_317 : decode cL_holds 317 = .ok (.iload 9, 2) := by decide +kernel
theorem dL_holds_319 : decode cL_holds 319 = .ok (.iconst 4, 1) := by decide +kernel
theorem dL_holds_320 : decode cL_holds 320 = .ok (.irem, 1) := by decide +kernel
theorem dL_holds_321 : decode cL_holds 321 = .ok (.ifCond .le 19, 3) := by decide +kernel
theorem dL_holds_324 : decode cL_holds 324 = .ok (.aload_n 1, 1) := by decide +kernel
theorem dL_holds_325 : decode cL_holds 325 = .ok (.aload 5, 2) := by decide +kernel
theorem dL_holds_327 : decode cL_holds 327 = .ok (.aload_n 2, 1) := by decide +kernel
theorem dL_holds_328 : decode cL_holds 328 = .ok (.aload_n 3, 1) := by decide +kernel
theorem dL_holds_329 : decode cL_holds 329 = .ok (.aload 4, 2) := by decide +kernel
theorem dL_holds_331 : decode cL_holds 331 = .ok (.iconst 4, 1) := by decide +kernel
theorem dL_holds_332 : decode cL_holds 332 = .ok (.iload 9, 2) := by decide +kernel
theorem dL_holds_334 : decode cL_holds 334 = .ok (.invokestatic 181, 3) := by decide +kernel
theorem dL_holds_337 : decode cL_holds 337 = .ok (.goto 44, 3) := by decide +kernel
theorem dL_holds_340 : decode cL_holds 340 = .ok (.aload 4, 2) := by decide +kernel
