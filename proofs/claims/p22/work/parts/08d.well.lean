theorem dL_isWell_0 : decode cL_isWell 0 = .ok (.bipush 6, 2) := by decide +kernel
theorem dL_isWell_2 : decode cL_isWell 2 = .ok (.newarray .int, 2) := by decide +kernel
theorem dL_isWell_4 : decode cL_isWell 4 = .ok (.astore_n 1, 1) := by decide +kernel
theorem dL_isWell_5 : decode cL_isWell 5 = .ok (.iconst 0, 1) := by decide +kernel
theorem dL_isWell_6 : decode cL_isWell 6 = .ok (.istore_n 2, 1) := by decide +kernel
theorem dL_isWell_7 : decode cL_isWell 7 = .ok (.aload_n 0, 1) := by decide +kernel
theorem dL_isWell_8 : decode cL_isWell 8 = .ok (.iconst 4, 1) := by decide +kernel
theorem dL_isWell_9 : decode cL_isWell 9 = .ok (.invokevirtual 19, 3) := by decide +kernel
theorem dL_isWell_12 : decode cL_isWell 12 = .ok (.ifCond .lt 20, 3) := by decide +kernel
theorem dL_isWell_15 : decode cL_isWell 15 = .ok (.aload_n 0, 1) := by decide +kernel
theorem dL_isWell_16 : decode cL_isWell 16 = .ok (.iconst 4, 1) := by decide +kernel
theorem dL_isWell_17 : decode cL_isWell 17 = .ok (.invokevirtual 19, 3) := by decide +kernel
theorem dL_isWell_20 : decode cL_isWell 20 = .ok (.aload_n 0, 1) := by decide +kernel
theorem dL_isWell_21 : decode cL_isWell 21 = .ok (.iconst 5, 1) := by decide +kernel
theorem dL_isWell_22 : decode cL_isWell 22 = .ok (.invokevirtual 19, 3) := by decide +kernel
theorem dL_isWell_25 : decode cL_isWell 25 = .ok (.if_icmp .gt 7, 3) := by decide +kernel
theorem dL_isWell_28 : decode cL_isWell 28 = .ok (.iconst 1, 1) := by decide +kernel
theorem dL_isWell_29 : decode cL_isWell 29 = .ok (.goto 4, 3) := by decide +kernel
theorem dL_isWell_32 : decode cL_isWell 32 = .ok (.iconst 0, 1) := by decide +kernel
theorem dL_isWell_33 : decode cL_isWell 33 = .ok (.istore_n 3, 1) := by decide +kernel
theorem dL_isWell_34 : decode cL_isWell 34 = .ok (.iconst 0, 1) := by decide +kernel
theorem dL_isWell_35 : decode cL_isWell 35 = .ok (.istore 4, 2) := by decide +kernel
theorem dL_isWell_37 : decode cL_isWell 37 = .ok (.iload 4, 2) := by decide +kernel
theorem dL_isWell_39 : decode cL_isWell 39 = .ok (.bipush 6, 2) := by decide +kernel
theorem dL_isWell_41 : decode cL_isWell 41 = .ok (.if_icmp .ge 296, 3) := by decide +kernel
theorem dL_isWell_44 : decode cL_isWell 44 = .ok (.aload_n 0, 1) := by decide +kernel
theorem dL_isWell_45 : decode cL_isWell 45 = .ok (.iload 4, 2) := by decide +kernel
theorem dL_isWell_47 : decode cL_isWell 47 = .ok (.iconst 0, 1) := by decide +kernel
theorem dL_isWell_48 : decode cL_isWell 48 = .ok (.invokevirtual 15, 3) := by decide +kernel
theorem dL_isWell_51 : decode cL_isWell 51 = .ok (.ifCond .eq 7, 3) := by decide +kernel
theorem dL_isWell_54 : decode cL_isWell 54 = .ok (.iconst 1, 1) := by decide +kernel
theorem dL_isWell_55 : decode cL_isWell 55 = .ok (.goto 4, 3) := by decide +kernel
theorem dL_isWell_58 : decode cL_isWell 58 = .ok (.iconst 0, 1) := by decide +kernel
theorem dL_isWell_59 : decode cL_isWell 59 = .ok (.istore 5, 2) := by decide +kernel
theorem dL_isWell_61 : decode cL_isWell 61 = .ok (.iconst 0, 1) := by decide +kernel
theorem dL_isWell_62 : decode cL_isWell 62 = .ok (.istore 6, 2) := by decide +kernel
theorem dL_isWell_64 : decode cL_isWell 64 = .ok (.iload 6, 2) := by decide +kernel
theorem dL_isWell_66 : decode cL_isWell 66 = .ok (.bipush 6, 2) := by decide +kernel
theorem dL_isWell_68 : decode cL_isWell 68 = .ok (.if_icmp .ge 26, 3) := by decide +kernel
theorem dL_isWell_71 : decode cL_isWell 71 = .ok (.aload_n 1, 1) := by decide +kernel
theorem dL_isWell_72 : decode cL_isWell 72 = .ok (.iload 6, 2) := by decide +kernel
theorem dL_isWell_74 : decode cL_isWell 74 = .ok (.dup2, 1) := by decide +kernel
theorem dL_isWell_75 : decode cL_isWell 75 = .ok (.iaload, 1) := by decide +kernel
theorem dL_isWell_76 : decode cL_isWell 76 = .ok (.aload_n 0, 1) := by decide +kernel
theorem dL_isWell_77 : decode cL_isWell 77 = .ok (.iload 4, 2) := by decide +kernel
theorem dL_isWell_79 : decode cL_isWell 79 = .ok (.iconst 5, 1) := by decide +kernel
theorem dL_isWell_80 : decode cL_isWell 80 = .ok (.iload 6, 2) := by decide +kernel
theorem dL_isWell_82 : decode cL_isWell 82 = .ok (.iadd, 1) := by decide +kernel
theorem dL_isWell_83 : decode cL_isWell 83 = .ok (.invokevirtual 15, 3) := by decide +kernel
theorem dL_isWell_86 : decode cL_isWell 86 = .ok (.iadd, 1) := by decide +kernel
theorem dL_isWell_87 : decode cL_isWell 87 = .ok (.iastore, 1) := by decide +kernel
theorem dL_isWell_88 : decode cL_isWell 88 = .ok (.iinc 6 1, 3) := by decide +kernel
theorem dL_isWell_91 : decode cL_isWell 91 = .ok (.goto (-27), 3) := by decide +kernel
theorem dL_isWell_94 : decode cL_isWell 94 = .ok (.aload_n 0, 1) := by decide +kernel
theorem dL_isWell_95 : decode cL_isWell 95 = .ok (.iload 4, 2) := by decide +kernel
theorem dL_isWell_97 : decode cL_isWell 97 = .ok (.invokestatic 88, 3) := by decide +kernel
theorem dL_isWell_100 : decode cL_isWell 100 = .ok (.iload_n 2, 1) := by decide +kernel
theorem dL_isWell_101 : decode cL_isWell 101 = .ok (.if_icmp .le 12, 3) := by decide +kernel
theorem dL_isWell_104 : decode cL_isWell 104 = .ok (.aload_n 0, 1) := by decide +kernel
theorem dL_isWell_105 : decode cL_isWell 105 = .ok (.iload 4, 2) := by decide +kernel
theorem dL_isWell_107 : decode cL_isWell 107 = .ok (.invokestatic 88, 3) := by decide +kernel
theorem dL_isWell_110 : decode cL_isWell 110 = .ok (.goto 4, 3) := by decide +kernel
theorem dL_isWell_113 : decode cL_isWell 113 = .ok (.iload_n 2, 1) := by decide +kernel
theorem dL_isWell_114 : decode cL_isWell 114 = .ok (.istore_n 2, 1) := by decide +kernel
theorem dL_isWell_115 : decode cL_isWell 115 = .ok (.iload_n 3, 1) := by decide +kernel
theorem dL_isWell_116 : decode cL_isWell 116 = .ok (.ifCond .eq 213, 3) := by decide +kernel
theorem dL_isWell_119 : decode cL_isWell 119 = .ok (.iload 5, 2) := by decide +kernel
theorem dL_isWell_121 : decode cL_isWell 121 = .ok (.aload_n 0, 1) := by decide +kernel
theorem dL_isWell_122 : decode cL_isWell 122 = .ok (.iload 4, 2) := by decide +kernel
theorem dL_isWell_124 : decode cL_isWell 124 = .ok (.iconst 1, 1) := by decide +kernel
theorem dL_isWell_125 : decode cL_isWell 125 = .ok (.invokevirtual 15, 3) := by decide +kernel
theorem dL_isWell_128 : decode cL_isWell 128 = .ok (.bipush (-6), 2) := by decide +kernel
theorem dL_isWell_130 : decode cL_isWell 130 = .ok (.if_icmp .eq 7, 3) := by decide +kernel
theorem dL_isWell_133 : decode cL_isWell 133 = .ok (.iconst 1, 1) := by decide +kernel
theorem dL_isWell_134 : decode cL_isWell 134 = .ok (.goto 4, 3) := by decide +kernel
theorem dL_isWell_137 : decode cL_isWell 137 = .ok (.iconst 0, 1) := by decide +kernel
theorem dL_isWell_138 : decode cL_isWell 138 = .ok (.if_icmp .ne 191, 3) := by decide +kernel
theorem dL_isWell_141 : decode cL_isWell 141 = .ok (.iload 5, 2) := by decide +kernel
theorem dL_isWell_143 : decode cL_isWell 143 = .ok (.aload_n 0, 1) := by decide +kernel
theorem dL_isWell_144 : decode cL_isWell 144 = .ok (.bipush 15, 2) := by decide +kernel
theorem dL_isWell_146 : decode cL_isWell 146 = .ok (.invokevirtual 19, 3) := by decide +kernel
theorem dL_isWell_149 : decode cL_isWell 149 = .ok (.iload 4, 2) := by decide +kernel
theorem dL_isWell_151 : decode cL_isWell 151 = .ok (.ishr, 1) := by decide +kernel
theorem dL_isWell_152 : decode cL_isWell 152 = .ok (.iconst 1, 1) := by decide +kernel
theorem dL_isWell_153 : decode cL_isWell 153 = .ok (.iand, 1) := by decide +kernel
theorem dL_isWell_154 : decode cL_isWell 154 = .ok (.iconst 1, 1) := by decide +kernel
theorem dL_isWell_155 : decode cL_isWell 155 = .ok (.if_icmp .ne 7, 3) := by decide +kernel
theorem dL_isWell_158 : decode cL_isWell 158 = .ok (.iconst 1, 1) := by decide +kernel
theorem dL_isWell_159 : decode cL_isWell 159 = .ok (.goto 4, 3) := by decide +kernel
theorem dL_isWell_162 : decode cL_isWell 162 = .ok (.iconst 0, 1) := by decide +kernel
theorem dL_isWell_163 : decode cL_isWell 163 = .ok (.if_icmp .ne 166, 3) := by decide +kernel
theorem dL_isWell_166 : decode cL_isWell 166 = .ok (.aload_n 0, 1) := by decide +kernel
theorem dL_isWell_167 : decode cL_isWell 167 = .ok (.bipush 14, 2) := by decide +kernel
theorem dL_isWell_169 : decode cL_isWell 169 = .ok (.invokevirtual 19, 3) := by decide +kernel
theorem dL_isWell_172 : decode cL_isWell 172 = .ok (.iload 4, 2) := by decide +kernel
theorem dL_isWell_174 : decode cL_isWell 174 = .ok (.ishr, 1) := by decide +kernel
theorem dL_isWell_175 : decode cL_isWell 175 = .ok (.iconst 1, 1) := by decide +kernel
theorem dL_isWell_176 : decode cL_isWell 176 = .ok (.iand, 1) := by decide +kernel
theorem dL_isWell_177 : decode cL_isWell 177 = .ok (.aload_n 0, 1) := by decide +kernel
theorem dL_isWell_178 : decode cL_isWell 178 = .ok (.iload 4, 2) := by decide +kernel
theorem dL_isWell_180 : decode cL_isWell 180 = .ok (.iconst 4, 1) := by decide +kernel
theorem dL_isWell_181 : decode cL_isWell 181 = .ok (.invokevirtual 15, 3) := by decide +kernel
theorem dL_isWell_184 : decode cL_isWell 184 = .ok (.if_icmp .ne 145, 3) := by decide +kernel
theorem dL_isWell_187 : decode cL_isWell 187 = .ok (.iload 5, 2) := by decide +kernel
theorem dL_isWell_189 : decode cL_isWell 189 = .ok (.ifCond .eq 39, 3) := by decide +kernel
theorem dL_isWell_192 : decode cL_isWell 192 = .ok (.aload_n 0, 1) := by decide +kernel
theorem dL_isWell_193 : decode cL_isWell 193 = .ok (.iload 4, 2) := by decide +kernel
theorem dL_isWell_195 : decode cL_isWell 195 = .ok (.iconst 4, 1) := by decide +kernel
theorem dL_isWell_196 : decode cL_isWell 196 = .ok (.invokevirtual 15, 3) := by decide +kernel
theorem dL_isWell_199 : decode cL_isWell 199 = .ok (.aload_n 0, 1) := by decide +kernel
theorem dL_isWell_200 : decode cL_isWell 200 = .ok (.iconst 3, 1) := by decide +kernel
theorem dL_isWell_201 : decode cL_isWell 201 = .ok (.invokevirtual 19, 3) := by decide +kernel
theorem dL_isWell_204 : decode cL_isWell 204 = .ok (.aload_n 0, 1) := by decide +kernel
theorem dL_isWell_205 : decode cL_isWell 205 = .ok (.iload 4, 2) := by decide +kernel
theorem dL_isWell_207 : decode cL_isWell 207 = .ok (.iconst 1, 1) := by decide +kernel
theorem dL_isWell_208 : decode cL_isWell 208 = .ok (.invokevirtual 15, 3) := by decide +kernel
theorem dL_isWell_211 : decode cL_isWell 211 = .ok (.isub, 1) := by decide +kernel
theorem dL_isWell_212 : decode cL_isWell 212 = .ok (.aload_n 0, 1) := by decide +kernel
theorem dL_isWell_213 : decode cL_isWell 213 = .ok (.iconst 0, 1) := by decide +kernel
theorem dL_isWell_214 : decode cL_isWell 214 = .ok (.invokevirtual 19, 3) := by decide +kernel
theorem dL_isWell_217 : decode cL_isWell 217 = .ok (.if_icmp .lt 7, 3) := by decide +kernel
theorem dL_isWell_220 : decode cL_isWell 220 = .ok (.iconst 1, 1) := by decide +kernel
theorem dL_isWell_221 : decode cL_isWell 221 = .ok (.goto 4, 3) := by decide +kernel
theorem dL_isWell_224 : decode cL_isWell 224 = .ok (.iconst 0, 1) := by decide +kernel
theorem dL_isWell_225 : decode cL_isWell 225 = .ok (.if_icmp .ne 104, 3) := by decide +kernel
theorem dL_isWell_228 : decode cL_isWell 228 = .ok (.iload 5, 2) := by decide +kernel
theorem dL_isWell_230 : decode cL_isWell 230 = .ok (.ifCond .ne 13, 3) := by decide +kernel
theorem dL_isWell_233 : decode cL_isWell 233 = .ok (.aload_n 0, 1) := by decide +kernel
theorem dL_isWell_234 : decode cL_isWell 234 = .ok (.iload 4, 2) := by decide +kernel
theorem dL_isWell_236 : decode cL_isWell 236 = .ok (.iconst 4, 1) := by decide +kernel
theorem dL_isWell_237 : decode cL_isWell 237 = .ok (.invokevirtual 15, 3) := by decide +kernel
theorem dL_isWell_240 : decode cL_isWell 240 = .ok (.ifCond .ne 89, 3) := by decide +kernel
theorem dL_isWell_243 : decode cL_isWell 243 = .ok (.aload_n 0, 1) := by decide +kernel
theorem dL_isWell_244 : decode cL_isWell 244 = .ok (.iload 4, 2) := by decide +kernel
theorem dL_isWell_246 : decode cL_isWell 246 = .ok (.bipush 12, 2) := by decide +kernel
theorem dL_isWell_248 : decode cL_isWell 248 = .ok (.invokevirtual 15, 3) := by decide +kernel
theorem dL_isWell_251 : decode cL_isWell 251 = .ok (.bipush (-6), 2) := by decide +kernel
theorem dL_isWell_253 : decode cL_isWell 253 = .ok (.if_icmp .ne 7, 3) := by decide +kernel
theorem dL_isWell_256 : decode cL_isWell 256 = .ok (.iconst 1, 1) := by decide +kernel
theorem dL_isWell_257 : decode cL_isWell 257 = .ok (.goto 4, 3) := by decide +kernel
theorem dL_isWell_260 : decode cL_isWell 260 = .ok (.iconst 0, 1) := by decide +kernel
theorem dL_isWell_261 : decode cL_isWell 261 = .ok (.aload_n 0, 1) := by decide +kernel
theorem dL_isWell_262 : decode cL_isWell 262 = .ok (.iload 4, 2) := by decide +kernel
theorem dL_isWell_264 : decode cL_isWell 264 = .ok (.invokestatic 88, 3) := by decide +kernel
theorem dL_isWell_267 : decode cL_isWell 267 = .ok (.ifCond .ne 7, 3) := by decide +kernel
theorem dL_isWell_270 : decode cL_isWell 270 = .ok (.iconst 1, 1) := by decide +kernel
theorem dL_isWell_271 : decode cL_isWell 271 = .ok (.goto 4, 3) := by decide +kernel
theorem dL_isWell_274 : decode cL_isWell 274 = .ok (.iconst 0, 1) := by decide +kernel
theorem dL_isWell_275 : decode cL_isWell 275 = .ok (.if_icmp .ne 54, 3) := by decide +kernel
theorem dL_isWell_278 : decode cL_isWell 278 = .ok (.aload_n 0, 1) := by decide +kernel
theorem dL_isWell_279 : decode cL_isWell 279 = .ok (.iload 4, 2) := by decide +kernel
theorem dL_isWell_281 : decode cL_isWell 281 = .ok (.bipush 10, 2) := by decide +kernel
theorem dL_isWell_283 : decode cL_isWell 283 = .ok (.invokevirtual 15, 3) := by decide +kernel
theorem dL_isWell_286 : decode cL_isWell 286 = .ok (.aload_n 0, 1) := by decide +kernel
theorem dL_isWell_287 : decode cL_isWell 287 = .ok (.iload 4, 2) := by decide +kernel
theorem dL_isWell_289 : decode cL_isWell 289 = .ok (.invokestatic 88, 3) := by decide +kernel
theorem dL_isWell_292 : decode cL_isWell 292 = .ok (.if_icmp .gt 37, 3) := by decide +kernel
theorem dL_isWell_295 : decode cL_isWell 295 = .ok (.aload_n 0, 1) := by decide +kernel
theorem dL_isWell_296 : decode cL_isWell 296 = .ok (.iload 4, 2) := by decide +kernel
theorem dL_isWell_298 : decode cL_isWell 298 = .ok (.iconst 3, 1) := by decide +kernel
theorem dL_isWell_299 : decode cL_isWell 299 = .ok (.invokevirtual 15, 3) := by decide +kernel
theorem dL_isWell_302 : decode cL_isWell 302 = .ok (.iconst 1, 1) := by decide +kernel
theorem dL_isWell_303 : decode cL_isWell 303 = .ok (.if_icmp .ne 22, 3) := by decide +kernel
theorem dL_isWell_306 : decode cL_isWell 306 = .ok (.aload_n 0, 1) := by decide +kernel
theorem dL_isWell_307 : decode cL_isWell 307 = .ok (.iload 4, 2) := by decide +kernel
theorem dL_isWell_309 : decode cL_isWell 309 = .ok (.iconst 2, 1) := by decide +kernel
theorem dL_isWell_310 : decode cL_isWell 310 = .ok (.invokevirtual 15, 3) := by decide +kernel
theorem dL_isWell_313 : decode cL_isWell 313 = .ok (.iconst 3, 1) := by decide +kernel
theorem dL_isWell_314 : decode cL_isWell 314 = .ok (.iand, 1) := by decide +kernel
theorem dL_isWell_315 : decode cL_isWell 315 = .ok (.aload_n 0, 1) := by decide +kernel
theorem dL_isWell_316 : decode cL_isWell 316 = .ok (.iload 4, 2) := by decide +kernel
theorem dL_isWell_318 : decode cL_isWell 318 = .ok (.iconst 0, 1) := by decide +kernel
theorem dL_isWell_319 : decode cL_isWell 319 = .ok (.invokevirtual 15, 3) := by decide +kernel
theorem dL_isWell_322 : decode cL_isWell 322 = .ok (.if_icmp .ne 7, 3) := by decide +kernel
theorem dL_isWell_325 : decode cL_isWell 325 = .ok (.iconst 1, 1) := by decide +kernel
theorem dL_isWell_326 : decode cL_isWell 326 = .ok (.goto 4, 3) := by decide +kernel
theorem dL_isWell_329 : decode cL_isWell 329 = .ok (.iconst 0, 1) := by decide +kernel
theorem dL_isWell_330 : decode cL_isWell 330 = .ok (.istore_n 3, 1) := by decide +kernel
theorem dL_isWell_331 : decode cL_isWell 331 = .ok (.iinc 4 1, 3) := by decide +kernel
theorem dL_isWell_334 : decode cL_isWell 334 = .ok (.goto (-297), 3) := by decide +kernel
theorem dL_isWell_337 : decode cL_isWell 337 = .ok (.iconst 0, 1) := by decide +kernel
theorem dL_isWell_338 : decode cL_isWell 338 = .ok (.istore 4, 2) := by decide +kernel
theorem dL_isWell_340 : decode cL_isWell 340 = .ok (.iload 4, 2) := by decide +kernel
theorem dL_isWell_342 : decode cL_isWell 342 = .ok (.bipush 6, 2) := by decide +kernel
theorem dL_isWell_344 : decode cL_isWell 344 = .ok (.if_icmp .ge 35, 3) := by decide +kernel
theorem dL_isWell_347 : decode cL_isWell 347 = .ok (.iload_n 3, 1) := by decide +kernel
theorem dL_isWell_348 : decode cL_isWell 348 = .ok (.ifCond .eq 23, 3) := by decide +kernel
theorem dL_isWell_351 : decode cL_isWell 351 = .ok (.aload_n 1, 1) := by decide +kernel
theorem dL_isWell_352 : decode cL_isWell 352 = .ok (.iload 4, 2) := by decide +kernel
theorem dL_isWell_354 : decode cL_isWell 354 = .ok (.iaload, 1) := by decide +kernel
theorem dL_isWell_355 : decode cL_isWell 355 = .ok (.aload_n 0, 1) := by decide +kernel
theorem dL_isWell_356 : decode cL_isWell 356 = .ok (.bipush 8, 2) := by decide +kernel
theorem dL_isWell_358 : decode cL_isWell 358 = .ok (.iload 4, 2) := by decide +kernel
theorem dL_isWell_360 : decode cL_isWell 360 = .ok (.iadd, 1) := by decide +kernel
theorem dL_isWell_361 : decode cL_isWell 361 = .ok (.invokevirtual 19, 3) := by decide +kernel
theorem dL_isWell_364 : decode cL_isWell 364 = .ok (.if_icmp .ne 7, 3) := by decide +kernel
theorem dL_isWell_367 : decode cL_isWell 367 = .ok (.iconst 1, 1) := by decide +kernel
theorem dL_isWell_368 : decode cL_isWell 368 = .ok (.goto 4, 3) := by decide +kernel
theorem dL_isWell_371 : decode cL_isWell 371 = .ok (.iconst 0, 1) := by decide +kernel
theorem dL_isWell_372 : decode cL_isWell 372 = .ok (.istore_n 3, 1) := by decide +kernel
theorem dL_isWell_373 : decode cL_isWell 373 = .ok (.iinc 4 1, 3) := by decide +kernel
theorem dL_isWell_376 : decode cL_isWell 376 = .ok (.goto (-36), 3) := by decide +kernel
theorem dL_isWell_379 : decode cL_isWell 379 = .ok (.iload_n 3, 1) := by decide +kernel
theorem dL_isWell_380 : decode cL_isWell 380 = .ok (.ifCond .eq 35, 3) := by decide +kernel
theorem dL_isWell_383 : decode cL_isWell 383 = .ok (.iload_n 2, 1) := by decide +kernel
theorem dL_isWell_384 : decode cL_isWell 384 = .ok (.ifCond .ne 15, 3) := by decide +kernel
theorem dL_isWell_387 : decode cL_isWell 387 = .ok (.aload_n 0, 1) := by decide +kernel
theorem dL_isWell_388 : decode cL_isWell 388 = .ok (.invokevirtual 85, 3) := by decide +kernel
theorem dL_isWell_391 : decode cL_isWell 391 = .ok (.bipush (-6), 2) := by decide +kernel
theorem dL_isWell_393 : decode cL_isWell 393 = .ok (.if_icmp .ne 22, 3) := by decide +kernel
theorem dL_isWell_396 : decode cL_isWell 396 = .ok (.goto 15, 3) := by decide +kernel
theorem dL_isWell_399 : decode cL_isWell 399 = .ok (.aload_n 0, 1) := by decide +kernel
theorem dL_isWell_400 : decode cL_isWell 400 = .ok (.aload_n 0, 1) := by decide +kernel
theorem dL_isWell_401 : decode cL_isWell 401 = .ok (.invokevirtual 85, 3) := by decide +kernel
theorem dL_isWell_404 : decode cL_isWell 404 = .ok (.invokestatic 88, 3) := by decide +kernel
theorem dL_isWell_407 : decode cL_isWell 407 = .ok (.iload_n 2, 1) := by decide +kernel
theorem dL_isWell_408 : decode cL_isWell 408 = .ok (.if_icmp .ne 7, 3) := by decide +kernel
theorem dL_isWell_411 : decode cL_isWell 411 = .ok (.iconst 1, 1) := by decide +kernel
theorem dL_isWell_412 : decode cL_isWell 412 = .ok (.goto 4, 3) := by decide +kernel
theorem dL_isWell_415 : decode cL_isWell 415 = .ok (.iconst 0, 1) := by decide +kernel
theorem dL_isWell_416 : decode cL_isWell 416 = .ok (.ireturn, 1) := by decide +kernel
