theorem dL_isEvent_0 : decode cL_isEvent 0 = .ok (.aload_n 0, 1) := by decide +kernel
theorem dL_isEvent_1 : decode cL_isEvent 1 = .ok (.iload_n 1, 1) := by decide +kernel
theorem dL_isEvent_2 : decode cL_isEvent 2 = .ok (.iconst 0, 1) := by decide +kernel
theorem dL_isEvent_3 : decode cL_isEvent 3 = .ok (.invokevirtual 15, 3) := by decide +kernel
theorem dL_isEvent_6 : decode cL_isEvent 6 = .ok (.istore_n 3, 1) := by decide +kernel
theorem dL_isEvent_7 : decode cL_isEvent 7 = .ok (.aload_n 0, 1) := by decide +kernel
theorem dL_isEvent_8 : decode cL_isEvent 8 = .ok (.iload_n 1, 1) := by decide +kernel
theorem dL_isEvent_9 : decode cL_isEvent 9 = .ok (.iconst 2, 1) := by decide +kernel
theorem dL_isEvent_10 : decode cL_isEvent 10 = .ok (.invokevirtual 15, 3) := by decide +kernel
theorem dL_isEvent_13 : decode cL_isEvent 13 = .ok (.istore 4, 2) := by decide +kernel
theorem dL_isEvent_15 : decode cL_isEvent 15 = .ok (.aload_n 0, 1) := by decide +kernel
theorem dL_isEvent_16 : decode cL_isEvent 16 = .ok (.iload_n 1, 1) := by decide +kernel
theorem dL_isEvent_17 : decode cL_isEvent 17 = .ok (.iconst 3, 1) := by decide +kernel
theorem dL_isEvent_18 : decode cL_isEvent 18 = .ok (.invokevirtual 15, 3) := by decide +kernel
theorem dL_isEvent_21 : decode cL_isEvent 21 = .ok (.istore 5, 2) := by decide +kernel
theorem dL_isEvent_23 : decode cL_isEvent 23 = .ok (.aload_n 0, 1) := by decide +kernel
theorem dL_isEvent_24 : decode cL_isEvent 24 = .ok (.iload_n 1, 1) := by decide +kernel
theorem dL_isEvent_25 : decode cL_isEvent 25 = .ok (.iconst 1, 1) := by decide +kernel
theorem dL_isEvent_26 : decode cL_isEvent 26 = .ok (.invokevirtual 15, 3) := by decide +kernel
theorem dL_isEvent_29 : decode cL_isEvent 29 = .ok (.istore 6, 2) := by decide +kernel
theorem dL_isEvent_31 : decode cL_isEvent 31 = .ok (.aload_n 0, 1) := by decide +kernel
theorem dL_isEvent_32 : decode cL_isEvent 32 = .ok (.iload_n 1, 1) := by decide +kernel
theorem dL_isEvent_33 : decode cL_isEvent 33 = .ok (.iconst 5, 1) := by decide +kernel
theorem dL_isEvent_34 : decode cL_isEvent 34 = .ok (.invokevirtual 15, 3) := by decide +kernel
theorem dL_isEvent_37 : decode cL_isEvent 37 = .ok (.istore 7, 2) := by decide +kernel
theorem dL_isEvent_39 : decode cL_isEvent 39 = .ok (.aload_n 0, 1) := by decide +kernel
theorem dL_isEvent_40 : decode cL_isEvent 40 = .ok (.iload_n 1, 1) := by decide +kernel
theorem dL_isEvent_41 : decode cL_isEvent 41 = .ok (.bipush 6, 2) := by decide +kernel
theorem dL_isEvent_43 : decode cL_isEvent 43 = .ok (.invokevirtual 15, 3) := by decide +kernel
theorem dL_isEvent_46 : decode cL_isEvent 46 = .ok (.istore 8, 2) := by decide +kernel
theorem dL_isEvent_48 : decode cL_isEvent 48 = .ok (.aload_n 0, 1) := by decide +kernel
theorem dL_isEvent_49 : decode cL_isEvent 49 = .ok (.iconst 4, 1) := by decide +kernel
theorem dL_isEvent_50 : decode cL_isEvent 50 = .ok (.invokevirtual 19, 3) := by decide +kernel
theorem dL_isEvent_53 : decode cL_isEvent 53 = .ok (.istore 9, 2) := by decide +kernel
theorem dL_isEvent_55 : decode cL_isEvent 55 = .ok (.aload_n 0, 1) := by decide +kernel
theorem dL_isEvent_56 : decode cL_isEvent 56 = .ok (.bipush 7, 2) := by decide +kernel
theorem dL_isEvent_58 : decode cL_isEvent 58 = .ok (.invokevirtual 19, 3) := by decide +kernel
theorem dL_isEvent_61 : decode cL_isEvent 61 = .ok (.istore 10, 2) := by decide +kernel
theorem dL_isEvent_63 : decode cL_isEvent 63 = .ok (.aload_n 0, 1) := by decide +kernel
theorem dL_isEvent_64 : decode cL_isEvent 64 = .ok (.bipush 6, 2) := by decide +kernel
theorem dL_isEvent_66 : decode cL_isEvent 66 = .ok (.invokevirtual 19, 3) := by decide +kernel
theorem dL_isEvent_69 : decode cL_isEvent 69 = .ok (.istore 11, 2) := by decide +kernel
theorem dL_isEvent_71 : decode cL_isEvent 71 = .ok (.aload_n 0, 1) := by decide +kernel
theorem dL_isEvent_72 : decode cL_isEvent 72 = .ok (.invokestatic 62, 3) := by decide +kernel
theorem dL_isEvent_75 : decode cL_isEvent 75 = .ok (.istore 12, 2) := by decide +kernel
theorem dL_isEvent_77 : decode cL_isEvent 77 = .ok (.aload_n 0, 1) := by decide +kernel
theorem dL_isEvent_78 : decode cL_isEvent 78 = .ok (.iconst 3, 1) := by decide +kernel
theorem dL_isEvent_79 : decode cL_isEvent 79 = .ok (.invokevirtual 19, 3) := by decide +kernel
theorem dL_isEvent_82 : decode cL_isEvent 82 = .ok (.istore 13, 2) := by decide +kernel
theorem dL_isEvent_84 : decode cL_isEvent 84 = .ok (.aload_n 0, 1) := by decide +kernel
theorem dL_isEvent_85 : decode cL_isEvent 85 = .ok (.iload_n 1, 1) := by decide +kernel
theorem dL_isEvent_86 : decode cL_isEvent 86 = .ok (.iload_n 2, 1) := by decide +kernel
theorem dL_isEvent_87 : decode cL_isEvent 87 = .ok (.invokevirtual 76, 3) := by decide +kernel
theorem dL_isEvent_90 : decode cL_isEvent 90 = .ok (.istore 14, 2) := by decide +kernel
theorem dL_isEvent_92 : decode cL_isEvent 92 = .ok (.iload 14, 2) := by decide +kernel
theorem dL_isEvent_94 : decode cL_isEvent 94 = .ok (.aload_n 0, 1) := by decide +kernel
theorem dL_isEvent_95 : decode cL_isEvent 95 = .ok (.iload_n 1, 1) := by decide +kernel
theorem dL_isEvent_96 : decode cL_isEvent 96 = .ok (.iconst 0, 1) := by decide +kernel
theorem dL_isEvent_97 : decode cL_isEvent 97 = .ok (.invokevirtual 15, 3) := by decide +kernel
theorem dL_isEvent_100 : decode cL_isEvent 100 = .ok (.if_icmp .ne 35, 3) := by decide +kernel
theorem dL_isEvent_103 : decode cL_isEvent 103 = .ok (.iload_n 2, 1) := by decide +kernel
theorem dL_isEvent_104 : decode cL_isEvent 104 = .ok (.iconst 2, 1) := by decide +kernel
theorem dL_isEvent_105 : decode cL_isEvent 105 = .ok (.if_icmp .ne 16, 3) := by decide +kernel
theorem dL_isEvent_108 : decode cL_isEvent 108 = .ok (.iload 14, 2) := by decide +kernel
theorem dL_isEvent_110 : decode cL_isEvent 110 = .ok (.iload_n 3, 1) := by decide +kernel
theorem dL_isEvent_111 : decode cL_isEvent 111 = .ok (.iconst 2, 1) := by decide +kernel
theorem dL_isEvent_112 : decode cL_isEvent 112 = .ok (.iadd, 1) := by decide +kernel
theorem dL_isEvent_113 : decode cL_isEvent 113 = .ok (.iconst 4, 1) := by decide +kernel
theorem dL_isEvent_114 : decode cL_isEvent 114 = .ok (.irem, 1) := by decide +kernel
theorem dL_isEvent_115 : decode cL_isEvent 115 = .ok (.if_icmp .ne 20, 3) := by decide +kernel
theorem dL_isEvent_118 : decode cL_isEvent 118 = .ok (.goto 13, 3) := by decide +kernel
theorem dL_isEvent_121 : decode cL_isEvent 121 = .ok (.iload 14, 2) := by decide +kernel
theorem dL_isEvent_123 : decode cL_isEvent 123 = .ok (.iload_n 3, 1) := by decide +kernel
theorem dL_isEvent_124 : decode cL_isEvent 124 = .ok (.isub, 1) := by decide +kernel
theorem dL_isEvent_125 : decode cL_isEvent 125 = .ok (.iconst 1, 1) := by decide +kernel
theorem dL_isEvent_126 : decode cL_isEvent 126 = .ok (.iand, 1) := by decide +kernel
theorem dL_isEvent_127 : decode cL_isEvent 127 = .ok (.iconst 1, 1) := by decide +kernel
theorem dL_isEvent_128 : decode cL_isEvent 128 = .ok (.if_icmp .ne 7, 3) := by decide +kernel
theorem dL_isEvent_131 : decode cL_isEvent 131 = .ok (.iconst 1, 1) := by decide +kernel
theorem dL_isEvent_132 : decode cL_isEvent 132 = .ok (.goto 4, 3) := by decide +kernel
theorem dL_isEvent_135 : decode cL_isEvent 135 = .ok (.iconst 0, 1) := by decide +kernel
theorem dL_isEvent_136 : decode cL_isEvent 136 = .ok (.istore 15, 2) := by decide +kernel
theorem dL_isEvent_138 : decode cL_isEvent 138 = .ok (.iload 14, 2) := by decide +kernel
theorem dL_isEvent_140 : decode cL_isEvent 140 = .ok (.ifCond .eq 147, 3) := by decide +kernel
theorem dL_isEvent_143 : decode cL_isEvent 143 = .ok (.iload_n 2, 1) := by decide +kernel
theorem dL_isEvent_144 : decode cL_isEvent 144 = .ok (.iconst 2, 1) := by decide +kernel
theorem dL_isEvent_145 : decode cL_isEvent 145 = .ok (.if_icmp .eq 17, 3) := by decide +kernel
theorem dL_isEvent_148 : decode cL_isEvent 148 = .ok (.iload_n 3, 1) := by decide +kernel
theorem dL_isEvent_149 : decode cL_isEvent 149 = .ok (.ifCond .eq 9, 3) := by decide +kernel
theorem dL_isEvent_152 : decode cL_isEvent 152 = .ok (.iload 5, 2) := by decide +kernel
theorem dL_isEvent_154 : decode cL_isEvent 154 = .ok (.iconst 1, 1) := by decide +kernel
theorem dL_isEvent_155 : decode cL_isEvent 155 = .ok (.if_icmp .ne 7, 3) := by decide +kernel
theorem dL_isEvent_158 : decode cL_isEvent 158 = .ok (.iconst 1, 1) := by decide +kernel
theorem dL_isEvent_159 : decode cL_isEvent 159 = .ok (.goto 4, 3) := by decide +kernel
theorem dL_isEvent_162 : decode cL_isEvent 162 = .ok (.iconst 0, 1) := by decide +kernel
theorem dL_isEvent_163 : decode cL_isEvent 163 = .ok (.istore 16, 2) := by decide +kernel
theorem dL_isEvent_165 : decode cL_isEvent 165 = .ok (.iload_n 3, 1) := by decide +kernel
theorem dL_isEvent_166 : decode cL_isEvent 166 = .ok (.ifCond .ne 7, 3) := by decide +kernel
theorem dL_isEvent_169 : decode cL_isEvent 169 = .ok (.iconst 4, 1) := by decide +kernel
theorem dL_isEvent_170 : decode cL_isEvent 170 = .ok (.goto 5, 3) := by decide +kernel
theorem dL_isEvent_173 : decode cL_isEvent 173 = .ok (.iload 4, 2) := by decide +kernel
theorem dL_isEvent_175 : decode cL_isEvent 175 = .ok (.istore 17, 2) := by decide +kernel
theorem dL_isEvent_177 : decode cL_isEvent 177 = .ok (.iload 14, 2) := by decide +kernel
theorem dL_isEvent_179 : decode cL_isEvent 179 = .ok (.iload_n 3, 1) := by decide +kernel
theorem dL_isEvent_180 : decode cL_isEvent 180 = .ok (.isub, 1) := by decide +kernel
theorem dL_isEvent_181 : decode cL_isEvent 181 = .ok (.iconst 3, 1) := by decide +kernel
theorem dL_isEvent_182 : decode cL_isEvent 182 = .ok (.iand, 1) := by decide +kernel
theorem dL_isEvent_183 : decode cL_isEvent 183 = .ok (.iconst 1, 1) := by decide +kernel
theorem dL_isEvent_184 : decode cL_isEvent 184 = .ok (.if_icmp .ne 7, 3) := by decide +kernel
theorem dL_isEvent_187 : decode cL_isEvent 187 = .ok (.iconst 1, 1) := by decide +kernel
theorem dL_isEvent_188 : decode cL_isEvent 188 = .ok (.goto 4, 3) := by decide +kernel
theorem dL_isEvent_191 : decode cL_isEvent 191 = .ok (.iconst (-1), 1) := by decide +kernel
theorem dL_isEvent_192 : decode cL_isEvent 192 = .ok (.istore 18, 2) := by decide +kernel
theorem dL_isEvent_194 : decode cL_isEvent 194 = .ok (.iload 15, 2) := by decide +kernel
theorem dL_isEvent_196 : decode cL_isEvent 196 = .ok (.ifCond .eq 89, 3) := by decide +kernel
theorem dL_isEvent_199 : decode cL_isEvent 199 = .ok (.aload_n 0, 1) := by decide +kernel
theorem dL_isEvent_200 : decode cL_isEvent 200 = .ok (.invokestatic 62, 3) := by decide +kernel
theorem dL_isEvent_203 : decode cL_isEvent 203 = .ok (.iload 12, 2) := by decide +kernel
theorem dL_isEvent_205 : decode cL_isEvent 205 = .ok (.if_icmp .ne 80, 3) := by decide +kernel
theorem dL_isEvent_208 : decode cL_isEvent 208 = .ok (.aload_n 0, 1) := by decide +kernel
theorem dL_isEvent_209 : decode cL_isEvent 209 = .ok (.iload_n 1, 1) := by decide +kernel
theorem dL_isEvent_210 : decode cL_isEvent 210 = .ok (.iconst 1, 1) := by decide +kernel
theorem dL_isEvent_211 : decode cL_isEvent 211 = .ok (.invokevirtual 15, 3) := by decide +kernel
theorem dL_isEvent_214 : decode cL_isEvent 214 = .ok (.iload_n 3, 1) := by decide +kernel
theorem dL_isEvent_215 : decode cL_isEvent 215 = .ok (.ifCond .ne 8, 3) := by decide +kernel
theorem dL_isEvent_218 : decode cL_isEvent 218 = .ok (.iload 13, 2) := by decide +kernel
theorem dL_isEvent_220 : decode cL_isEvent 220 = .ok (.goto 5, 3) := by decide +kernel
theorem dL_isEvent_223 : decode cL_isEvent 223 = .ok (.iload 6, 2) := by decide +kernel
theorem dL_isEvent_225 : decode cL_isEvent 225 = .ok (.if_icmp .ne 60, 3) := by decide +kernel
theorem dL_isEvent_228 : decode cL_isEvent 228 = .ok (.aload_n 0, 1) := by decide +kernel
theorem dL_isEvent_229 : decode cL_isEvent 229 = .ok (.iload_n 1, 1) := by decide +kernel
theorem dL_isEvent_230 : decode cL_isEvent 230 = .ok (.iconst 3, 1) := by decide +kernel
theorem dL_isEvent_231 : decode cL_isEvent 231 = .ok (.invokevirtual 15, 3) := by decide +kernel
theorem dL_isEvent_234 : decode cL_isEvent 234 = .ok (.iload 16, 2) := by decide +kernel
theorem dL_isEvent_236 : decode cL_isEvent 236 = .ok (.ifCond .eq 7, 3) := by decide +kernel
theorem dL_isEvent_239 : decode cL_isEvent 239 = .ok (.iconst 1, 1) := by decide +kernel
theorem dL_isEvent_240 : decode cL_isEvent 240 = .ok (.goto 4, 3) := by decide +kernel
theorem dL_isEvent_243 : decode cL_isEvent 243 = .ok (.iconst 0, 1) := by decide +kernel
theorem dL_isEvent_244 : decode cL_isEvent 244 = .ok (.if_icmp .ne 41, 3) := by decide +kernel
theorem dL_isEvent_247 : decode cL_isEvent 247 = .ok (.aload_n 0, 1) := by decide +kernel
theorem dL_isEvent_248 : decode cL_isEvent 248 = .ok (.iload_n 1, 1) := by decide +kernel
theorem dL_isEvent_249 : decode cL_isEvent 249 = .ok (.iconst 2, 1) := by decide +kernel
theorem dL_isEvent_250 : decode cL_isEvent 250 = .ok (.invokevirtual 15, 3) := by decide +kernel
theorem dL_isEvent_253 : decode cL_isEvent 253 = .ok (.iload 16, 2) := by decide +kernel
theorem dL_isEvent_255 : decode cL_isEvent 255 = .ok (.ifCond .eq 11, 3) := by decide +kernel
theorem dL_isEvent_258 : decode cL_isEvent 258 = .ok (.iload 17, 2) := by decide +kernel
theorem dL_isEvent_260 : decode cL_isEvent 260 = .ok (.iload 18, 2) := by decide +kernel
theorem dL_isEvent_262 : decode cL_isEvent 262 = .ok (.iadd, 1) := by decide +kernel
theorem dL_isEvent_263 : decode cL_isEvent 263 = .ok (.goto 5, 3) := by decide +kernel
theorem dL_isEvent_266 : decode cL_isEvent 266 = .ok (.bipush (-6), 2) := by decide +kernel
theorem dL_isEvent_268 : decode cL_isEvent 268 = .ok (.if_icmp .ne 17, 3) := by decide +kernel
theorem dL_isEvent_271 : decode cL_isEvent 271 = .ok (.aload_n 0, 1) := by decide +kernel
theorem dL_isEvent_272 : decode cL_isEvent 272 = .ok (.iconst 4, 1) := by decide +kernel
theorem dL_isEvent_273 : decode cL_isEvent 273 = .ok (.invokevirtual 19, 3) := by decide +kernel
theorem dL_isEvent_276 : decode cL_isEvent 276 = .ok (.iload 9, 2) := by decide +kernel
theorem dL_isEvent_278 : decode cL_isEvent 278 = .ok (.if_icmp .ne 7, 3) := by decide +kernel
theorem dL_isEvent_281 : decode cL_isEvent 281 = .ok (.iconst 1, 1) := by decide +kernel
theorem dL_isEvent_282 : decode cL_isEvent 282 = .ok (.goto 4, 3) := by decide +kernel
theorem dL_isEvent_285 : decode cL_isEvent 285 = .ok (.iconst 0, 1) := by decide +kernel
theorem dL_isEvent_286 : decode cL_isEvent 286 = .ok (.ireturn, 1) := by decide +kernel
theorem dL_isEvent_287 : decode cL_isEvent 287 = .ok (.iload 5, 2) := by decide +kernel
theorem dL_isEvent_289 : decode cL_isEvent 289 = .ok (.ifCond .eq 8, 3) := by decide +kernel
theorem dL_isEvent_292 : decode cL_isEvent 292 = .ok (.iload_n 2, 1) := by decide +kernel
theorem dL_isEvent_293 : decode cL_isEvent 293 = .ok (.iconst 2, 1) := by decide +kernel
theorem dL_isEvent_294 : decode cL_isEvent 294 = .ok (.if_icmp .ne 7, 3) := by decide +kernel
theorem dL_isEvent_297 : decode cL_isEvent 297 = .ok (.iconst 1, 1) := by decide +kernel
theorem dL_isEvent_298 : decode cL_isEvent 298 = .ok (.goto 4, 3) := by decide +kernel
theorem dL_isEvent_301 : decode cL_isEvent 301 = .ok (.iconst 0, 1) := by decide +kernel
theorem dL_isEvent_302 : decode cL_isEvent 302 = .ok (.istore 16, 2) := by decide +kernel
theorem dL_isEvent_304 : decode cL_isEvent 304 = .ok (.iload 16, 2) := by decide +kernel
theorem dL_isEvent_306 : decode cL_isEvent 306 = .ok (.ifCond .ne 14, 3) := by decide +kernel
theorem dL_isEvent_309 : decode cL_isEvent 309 = .ok (.iload 4, 2) := by decide +kernel
theorem dL_isEvent_311 : decode cL_isEvent 311 = .ok (.bipush 7, 2) := by decide +kernel
theorem dL_isEvent_313 : decode cL_isEvent 313 = .ok (.if_icmp .ne 7, 3) := by decide +kernel
theorem dL_isEvent_316 : decode cL_isEvent 316 = .ok (.iconst 1, 1) := by decide +kernel
theorem dL_isEvent_317 : decode cL_isEvent 317 = .ok (.goto 4, 3) := by decide +kernel
theorem dL_isEvent_320 : decode cL_isEvent 320 = .ok (.iconst 0, 1) := by decide +kernel
theorem dL_isEvent_321 : decode cL_isEvent 321 = .ok (.istore 17, 2) := by decide +kernel
theorem dL_isEvent_323 : decode cL_isEvent 323 = .ok (.iload 16, 2) := by decide +kernel
theorem dL_isEvent_325 : decode cL_isEvent 325 = .ok (.ifCond .ne 18, 3) := by decide +kernel
theorem dL_isEvent_328 : decode cL_isEvent 328 = .ok (.iload 4, 2) := by decide +kernel
theorem dL_isEvent_330 : decode cL_isEvent 330 = .ok (.iconst 1, 1) := by decide +kernel
theorem dL_isEvent_331 : decode cL_isEvent 331 = .ok (.if_icmp .ne 12, 3) := by decide +kernel
theorem dL_isEvent_334 : decode cL_isEvent 334 = .ok (.iload_n 3, 1) := by decide +kernel
theorem dL_isEvent_335 : decode cL_isEvent 335 = .ok (.iconst 1, 1) := by decide +kernel
theorem dL_isEvent_336 : decode cL_isEvent 336 = .ok (.if_icmp .ne 7, 3) := by decide +kernel
theorem dL_isEvent_339 : decode cL_isEvent 339 = .ok (.iconst 1, 1) := by decide +kernel
theorem dL_isEvent_340 : decode cL_isEvent 340 = .ok (.goto 4, 3) := by decide +kernel
theorem dL_isEvent_343 : decode cL_isEvent 343 = .ok (.iconst 0, 1) := by decide +kernel
theorem dL_isEvent_344 : decode cL_isEvent 344 = .ok (.istore 18, 2) := by decide +kernel
theorem dL_isEvent_346 : decode cL_isEvent 346 = .ok (.iload 15, 2) := by decide +kernel
theorem dL_isEvent_348 : decode cL_isEvent 348 = .ok (.ifCond .eq 189, 3) := by decide +kernel
theorem dL_isEvent_351 : decode cL_isEvent 351 = .ok (.aload_n 0, 1) := by decide +kernel
theorem dL_isEvent_352 : decode cL_isEvent 352 = .ok (.invokestatic 62, 3) := by decide +kernel
theorem dL_isEvent_355 : decode cL_isEvent 355 = .ok (.iload 12, 2) := by decide +kernel
theorem dL_isEvent_357 : decode cL_isEvent 357 = .ok (.iconst 1, 1) := by decide +kernel
theorem dL_isEvent_358 : decode cL_isEvent 358 = .ok (.iadd, 1) := by decide +kernel
theorem dL_isEvent_359 : decode cL_isEvent 359 = .ok (.if_icmp .ne 178, 3) := by decide +kernel
theorem dL_isEvent_362 : decode cL_isEvent 362 = .ok (.aload_n 0, 1) := by decide +kernel
theorem dL_isEvent_363 : decode cL_isEvent 363 = .ok (.iload_n 1, 1) := by decide +kernel
theorem dL_isEvent_364 : decode cL_isEvent 364 = .ok (.iconst 1, 1) := by decide +kernel
theorem dL_isEvent_365 : decode cL_isEvent 365 = .ok (.invokevirtual 15, 3) := by decide +kernel
theorem dL_isEvent_368 : decode cL_isEvent 368 = .ok (.bipush (-6), 2) := by decide +kernel
theorem dL_isEvent_370 : decode cL_isEvent 370 = .ok (.if_icmp .ne 167, 3) := by decide +kernel
theorem dL_isEvent_373 : decode cL_isEvent 373 = .ok (.aload_n 0, 1) := by decide +kernel
theorem dL_isEvent_374 : decode cL_isEvent 374 = .ok (.iload_n 1, 1) := by decide +kernel
theorem dL_isEvent_375 : decode cL_isEvent 375 = .ok (.iconst 5, 1) := by decide +kernel
theorem dL_isEvent_376 : decode cL_isEvent 376 = .ok (.invokevirtual 15, 3) := by decide +kernel
theorem dL_isEvent_379 : decode cL_isEvent 379 = .ok (.iload 7, 2) := by decide +kernel
theorem dL_isEvent_381 : decode cL_isEvent 381 = .ok (.isub, 1) := by decide +kernel
theorem dL_isEvent_382 : decode cL_isEvent 382 = .ok (.iload 17, 2) := by decide +kernel
theorem dL_isEvent_384 : decode cL_isEvent 384 = .ok (.ifCond .eq 12, 3) := by decide +kernel
theorem dL_isEvent_387 : decode cL_isEvent 387 = .ok (.iload_n 3, 1) := by decide +kernel
theorem dL_isEvent_388 : decode cL_isEvent 388 = .ok (.iconst 3, 1) := by decide +kernel
theorem dL_isEvent_389 : decode cL_isEvent 389 = .ok (.if_icmp .ne 7, 3) := by decide +kernel
theorem dL_isEvent_392 : decode cL_isEvent 392 = .ok (.iconst 1, 1) := by decide +kernel
theorem dL_isEvent_393 : decode cL_isEvent 393 = .ok (.goto 4, 3) := by decide +kernel
theorem dL_isEvent_396 : decode cL_isEvent 396 = .ok (.iconst 0, 1) := by decide +kernel
theorem dL_isEvent_397 : decode cL_isEvent 397 = .ok (.if_icmp .ne 140, 3) := by decide +kernel
theorem dL_isEvent_400 : decode cL_isEvent 400 = .ok (.aload_n 0, 1) := by decide +kernel
theorem dL_isEvent_401 : decode cL_isEvent 401 = .ok (.iload_n 1, 1) := by decide +kernel
theorem dL_isEvent_402 : decode cL_isEvent 402 = .ok (.bipush 6, 2) := by decide +kernel
theorem dL_isEvent_404 : decode cL_isEvent 404 = .ok (.invokevirtual 15, 3) := by decide +kernel
theorem dL_isEvent_407 : decode cL_isEvent 407 = .ok (.iload 8, 2) := by decide +kernel
theorem dL_isEvent_409 : decode cL_isEvent 409 = .ok (.isub, 1) := by decide +kernel
theorem dL_isEvent_410 : decode cL_isEvent 410 = .ok (.iload 18, 2) := by decide +kernel
theorem dL_isEvent_412 : decode cL_isEvent 412 = .ok (.ifCond .eq 7, 3) := by decide +kernel
theorem dL_isEvent_415 : decode cL_isEvent 415 = .ok (.iconst 1, 1) := by decide +kernel
theorem dL_isEvent_416 : decode cL_isEvent 416 = .ok (.goto 4, 3) := by decide +kernel
theorem dL_isEvent_419 : decode cL_isEvent 419 = .ok (.iconst 0, 1) := by decide +kernel
theorem dL_isEvent_420 : decode cL_isEvent 420 = .ok (.if_icmp .ne 117, 3) := by decide +kernel
theorem dL_isEvent_423 : decode cL_isEvent 423 = .ok (.aload_n 0, 1) := by decide +kernel
theorem dL_isEvent_424 : decode cL_isEvent 424 = .ok (.iconst 4, 1) := by decide +kernel
theorem dL_isEvent_425 : decode cL_isEvent 425 = .ok (.invokevirtual 19, 3) := by decide +kernel
theorem dL_isEvent_428 : decode cL_isEvent 428 = .ok (.iload 17, 2) := by decide +kernel
theorem dL_isEvent_430 : decode cL_isEvent 430 = .ok (.ifCond .eq 15, 3) := by decide +kernel
theorem dL_isEvent_433 : decode cL_isEvent 433 = .ok (.iload_n 3, 1) := by decide +kernel
theorem dL_isEvent_434 : decode cL_isEvent 434 = .ok (.iconst 3, 1) := by decide +kernel
theorem dL_isEvent_435 : decode cL_isEvent 435 = .ok (.if_icmp .ne 10, 3) := by decide +kernel
theorem dL_isEvent_438 : decode cL_isEvent 438 = .ok (.iload 9, 2) := by decide +kernel
theorem dL_isEvent_440 : decode cL_isEvent 440 = .ok (.iconst 1, 1) := by decide +kernel
theorem dL_isEvent_441 : decode cL_isEvent 441 = .ok (.iadd, 1) := by decide +kernel
theorem dL_isEvent_442 : decode cL_isEvent 442 = .ok (.goto 22, 3) := by decide +kernel
theorem dL_isEvent_445 : decode cL_isEvent 445 = .ok (.iload 18, 2) := by decide +kernel
theorem dL_isEvent_447 : decode cL_isEvent 447 = .ok (.ifCond .eq 15, 3) := by decide +kernel
theorem dL_isEvent_450 : decode cL_isEvent 450 = .ok (.iload 9, 2) := by decide +kernel
theorem dL_isEvent_452 : decode cL_isEvent 452 = .ok (.ifCond .le 10, 3) := by decide +kernel
theorem dL_isEvent_455 : decode cL_isEvent 455 = .ok (.iload 9, 2) := by decide +kernel
theorem dL_isEvent_457 : decode cL_isEvent 457 = .ok (.iconst 1, 1) := by decide +kernel
theorem dL_isEvent_458 : decode cL_isEvent 458 = .ok (.isub, 1) := by decide +kernel
theorem dL_isEvent_459 : decode cL_isEvent 459 = .ok (.goto 5, 3) := by decide +kernel
theorem dL_isEvent_462 : decode cL_isEvent 462 = .ok (.iload 9, 2) := by decide +kernel
theorem dL_isEvent_464 : decode cL_isEvent 464 = .ok (.if_icmp .ne 73, 3) := by decide +kernel
theorem dL_isEvent_467 : decode cL_isEvent 467 = .ok (.aload_n 0, 1) := by decide +kernel
theorem dL_isEvent_468 : decode cL_isEvent 468 = .ok (.bipush 7, 2) := by decide +kernel
theorem dL_isEvent_470 : decode cL_isEvent 470 = .ok (.invokevirtual 19, 3) := by decide +kernel
theorem dL_isEvent_473 : decode cL_isEvent 473 = .ok (.iload 10, 2) := by decide +kernel
theorem dL_isEvent_475 : decode cL_isEvent 475 = .ok (.isub, 1) := by decide +kernel
theorem dL_isEvent_476 : decode cL_isEvent 476 = .ok (.iload 18, 2) := by decide +kernel
theorem dL_isEvent_478 : decode cL_isEvent 478 = .ok (.ifCond .eq 12, 3) := by decide +kernel
theorem dL_isEvent_481 : decode cL_isEvent 481 = .ok (.iload 9, 2) := by decide +kernel
theorem dL_isEvent_483 : decode cL_isEvent 483 = .ok (.ifCond .ne 7, 3) := by decide +kernel
theorem dL_isEvent_486 : decode cL_isEvent 486 = .ok (.iconst 1, 1) := by decide +kernel
theorem dL_isEvent_487 : decode cL_isEvent 487 = .ok (.goto 4, 3) := by decide +kernel
theorem dL_isEvent_490 : decode cL_isEvent 490 = .ok (.iconst 0, 1) := by decide +kernel
theorem dL_isEvent_491 : decode cL_isEvent 491 = .ok (.if_icmp .ne 46, 3) := by decide +kernel
theorem dL_isEvent_494 : decode cL_isEvent 494 = .ok (.aload_n 0, 1) := by decide +kernel
theorem dL_isEvent_495 : decode cL_isEvent 495 = .ok (.bipush 6, 2) := by decide +kernel
theorem dL_isEvent_497 : decode cL_isEvent 497 = .ok (.invokevirtual 19, 3) := by decide +kernel
theorem dL_isEvent_500 : decode cL_isEvent 500 = .ok (.iload 11, 2) := by decide +kernel
theorem dL_isEvent_502 : decode cL_isEvent 502 = .ok (.isub, 1) := by decide +kernel
theorem dL_isEvent_503 : decode cL_isEvent 503 = .ok (.iload 17, 2) := by decide +kernel
theorem dL_isEvent_505 : decode cL_isEvent 505 = .ok (.ifCond .eq 24, 3) := by decide +kernel
theorem dL_isEvent_508 : decode cL_isEvent 508 = .ok (.iload_n 3, 1) := by decide +kernel
theorem dL_isEvent_509 : decode cL_isEvent 509 = .ok (.iconst 3, 1) := by decide +kernel
theorem dL_isEvent_510 : decode cL_isEvent 510 = .ok (.if_icmp .ne 19, 3) := by decide +kernel
theorem dL_isEvent_513 : decode cL_isEvent 513 = .ok (.iload 9, 2) := by decide +kernel
theorem dL_isEvent_515 : decode cL_isEvent 515 = .ok (.iconst 1, 1) := by decide +kernel
theorem dL_isEvent_516 : decode cL_isEvent 516 = .ok (.iadd, 1) := by decide +kernel
theorem dL_isEvent_517 : decode cL_isEvent 517 = .ok (.aload_n 0, 1) := by decide +kernel
theorem dL_isEvent_518 : decode cL_isEvent 518 = .ok (.iconst 2, 1) := by decide +kernel
theorem dL_isEvent_519 : decode cL_isEvent 519 = .ok (.invokevirtual 19, 3) := by decide +kernel
theorem dL_isEvent_522 : decode cL_isEvent 522 = .ok (.if_icmp .le 7, 3) := by decide +kernel
theorem dL_isEvent_525 : decode cL_isEvent 525 = .ok (.iconst 1, 1) := by decide +kernel
theorem dL_isEvent_526 : decode cL_isEvent 526 = .ok (.goto 4, 3) := by decide +kernel
theorem dL_isEvent_529 : decode cL_isEvent 529 = .ok (.iconst 0, 1) := by decide +kernel
theorem dL_isEvent_530 : decode cL_isEvent 530 = .ok (.if_icmp .ne 7, 3) := by decide +kernel
theorem dL_isEvent_533 : decode cL_isEvent 533 = .ok (.iconst 1, 1) := by decide +kernel
theorem dL_isEvent_534 : decode cL_isEvent 534 = .ok (.goto 4, 3) := by decide +kernel
theorem dL_isEvent_537 : decode cL_isEvent 537 = .ok (.iconst 0, 1) := by decide +kernel
theorem dL_isEvent_538 : decode cL_isEvent 538 = .ok (.ireturn, 1) := by decide +kernel
