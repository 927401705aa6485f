theorem dL_isStep_171 : decode cL_isStep 171 = .ok (.invokevirtual 28, 3) := by decide +kernel
theorem dL_isStep_174 : decode cL_isStep 174 = .ok (.iload 8, 2) := by decide +kernel
theorem dL_isStep_176 : decode cL_isStep 176 = .ok (.if_icmp .ne 31, 3) := by decide +kernel
theorem dL_isStep_179 : decode cL_isStep 179 = .ok (.aload_n 1, 1) := by decide +kernel
theorem dL_isStep_180 : decode cL_isStep 180 = .ok (.iload 6, 2) := by decide +kernel
theorem dL_isStep_182 : decode cL_isStep 182 = .ok (.iload 7, 2) := by decide +kernel
theorem dL_isStep_184 : decode cL_isStep 184 = .ok (.invokevirtual 28, 3) := by decide +kernel
theorem dL_isStep_187 : decode cL_isStep 187 = .ok (.iload 8, 2) := by decide +kernel
theorem dL_isStep_189 : decode cL_isStep 189 = .ok (.if_icmp .ne 18, 3) := by decide +kernel
theorem dL_isStep_192 : decode cL_isStep 192 = .ok (.aload_n 0, 1) := by decide +kernel
theorem dL_isStep_193 : decode cL_isStep 193 = .ok (.iload 6, 2) := by decide +kernel
theorem dL_isStep_195 : decode cL_isStep 195 = .ok (.invokevirtual 19, 3) := by decide +kernel
theorem dL_isStep_198 : decode cL_isStep 198 = .ok (.iload 7, 2) := by decide +kernel
theorem dL_isStep_200 : decode cL_isStep 200 = .ok (.if_icmp .ne 7, 3) := by decide +kernel
theorem dL_isStep_203 : decode cL_isStep 203 = .ok (.iconst 1, 1) := by decide +kernel
theorem dL_isStep_204 : decode cL_isStep 204 = .ok (.goto 4, 3) := by decide +kernel
theorem dL_isStep_207 : decode cL_isStep 207 = .ok (.iconst 0, 1) := by decide +kernel
theorem dL_isStep_208 : decode cL_isStep 208 = .ok (.ireturn, 1) := by decide +kernel
theorem dL_isStep_209 : decode cL_isStep 209 = .ok (.iconst 1, 1) := by decide +kernel
theorem dL_isStep_210 : decode cL_isStep 210 = .ok (.iload_n 3, 1) := by decide +kernel
theorem dL_isStep_211 : decode cL_isStep 211 = .ok (.iload 4, 2) := by decide +kernel
theorem dL_isStep_213 : decode cL_isStep 213 = .ok (.iconst 5, 1) := by decide +kernel
theorem dL_isStep_214 : decode cL_isStep 214 = .ok (.invokestatic 23, 3) := by decide +kernel
theorem dL_isStep_217 : decode cL_isStep 217 = .ok (.ifCond .ne 8, 3) := by decide +kernel
theorem dL_isStep_220 : decode cL_isStep 220 = .ok (.bipush 99, 2) := by decide +kernel
theorem dL_isStep_222 : decode cL_isStep 222 = .ok (.goto 5, 3) := by decide +kernel
theorem dL_isStep_225 : decode cL_isStep 225 = .ok (.bipush 6, 2) := by decide +kernel
theorem dL_isStep_227 : decode cL_isStep 227 = .ok (.invokestatic 23, 3) := by decide +kernel
theorem dL_isStep_230 : decode cL_isStep 230 = .ok (.iadd, 1) := by decide +kernel
theorem dL_isStep_231 : decode cL_isStep 231 = .ok (.istore 6, 2) := by decide +kernel
theorem dL_isStep_233 : decode cL_isStep 233 = .ok (.aload_n 0, 1) := by decide +kernel
theorem dL_isStep_234 : decode cL_isStep 234 = .ok (.iconst 3, 1) := by decide +kernel
theorem dL_isStep_235 : decode cL_isStep 235 = .ok (.invokevirtual 19, 3) := by decide +kernel
theorem dL_isStep_238 : decode cL_isStep 238 = .ok (.istore 7, 2) := by decide +kernel
theorem dL_isStep_240 : decode cL_isStep 240 = .ok (.aload_n 0, 1) := by decide +kernel
theorem dL_isStep_241 : decode cL_isStep 241 = .ok (.invokevirtual 31, 3) := by decide +kernel
theorem dL_isStep_244 : decode cL_isStep 244 = .ok (.istore 8, 2) := by decide +kernel
theorem dL_isStep_246 : decode cL_isStep 246 = .ok (.aload_n 0, 1) := by decide +kernel
theorem dL_isStep_247 : decode cL_isStep 247 = .ok (.bipush 14, 2) := by decide +kernel
theorem dL_isStep_249 : decode cL_isStep 249 = .ok (.invokevirtual 19, 3) := by decide +kernel
theorem dL_isStep_252 : decode cL_isStep 252 = .ok (.istore 9, 2) := by decide +kernel
theorem dL_isStep_254 : decode cL_isStep 254 = .ok (.aload_n 0, 1) := by decide +kernel
theorem dL_isStep_255 : decode cL_isStep 255 = .ok (.iload 6, 2) := by decide +kernel
theorem dL_isStep_257 : decode cL_isStep 257 = .ok (.invokevirtual 35, 3) := by decide +kernel
theorem dL_isStep_260 : decode cL_isStep 260 = .ok (.istore 10, 2) := by decide +kernel
theorem dL_isStep_262 : decode cL_isStep 262 = .ok (.iconst 0, 1) := by decide +kernel
theorem dL_isStep_263 : decode cL_isStep 263 = .ok (.istore 11, 2) := by decide +kernel
theorem dL_isStep_265 : decode cL_isStep 265 = .ok (.iconst 0, 1) := by decide +kernel
theorem dL_isStep_266 : decode cL_isStep 266 = .ok (.istore 12, 2) := by decide +kernel
theorem dL_isStep_268 : decode cL_isStep 268 = .ok (.iload 12, 2) := by decide +kernel
theorem dL_isStep_270 : decode cL_isStep 270 = .ok (.bipush 6, 2) := by decide +kernel
theorem dL_isStep_272 : decode cL_isStep 272 = .ok (.if_icmp .ge 21, 3) := by decide +kernel
theorem dL_isStep_275 : decode cL_isStep 275 = .ok (.iload 11, 2) := by decide +kernel
theorem dL_isStep_277 : decode cL_isStep 277 = .ok (.aload_n 0, 1) := by decide +kernel
theorem dL_isStep_278 : decode cL_isStep 278 = .ok (.iload 12, 2) := by decide +kernel
theorem dL_isStep_280 : decode cL_isStep 280 = .ok (.iconst 4, 1) := by decide +kernel
theorem dL_isStep_281 : decode cL_isStep 281 = .ok (.invokevirtual 15, 3) := by decide +kernel
theorem dL_isStep_284 : decode cL_isStep 284 = .ok (.iadd, 1) := by decide +kernel
theorem dL_isStep_285 : decode cL_isStep 285 = .ok (.istore 11, 2) := by decide +kernel
theorem dL_isStep_287 : decode cL_isStep 287 = .ok (.iinc 12 1, 3) := by decide +kernel
theorem dL_isStep_290 : decode cL_isStep 290 = .ok (.goto (-22), 3) := by decide +kernel
theorem dL_isStep_293 : decode cL_isStep 293 = .ok (.aload_n 1, 1) := by decide +kernel
theorem dL_isStep_294 : decode cL_isStep 294 = .ok (.invokevirtual 38, 3) := by decide +kernel
theorem dL_isStep_297 : decode cL_isStep 297 = .ok (.ifCond .lt 103, 3) := by decide +kernel
theorem dL_isStep_300 : decode cL_isStep 300 = .ok (.aload_n 1, 1) := by decide +kernel
theorem dL_isStep_301 : decode cL_isStep 301 = .ok (.ldc2_w 41, 3) := by decide +kernel
theorem dL_isStep_304 : decode cL_isStep 304 = .ok (.invokevirtual 9, 3) := by decide +kernel
theorem dL_isStep_307 : decode cL_isStep 307 = .ok (.ifCond .le 93, 3) := by decide +kernel
theorem dL_isStep_310 : decode cL_isStep 310 = .ok (.aload_n 1, 1) := by decide +kernel
theorem dL_isStep_311 : decode cL_isStep 311 = .ok (.iload 6, 2) := by decide +kernel
theorem dL_isStep_313 : decode cL_isStep 313 = .ok (.invokestatic 43, 3) := by decide +kernel
theorem dL_isStep_316 : decode cL_isStep 316 = .ok (.ifCond .eq 84, 3) := by decide +kernel
theorem dL_isStep_319 : decode cL_isStep 319 = .ok (.aload_n 1, 1) := by decide +kernel
theorem dL_isStep_320 : decode cL_isStep 320 = .ok (.invokevirtual 47, 3) := by decide +kernel
theorem dL_isStep_323 : decode cL_isStep 323 = .ok (.ifCond .ne 77, 3) := by decide +kernel
theorem dL_isStep_326 : decode cL_isStep 326 = .ok (.aload_n 0, 1) := by decide +kernel
theorem dL_isStep_327 : decode cL_isStep 327 = .ok (.iconst 3, 1) := by decide +kernel
theorem dL_isStep_328 : decode cL_isStep 328 = .ok (.invokevirtual 19, 3) := by decide +kernel
theorem dL_isStep_331 : decode cL_isStep 331 = .ok (.iload 7, 2) := by decide +kernel
theorem dL_isStep_333 : decode cL_isStep 333 = .ok (.iload 6, 2) := by decide +kernel
theorem dL_isStep_335 : decode cL_isStep 335 = .ok (.iadd, 1) := by decide +kernel
theorem dL_isStep_336 : decode cL_isStep 336 = .ok (.if_icmp .ne 64, 3) := by decide +kernel
theorem dL_isStep_339 : decode cL_isStep 339 = .ok (.iload 10, 2) := by decide +kernel
